set_option maxRecDepth 100000 in
set_option maxHeartbeats 8000000 in
theorem p_X12_watcher {l : Launch} {E : Ez} {L : List Nat} {f : Nat → va_E} {T : Nat → va_E → Prop} {a_0 : Nat} {q : Nat → Nat} (hW : WT T L f) (k_0 : isM T L E a_0 q) : CI l yX12_watcher cX12_watcher 1 .int 8 0 0 E [.ref a_0] L f (fun r L1 f1 => L = L1 ∧ WT T L f1 ∧ FR [12, 2176] f f1) := by
  refine ci_of (by decide) (Nat.le_of_ble_eq_true rfl) (fun z hz hnm hC hR => ?_)
  have hC : Cx z E cX12_watcher RX12 1 8 0 0 := hC
  subst hz
  show V z E 1 0 0 L f 0 [(0, .ref a_0)] []
  obtain ⟨m_1, t_2, nq_21, k_3, k_4, k_5, k_6, k_7, k_8, k_9, k_10, k_11, k_12, k_13, k_14, k_15, k_16, k_17, k_18, k_19, k_20⟩ := id k_0
  refine v_aload_n hC dX12_watcher_0 rfl ?_
  obtain ⟨v_23, v_24, v_25, v_27, v_29, v_31, v_33, v_34, v_35, v_36, v_37, e_22, -, b_26, b_28, b_30, b_32, -, -⟩ := hW.at m_1 t_2
  refine v_vv hC (rest := []) m_1 e_22 rfl mi_X12_begin ms_X12_begin (p_X12_begin hW k_0) mx_X12_begin ml_X12_181 (by decide) rfl (cells1 := 0) (slots1 := 0) (by decide) (by decide) (Nat.le_of_ble_eq_true rfl) (Nat.le_of_ble_eq_true rfl) rfl (Nat.le_of_ble_eq_true rfl) dX12_watcher_1 (fun L_39 f_40 h_41 => ?_)
  obtain ⟨rfl, hW_44, hF_45, x_42, x_43, -⟩ := h_41
  obtain ⟨v_47, v_48, v_49, v_51, v_53, v_55, v_57, v_58, v_59, v_60, v_61, e_46, -, b_50, b_52, b_54, b_56, -, -⟩ := hW_44.at m_1 t_2
  have fe_62 : fld (f_40 a_0) 8 = (v_51 : Int32).toInt := by rw [e_46]; rfl
  have fe_63 : fld (f_40 a_0) 12 = (v_58 : Int32).toInt := by rw [e_46]; rfl
  rw [fe_63] at x_42
  rw [fe_62] at x_43
  clear fe_62 fe_63
  refine v_aload_n hC dX12_watcher_4 rfl ?_
  refine v_iconst hC dX12_watcher_5 (v := 3) (by decide) ?_
  refine v_bipush hC dX12_watcher_6 (v := 6) (by decide) ?_
  obtain ⟨m_64, t_65⟩ := id k_3
  obtain ⟨g_67, e_66, ok_68⟩ := hW_44.at m_64 t_65
  have b_69 := ok_68.r0
  have b_70 := ok_68.w0
  obtain ⟨m_71, t_72⟩ := id k_8
  obtain ⟨g_74, e_73, ok_75⟩ := hW_44.at m_71 t_72
  refine v_vv hC (rest := []) m_1 e_46 rfl mi_X12_clears ms_X12_clears (p_X12_clears k_0 e_46 e_73 (by decide)) mx_X12_clears ml_X12_184 (by decide) rfl (cells1 := 0) (slots1 := 0) (by decide) (by decide) (Nat.le_of_ble_eq_true rfl) (Nat.le_of_ble_eq_true rfl) rfl (Nat.le_of_ble_eq_true rfl) dX12_watcher_8 (fun L_77 f_78 h_79 => ?_)
  obtain ⟨rfl, hf_80, hk_81⟩ := h_79
  have hf_82 := (hk_81 a_0 (ne_kd e_46 e_73 rfl)).trans e_46
  have hf_83 := (hk_81 (q 1) nq_21).trans e_66
  obtain ⟨g_86, e_87, ok_85, eg_88⟩ : ∃ g9, f_78 (q 14) = aI E 2076 g9 ∧ FOK g9 ∧ g9 = (va_cpy (fun _ => 0) g_74 (3 : Int32).toNatClampNeg (3 : Int32).toNatClampNeg ((6 : Int32).toNatClampNeg - (3 : Int32).toNatClampNeg)) := ⟨_, hf_80, (ok_75.clr _ _), rfl⟩
  have hW_84 := hW_44.up e_87 hk_81 t_72 ⟨_, rfl, ok_85⟩
  have fr_89 := FR.w hk_81 e_73 (k := 2176) rfl
  have wc_90_4 : g_86 4 = 0 := by rw [eg_88]; rfl
  have wc_90_5 : g_86 5 = 0 := by rw [eg_88]; rfl
  have wc_90 := WC.zero wc_90_4 wc_90_5
  have wc_90_t : (g_86 5).toInt = 0 := by rw [wc_90_5]; decide
  refine v_aload_n hC dX12_watcher_11 rfl ?_
  refine v_vv hC (rest := []) m_1 hf_82 rfl mi_X12_advance ms_X12_advance (p_X12_advance hW_84 k_0) mx_X12_advance ml_X12_156 (by decide) rfl (cells1 := 0) (slots1 := 0) (by decide) (by decide) (Nat.le_of_ble_eq_true rfl) (Nat.le_of_ble_eq_true rfl) rfl (Nat.le_of_ble_eq_true rfl) dX12_watcher_12 (fun L_92 f_93 h_94 => ?_)
  obtain ⟨rfl, hW_98, hF_99, x_95, x_96, x_97, -⟩ := h_94
  have fe_100 : fld (f_78 a_0) 8 = (v_51 : Int32).toInt := by rw [hf_82]; rfl
  have fe_101 : fld (f_78 a_0) 12 = (v_58 : Int32).toInt := by rw [hf_82]; rfl
  have hf_102 := hF_99.at hf_83 rfl
  have hf_103 := hF_99.at e_87 rfl
  obtain ⟨v_105, v_106, v_107, v_109, v_111, v_113, v_115, v_116, v_117, v_118, v_119, e_104, -, b_108, b_110, b_112, b_114, -, -⟩ := hW_98.at m_1 t_2
  have fe_120 : fld (f_93 a_0) 8 = (v_109 : Int32).toInt := by rw [e_104]; rfl
  have fe_121 : fld (f_93 a_0) 9 = (v_111 : Int32).toInt := by rw [e_104]; rfl
  have fe_122 : fld (f_93 a_0) 10 = (v_113 : Int32).toInt := by rw [e_104]; rfl
  have fe_123 : fld (f_93 a_0) 12 = (v_116 : Int32).toInt := by rw [e_104]; rfl
  rw [fe_100, fe_121, fe_120] at x_95
  rw [fe_122, fe_121, fe_120] at x_96
  rw [fe_123, fe_101] at x_97
  clear fe_100 fe_101 fe_120 fe_121 fe_122 fe_123
  have lp_10743 : ∀ (n_10744 : Nat) (f_10739 : Nat → va_E) (hW_10740 : WT T L f_10739) (hF_10741 : FR [12, 2176] f_93 f_10739)  (cv_10742 : ∃ g9 : Nat → Int32, (f_10739 (q 14)) = aI E 2076 g9 ∧ FOK g9 ∧ WC g9 ∧ (¬ fld (f_10739 a_0) 12 = 0 ∨ (4 * (g9 5).toInt ≤ fld (f_10739 a_0) 9 + 3 ∧ (fld (f_10739 a_0) 10 = 0 ∨ fld (f_10739 a_0) 9 < fld (f_10739 a_0) 8)))) (hm_10746 : gm (f_10739 a_0) < (n_10744 : Int)), V z E 1 0 0 L f_10739 15 [(0, .ref a_0)] [] := by
    intro n_10744
    induction n_10744 with
    | zero =>
      intro f_10739 hW_10740 hF_10741 cv_10742 hm_10746
      obtain ⟨g_10747, e_10748, ok_10749, wc_10750, lo_10751⟩ := cv_10742
      have wc_10750_b := wc_10750.1
      obtain ⟨v_10753, v_10754, v_10755, v_10757, v_10759, v_10761, v_10763, v_10764, v_10765, v_10766, v_10767, e_10752, -, b_10756, b_10758, b_10760, b_10762, -, -⟩ := hW_10740.at m_1 t_2
      have fe_10768 : fld (f_10739 a_0) 8 = (v_10757 : Int32).toInt := by rw [e_10752]; rfl
      have fe_10769 : fld (f_10739 a_0) 9 = (v_10759 : Int32).toInt := by rw [e_10752]; rfl
      have fe_10770 : fld (f_10739 a_0) 10 = (v_10761 : Int32).toInt := by rw [e_10752]; rfl
      have fe_10771 : fld (f_10739 a_0) 12 = (v_10764 : Int32).toInt := by rw [e_10752]; rfl
      rw [fe_10768, fe_10769, fe_10770, fe_10771] at lo_10751
      have gb_10772 := gm_b (f_10739 a_0)
      have fe_10773 : fld (f_10739 a_0) 8 = (v_10757 : Int32).toInt := by rw [e_10752]; rfl
      have fe_10774 : fld (f_10739 a_0) 12 = (v_10764 : Int32).toInt := by rw [e_10752]; rfl
      rw [fe_10773, fe_10774] at gb_10772
      exfalso; omega
    | succ n_10744 ih_10745 =>
      intro f_10739 hW_10740 hF_10741 cv_10742 hm_10746
      obtain ⟨g_10747, e_10748, ok_10749, wc_10750, lo_10751⟩ := cv_10742
      have wc_10750_b := wc_10750.1
      obtain ⟨v_10753, v_10754, v_10755, v_10757, v_10759, v_10761, v_10763, v_10764, v_10765, v_10766, v_10767, e_10752, -, b_10756, b_10758, b_10760, b_10762, -, -⟩ := hW_10740.at m_1 t_2
      have fe_10768 : fld (f_10739 a_0) 8 = (v_10757 : Int32).toInt := by rw [e_10752]; rfl
      have fe_10769 : fld (f_10739 a_0) 9 = (v_10759 : Int32).toInt := by rw [e_10752]; rfl
      have fe_10770 : fld (f_10739 a_0) 10 = (v_10761 : Int32).toInt := by rw [e_10752]; rfl
      have fe_10771 : fld (f_10739 a_0) 12 = (v_10764 : Int32).toInt := by rw [e_10752]; rfl
      rw [fe_10768, fe_10769, fe_10770, fe_10771] at lo_10751
      have gb_10772 := gm_b (f_10739 a_0)
      have fe_10773 : fld (f_10739 a_0) 8 = (v_10757 : Int32).toInt := by rw [e_10752]; rfl
      have fe_10774 : fld (f_10739 a_0) 12 = (v_10764 : Int32).toInt := by rw [e_10752]; rfl
      rw [fe_10773, fe_10774] at gb_10772
      refine v_aload_n hC dX12_watcher_15 rfl ?_
      refine v_vi hC (rest := []) m_1 e_10752 rfl mi_X12_good ms_X12_good (p_X12_good hW_10740 k_0) mx_X12_good ml_X12_139 (by decide) rfl (cells1 := 0) (slots1 := 0) (by decide) (by decide) (Nat.le_of_ble_eq_true rfl) (Nat.le_of_ble_eq_true rfl) rfl (Nat.le_of_ble_eq_true rfl) dX12_watcher_16 (fun r_10775 L_10776 f_10777 h_10778 => ?_)
      obtain ⟨rfl, rfl, b_10779, x_10780⟩ := h_10778
      have fe_10783 : fld (f_10739 a_0) 12 = (v_10764 : Int32).toInt := by rw [e_10752]; rfl
      rw [fe_10783] at x_10780
      clear fe_10783
      try simp only [Int32.reduceToInt, Int64.reduceToInt] at x_10780
      refine v_if_eq hC dX12_watcher_19 (tgt := 114) (by decide) (fun h_10784 => ?_) (fun h_10784 => ?_)
      · simp only [Int32.lt_iff_toInt_lt, Int32.le_iff_toInt_le, Int32.reduceToInt, ← Int32.toInt_inj] at h_10784
        have g0_10785 := gd_f x_10780 h_10784
        clear x_10780
        clear lo_10751
        refine v_aload_n hC dX12_watcher_114 rfl ?_
        refine v_vi hC (rest := []) m_1 e_10752 rfl mi_X12_good ms_X12_good (p_X12_good hW_10740 k_0) mx_X12_good ml_X12_139 (by decide) rfl (cells1 := 0) (slots1 := 0) (by decide) (by decide) (Nat.le_of_ble_eq_true rfl) (Nat.le_of_ble_eq_true rfl) rfl (Nat.le_of_ble_eq_true rfl) dX12_watcher_115 (fun r_10789 L_10790 f_10791 h_10792 => ?_)
        obtain ⟨rfl, rfl, b_10793, x_10794⟩ := h_10792
        have fe_10797 : fld (f_10739 a_0) 12 = (v_10764 : Int32).toInt := by rw [e_10752]; rfl
        rw [fe_10797] at x_10794
        clear fe_10797
        try simp only [Int32.reduceToInt, Int64.reduceToInt] at x_10794
        refine v_if_ne_f hC dX12_watcher_118 (tgt := 124) (by decide) (gdb_z x_10794 g0_10785) ?_
        refine v_bipush hC dX12_watcher_121 (v := (-4)) (by decide) ?_
        exact hR _ _ _ _ _ _ _ dX12_watcher_123 rfl (Nat.le_of_ble_eq_true rfl) (Nat.le_of_ble_eq_true rfl) ⟨rfl, hW_10740, ((((hF_45.tr fr_89).tr hF_99).tr hF_10741).mono rfl)⟩
      · simp only [Int32.lt_iff_toInt_lt, Int32.le_iff_toInt_le, Int32.reduceToInt, ← Int32.toInt_inj] at h_10784
        have nb_10786 : (1 ≤ r_10775.toInt ∧ r_10775.toInt ≤ 1) := by omega
        have g0_10787 := gd_t x_10780 h_10784
        clear x_10780
        have gp_10788 := lo_10751.resolve_left (fun h9 => h9 g0_10787)
        clear lo_10751
        refine v_aload_n hC dX12_watcher_22 rfl ?_
        refine v_get hC fl_X12_120 m_1 e_10752 rfl dX12_watcher_23 ?_
        refine v_if_eq hC dX12_watcher_26 (tgt := 114) (by decide) (fun h_10798 => ?_) (fun h_10798 => ?_)
        · simp only [Int32.lt_iff_toInt_lt, Int32.le_iff_toInt_le, Int32.reduceToInt, ← Int32.toInt_inj] at h_10798
          refine v_aload_n hC dX12_watcher_114 rfl ?_
          refine v_vi hC (rest := []) m_1 e_10752 rfl mi_X12_good ms_X12_good (p_X12_good hW_10740 k_0) mx_X12_good ml_X12_139 (by decide) rfl (cells1 := 0) (slots1 := 0) (by decide) (by decide) (Nat.le_of_ble_eq_true rfl) (Nat.le_of_ble_eq_true rfl) rfl (Nat.le_of_ble_eq_true rfl) dX12_watcher_115 (fun r_10800 L_10801 f_10802 h_10803 => ?_)
          obtain ⟨rfl, rfl, b_10804, x_10805⟩ := h_10803
          have fe_10808 : fld (f_10739 a_0) 12 = (v_10764 : Int32).toInt := by rw [e_10752]; rfl
          rw [fe_10808] at x_10805
          clear fe_10808
          try simp only [Int32.reduceToInt, Int64.reduceToInt] at x_10805
          refine v_if_ne_t hC dX12_watcher_118 (tgt := 124) (by decide) (gdb_n x_10805 g0_10787) ?_
          obtain ⟨g_10810, e_10809, ok_10811⟩ := hW_10740.at m_64 t_65
          have b_10812 := ok_10811.r0
          have b_10813 := ok_10811.w0
          refine v_aload_n hC dX12_watcher_124 rfl ?_
          refine v_iconst hC dX12_watcher_125 (v := 3) (by decide) ?_
          refine v_bipush hC dX12_watcher_126 (v := 6) (by decide) ?_
          refine v_vv hC (rest := []) m_1 e_10752 rfl mi_X12_keeps ms_X12_keeps (p_X12_keeps k_0 e_10752 e_10809 e_10748 (by decide)) mx_X12_keeps ml_X12_197 (by decide) rfl (cells1 := 0) (slots1 := 0) (by decide) (by decide) (Nat.le_of_ble_eq_true rfl) (Nat.le_of_ble_eq_true rfl) rfl (Nat.le_of_ble_eq_true rfl) dX12_watcher_128 (fun L_10815 f_10816 h_10817 => ?_)
          obtain ⟨rfl, hf_10818, hk_10819⟩ := h_10817
          have hf_10820 := (hk_10819 a_0 (ne_kd e_10752 e_10809 rfl)).trans e_10752
          have hf_10821 := (hk_10819 (q 14) nq_21.symm).trans e_10748
          refine v_aload_n hC dX12_watcher_131 rfl ?_
          refine v_sipush hC dX12_watcher_132 (v := 162) (by decide) ?_
          refine v_sipush hC dX12_watcher_135 (v := 1012) (by decide) ?_
          refine v_vv hC (rest := []) m_1 hf_10820 rfl mi_X12_keeps ms_X12_keeps (p_X12_keeps k_0 hf_10820 hf_10818 hf_10821 (by decide)) mx_X12_keeps ml_X12_197 (by decide) rfl (cells1 := 0) (slots1 := 0) (by decide) (by decide) (Nat.le_of_ble_eq_true rfl) (Nat.le_of_ble_eq_true rfl) rfl (Nat.le_of_ble_eq_true rfl) dX12_watcher_138 (fun L_10823 f_10824 h_10825 => ?_)
          obtain ⟨rfl, hf_10826, hk_10827⟩ := h_10825
          have hf_10828 := (hk_10827 a_0 (ne_kd hf_10820 hf_10818 rfl)).trans hf_10820
          have hf_10829 := (hk_10827 (q 14) nq_21.symm).trans hf_10821
          have kr_10830 : ∀ x9, x9 ≠ (q 1) → f_10824 x9 = f_10739 x9 := fun x9 hx9 => (hk_10827 x9 hx9).trans (hk_10819 x9 hx9)
          obtain ⟨g_10833, e_10834, ok_10832, eg_10835⟩ : ∃ g9, f_10824 (q 1) = aI E 2076 g9 ∧ WOK g9 ∧ g9 = (va_cpy g_10747 (va_cpy g_10747 g_10810 (3 : Int32).toNatClampNeg (3 : Int32).toNatClampNeg ((6 : Int32).toNatClampNeg - (3 : Int32).toNatClampNeg)) (162 : Int32).toNatClampNeg (162 : Int32).toNatClampNeg ((1012 : Int32).toNatClampNeg - (162 : Int32).toNatClampNeg)) := ⟨_, hf_10826, (WOK.wat ok_10811 ok_10749 wc_10750), rfl⟩
          have hW_10831 := hW_10740.up e_10834 kr_10830 t_65 ⟨_, rfl, ok_10832⟩
          have fr_10836 := FR.w kr_10830 e_10809 (k := 2176) rfl
          have b_10837 := ok_10832.r0
          have b_10838 := ok_10832.w0
          refine v_aload_n hC dX12_watcher_141 rfl ?_
          refine v_get hC fl_X12_13 m_1 hf_10828 rfl dX12_watcher_142 ?_
          refine v_iconst hC dX12_watcher_145 (v := 3) (by decide) ?_
          refine v_iald hC m_64 e_10834 (vp_in_iff.mpr (by decide)) (v := g_10833 3) rfl dX12_watcher_146 ?_
          exact hR _ _ _ _ _ _ _ dX12_watcher_147 rfl (Nat.le_of_ble_eq_true rfl) (Nat.le_of_ble_eq_true rfl) ⟨rfl, hW_10831, (((((hF_45.tr fr_89).tr hF_99).tr hF_10741).tr fr_10836).mono rfl)⟩
        · simp only [Int32.lt_iff_toInt_lt, Int32.le_iff_toInt_le, Int32.reduceToInt, ← Int32.toInt_inj] at h_10798
          have nb_10799 : (1 ≤ v_10761.toInt ∧ v_10761.toInt ≤ 4) := by omega
          refine v_aload_n hC dX12_watcher_29 rfl ?_
          refine v_ldcwS hC sr_X12_278 dX12_watcher_30 ?_
          refine v_vi hC (rest := []) m_1 e_10752 rfl mi_X12_is ms_X12_is (p_X12_is hW_10740 k_0 (by decide)) mx_X12_is ml_X12_152 (by decide) rfl (cells1 := 0) (slots1 := 0) (by decide) (by decide) (Nat.le_of_ble_eq_true rfl) (Nat.le_of_ble_eq_true rfl) rfl (Nat.le_of_ble_eq_true rfl) dX12_watcher_33 (fun r_10839 L_10840 f_10841 h_10842 => ?_)
          obtain ⟨rfl, rfl, rfl⟩ := h_10842
          refine v_if_eq hC dX12_watcher_36 (tgt := 55) (by decide) (fun h_10845 => ?_) (fun h_10845 => ?_)
          · simp only [Int32.lt_iff_toInt_lt, Int32.le_iff_toInt_le, Int32.reduceToInt, ← Int32.toInt_inj] at h_10845
            refine v_aload_n hC dX12_watcher_55 rfl ?_
            refine v_ldcwS hC sr_X12_278 dX12_watcher_56 ?_
            refine v_vv hC (rest := []) m_1 e_10752 rfl mi_X12_needs ms_X12_needs (p_X12_needs hW_10740 k_0 (by decide)) mx_X12_needs ml_X12_166 (by decide) rfl (cells1 := 0) (slots1 := 0) (by decide) (by decide) (Nat.le_of_ble_eq_true rfl) (Nat.le_of_ble_eq_true rfl) rfl (Nat.le_of_ble_eq_true rfl) dX12_watcher_59 (fun L_10847 f_10848 h_10849 => ?_)
            obtain ⟨rfl, hW_10851, hF_10852, -, -, -, -, x_10850⟩ := h_10849
            have fe_10853 : fld (f_10739 a_0) 8 = (v_10757 : Int32).toInt := by rw [e_10752]; rfl
            have fe_10854 : fld (f_10739 a_0) 9 = (v_10759 : Int32).toInt := by rw [e_10752]; rfl
            have fe_10855 : fld (f_10739 a_0) 10 = (v_10761 : Int32).toInt := by rw [e_10752]; rfl
            have fe_10856 : fld (f_10739 a_0) 12 = (v_10764 : Int32).toInt := by rw [e_10752]; rfl
            have ib_10857 := iw_b (f_10739 a_0) (f_10739 (q 4)) 54
            have ln_10858 : ((bytStr.getD 54 []).length : Int) = 4 := by rfl
            rw [fe_10856, fe_10855, fe_10853, fe_10854] at ib_10857
            have hf_10859 := hF_10852.at e_10748 rfl
            obtain ⟨v_10861, v_10862, v_10863, v_10865, v_10867, v_10869, v_10871, v_10872, v_10873, v_10874, v_10875, e_10860, -, b_10864, b_10866, b_10868, b_10870, -, -⟩ := hW_10851.at m_1 t_2
            have fe_10876 : fld (f_10848 a_0) 8 = (v_10865 : Int32).toInt := by rw [e_10860]; rfl
            have fe_10877 : fld (f_10848 a_0) 9 = (v_10867 : Int32).toInt := by rw [e_10860]; rfl
            have fe_10878 : fld (f_10848 a_0) 10 = (v_10869 : Int32).toInt := by rw [e_10860]; rfl
            have fe_10879 : fld (f_10848 a_0) 12 = (v_10872 : Int32).toInt := by rw [e_10860]; rfl
            rw [fe_10879, fe_10856, fe_10853, fe_10877, fe_10876, fe_10878] at x_10850
            clear fe_10853 fe_10854 fe_10855 fe_10856 fe_10876 fe_10877 fe_10878 fe_10879
            refine v_aload_n hC dX12_watcher_62 rfl ?_
            refine v_ldcwS hC sr_X12_280 dX12_watcher_63 ?_
            refine v_vv hC (rest := []) m_1 e_10860 rfl mi_X12_needs ms_X12_needs (p_X12_needs hW_10851 k_0 (by decide)) mx_X12_needs ml_X12_166 (by decide) rfl (cells1 := 0) (slots1 := 0) (by decide) (by decide) (Nat.le_of_ble_eq_true rfl) (Nat.le_of_ble_eq_true rfl) rfl (Nat.le_of_ble_eq_true rfl) dX12_watcher_66 (fun L_10881 f_10882 h_10883 => ?_)
            obtain ⟨rfl, hW_10885, hF_10886, -, -, -, -, x_10884⟩ := h_10883
            have fe_10887 : fld (f_10848 a_0) 8 = (v_10865 : Int32).toInt := by rw [e_10860]; rfl
            have fe_10888 : fld (f_10848 a_0) 9 = (v_10867 : Int32).toInt := by rw [e_10860]; rfl
            have fe_10889 : fld (f_10848 a_0) 10 = (v_10869 : Int32).toInt := by rw [e_10860]; rfl
            have fe_10890 : fld (f_10848 a_0) 12 = (v_10872 : Int32).toInt := by rw [e_10860]; rfl
            have ib_10891 := iw_b (f_10848 a_0) (f_10848 (q 4)) 55
            have ln_10892 : ((bytStr.getD 55 []).length : Int) = 2 := by rfl
            rw [fe_10890, fe_10889, fe_10887, fe_10888] at ib_10891
            have hf_10893 := hF_10886.at hf_10859 rfl
            obtain ⟨v_10895, v_10896, v_10897, v_10899, v_10901, v_10903, v_10905, v_10906, v_10907, v_10908, v_10909, e_10894, -, b_10898, b_10900, b_10902, b_10904, -, -⟩ := hW_10885.at m_1 t_2
            have fe_10910 : fld (f_10882 a_0) 8 = (v_10899 : Int32).toInt := by rw [e_10894]; rfl
            have fe_10911 : fld (f_10882 a_0) 9 = (v_10901 : Int32).toInt := by rw [e_10894]; rfl
            have fe_10912 : fld (f_10882 a_0) 10 = (v_10903 : Int32).toInt := by rw [e_10894]; rfl
            have fe_10913 : fld (f_10882 a_0) 12 = (v_10906 : Int32).toInt := by rw [e_10894]; rfl
            rw [fe_10913, fe_10890, fe_10887, fe_10911, fe_10910, fe_10912] at x_10884
            clear fe_10887 fe_10888 fe_10889 fe_10890 fe_10910 fe_10911 fe_10912 fe_10913
            refine v_aload_n hC dX12_watcher_69 rfl ?_
            refine v_vi hC (rest := []) m_1 e_10894 rfl mi_X12_good ms_X12_good (p_X12_good hW_10885 k_0) mx_X12_good ml_X12_139 (by decide) rfl (cells1 := 0) (slots1 := 0) (by decide) (by decide) (Nat.le_of_ble_eq_true rfl) (Nat.le_of_ble_eq_true rfl) rfl (Nat.le_of_ble_eq_true rfl) dX12_watcher_70 (fun r_10914 L_10915 f_10916 h_10917 => ?_)
            obtain ⟨rfl, rfl, b_10918, x_10919⟩ := h_10917
            have fe_10922 : fld (f_10882 a_0) 12 = (v_10906 : Int32).toInt := by rw [e_10894]; rfl
            rw [fe_10922] at x_10919
            clear fe_10922
            try simp only [Int32.reduceToInt, Int64.reduceToInt] at x_10919
            refine v_if_eq hC dX12_watcher_73 (tgt := 80) (by decide) (fun h_10923 => ?_) (fun h_10923 => ?_)
            · simp only [Int32.lt_iff_toInt_lt, Int32.le_iff_toInt_le, Int32.reduceToInt, ← Int32.toInt_inj] at h_10923
              have g0_10924 := gd_f x_10919 h_10923
              clear x_10919
              clear x_10850
              clear x_10884
              have lp_11372 : ∀ (n_11373 : Nat) (f_11368 : Nat → va_E) (hW_11369 : WT T L f_11368) (hF_11370 : FR [12, 2176] f_10882 f_11368)  (cv_11371 : ∃ g9 : Nat → Int32, (f_11368 (q 14)) = aI E 2076 g9 ∧ FOK g9 ∧ WC g9 ∧ (¬ fld (f_11368 a_0) 12 = 0 ∨ (v_10906.toInt = 0 ∧ v_10899.toInt ≤ fld (f_11368 a_0) 8 ∧ 4 * (g9 5).toInt ≤ fld (f_11368 a_0) 9 + 3 ∧ (fld (f_11368 a_0) 10 = 0 ∨ fld (f_11368 a_0) 9 < fld (f_11368 a_0) 8)))) (hm_11375 : gm (f_11368 a_0) < (n_11373 : Int)), V z E 1 0 0 L f_11368 80 [(0, .ref a_0)] [] := by
                intro n_11373
                induction n_11373 with
                | zero =>
                  intro f_11368 hW_11369 hF_11370 cv_11371 hm_11375
                  obtain ⟨g_11376, e_11377, ok_11378, wc_11379, lo_11380⟩ := cv_11371
                  have wc_11379_b := wc_11379.1
                  obtain ⟨v_11382, v_11383, v_11384, v_11386, v_11388, v_11390, v_11392, v_11393, v_11394, v_11395, v_11396, e_11381, -, b_11385, b_11387, b_11389, b_11391, -, -⟩ := hW_11369.at m_1 t_2
                  have fe_11397 : fld (f_11368 a_0) 8 = (v_11386 : Int32).toInt := by rw [e_11381]; rfl
                  have fe_11398 : fld (f_11368 a_0) 9 = (v_11388 : Int32).toInt := by rw [e_11381]; rfl
                  have fe_11399 : fld (f_11368 a_0) 10 = (v_11390 : Int32).toInt := by rw [e_11381]; rfl
                  have fe_11400 : fld (f_11368 a_0) 12 = (v_11393 : Int32).toInt := by rw [e_11381]; rfl
                  rw [fe_11397, fe_11398, fe_11399, fe_11400] at lo_11380
                  have gb_11401 := gm_b (f_11368 a_0)
                  have fe_11402 : fld (f_11368 a_0) 8 = (v_11386 : Int32).toInt := by rw [e_11381]; rfl
                  have fe_11403 : fld (f_11368 a_0) 12 = (v_11393 : Int32).toInt := by rw [e_11381]; rfl
                  rw [fe_11402, fe_11403] at gb_11401
                  exfalso; omega
                | succ n_11373 ih_11374 =>
                  intro f_11368 hW_11369 hF_11370 cv_11371 hm_11375
                  obtain ⟨g_11376, e_11377, ok_11378, wc_11379, lo_11380⟩ := cv_11371
                  have wc_11379_b := wc_11379.1
                  obtain ⟨v_11382, v_11383, v_11384, v_11386, v_11388, v_11390, v_11392, v_11393, v_11394, v_11395, v_11396, e_11381, -, b_11385, b_11387, b_11389, b_11391, -, -⟩ := hW_11369.at m_1 t_2
                  have fe_11397 : fld (f_11368 a_0) 8 = (v_11386 : Int32).toInt := by rw [e_11381]; rfl
                  have fe_11398 : fld (f_11368 a_0) 9 = (v_11388 : Int32).toInt := by rw [e_11381]; rfl
                  have fe_11399 : fld (f_11368 a_0) 10 = (v_11390 : Int32).toInt := by rw [e_11381]; rfl
                  have fe_11400 : fld (f_11368 a_0) 12 = (v_11393 : Int32).toInt := by rw [e_11381]; rfl
                  rw [fe_11397, fe_11398, fe_11399, fe_11400] at lo_11380
                  have gb_11401 := gm_b (f_11368 a_0)
                  have fe_11402 : fld (f_11368 a_0) 8 = (v_11386 : Int32).toInt := by rw [e_11381]; rfl
                  have fe_11403 : fld (f_11368 a_0) 12 = (v_11393 : Int32).toInt := by rw [e_11381]; rfl
                  rw [fe_11402, fe_11403] at gb_11401
                  refine v_aload_n hC dX12_watcher_80 rfl ?_
                  refine v_ldcwS hC sr_X12_285 dX12_watcher_81 ?_
                  refine v_vi hC (rest := []) m_1 e_11381 rfl mi_X12_takes ms_X12_takes (p_X12_takes hW_11369 k_0 (by decide)) mx_X12_takes ml_X12_159 (by decide) rfl (cells1 := 0) (slots1 := 0) (by decide) (by decide) (Nat.le_of_ble_eq_true rfl) (Nat.le_of_ble_eq_true rfl) rfl (Nat.le_of_ble_eq_true rfl) dX12_watcher_84 (fun r_11404 L_11405 f_11406 h_11407 => ?_)
                  obtain ⟨rfl, hW_11411, hF_11412, rfl, x_11408, x_11409, x_11410, -⟩ := h_11407
                  have fe_11413 : fld (f_11368 a_0) 8 = (v_11386 : Int32).toInt := by rw [e_11381]; rfl
                  have fe_11414 : fld (f_11368 a_0) 9 = (v_11388 : Int32).toInt := by rw [e_11381]; rfl
                  have fe_11415 : fld (f_11368 a_0) 10 = (v_11390 : Int32).toInt := by rw [e_11381]; rfl
                  have fe_11416 : fld (f_11368 a_0) 12 = (v_11393 : Int32).toInt := by rw [e_11381]; rfl
                  have ib_11417 := iw_b (f_11368 a_0) (f_11368 (q 4)) 70
                  have ln_11418 : ((bytStr.getD 70 []).length : Int) = 3 := by rfl
                  rw [fe_11416, fe_11415, fe_11413, fe_11414] at ib_11417
                  have hf_11419 := hF_11412.at e_11377 rfl
                  obtain ⟨v_11421, v_11422, v_11423, v_11425, v_11427, v_11429, v_11431, v_11432, v_11433, v_11434, v_11435, e_11420, -, b_11424, b_11426, b_11428, b_11430, -, -⟩ := hW_11411.at m_1 t_2
                  have fe_11436 : fld (f_11406 a_0) 8 = (v_11425 : Int32).toInt := by rw [e_11420]; rfl
                  have fe_11437 : fld (f_11406 a_0) 9 = (v_11427 : Int32).toInt := by rw [e_11420]; rfl
                  have fe_11438 : fld (f_11406 a_0) 10 = (v_11429 : Int32).toInt := by rw [e_11420]; rfl
                  have fe_11439 : fld (f_11406 a_0) 12 = (v_11432 : Int32).toInt := by rw [e_11420]; rfl
                  rw [fe_11413, fe_11437, fe_11436, fe_11438] at x_11408
                  rw [fe_11436, fe_11413, fe_11437, fe_11414, fe_11438, fe_11415] at x_11409
                  rw [fe_11439, fe_11416] at x_11410
                  clear fe_11413 fe_11414 fe_11415 fe_11416 fe_11436 fe_11437 fe_11438 fe_11439
                  try simp only [Int32.reduceToInt, Int64.reduceToInt] at x_11408
                  try simp only [Int32.reduceToInt, Int64.reduceToInt] at x_11409
                  try simp only [Int32.reduceToInt, Int64.reduceToInt] at x_11410
                  refine v_if_eq hC dX12_watcher_87 (tgt := 97) (by decide) (fun h_11440 => ?_) (fun h_11440 => ?_)
                  · simp only [Int32.lt_iff_toInt_lt, Int32.le_iff_toInt_le, Int32.reduceToInt, ← Int32.toInt_inj] at h_11440
                    refine v_aload_n hC dX12_watcher_97 rfl ?_
                    refine v_vv hC (rest := []) m_1 e_11420 rfl mi_X12_ends ms_X12_ends (p_X12_ends hW_11411 k_0) mx_X12_ends ml_X12_178 (by decide) rfl (cells1 := 0) (slots1 := 0) (by decide) (by decide) (Nat.le_of_ble_eq_true rfl) (Nat.le_of_ble_eq_true rfl) rfl (Nat.le_of_ble_eq_true rfl) dX12_watcher_98 (fun L_11442 f_11443 h_11444 => ?_)
                    obtain ⟨rfl, hW_11446, hF_11447, -, -, -, -, x_11445⟩ := h_11444
                    have fe_11448 : fld (f_11406 a_0) 8 = (v_11425 : Int32).toInt := by rw [e_11420]; rfl
                    have fe_11449 : fld (f_11406 a_0) 10 = (v_11429 : Int32).toInt := by rw [e_11420]; rfl
                    have fe_11450 : fld (f_11406 a_0) 12 = (v_11432 : Int32).toInt := by rw [e_11420]; rfl
                    have hf_11451 := hF_11447.at hf_11419 rfl
                    obtain ⟨v_11453, v_11454, v_11455, v_11457, v_11459, v_11461, v_11463, v_11464, v_11465, v_11466, v_11467, e_11452, -, b_11456, b_11458, b_11460, b_11462, -, -⟩ := hW_11446.at m_1 t_2
                    have fe_11468 : fld (f_11443 a_0) 8 = (v_11457 : Int32).toInt := by rw [e_11452]; rfl
                    have fe_11469 : fld (f_11443 a_0) 9 = (v_11459 : Int32).toInt := by rw [e_11452]; rfl
                    have fe_11470 : fld (f_11443 a_0) 10 = (v_11461 : Int32).toInt := by rw [e_11452]; rfl
                    have fe_11471 : fld (f_11443 a_0) 12 = (v_11464 : Int32).toInt := by rw [e_11452]; rfl
                    rw [fe_11471, fe_11450, fe_11449, fe_11448, fe_11469, fe_11468, fe_11470] at x_11445
                    clear fe_11448 fe_11449 fe_11450 fe_11468 fe_11469 fe_11470 fe_11471
                    refine v_aload_n hC dX12_watcher_101 rfl ?_
                    refine v_get hC fl_X12_34 m_1 e_11452 rfl dX12_watcher_102 ?_
                    refine v_iconst hC dX12_watcher_105 (v := 3) (by decide) ?_
                    refine v_dup2 hC dX12_watcher_106 rfl rfl ?_
                    refine v_iald hC m_71 hf_11451 (vp_in_iff.mpr (by decide)) (v := g_11376 3) rfl dX12_watcher_107 ?_
                    refine v_iconst hC dX12_watcher_108 (v := 1) (by decide) ?_
                    obtain ⟨v_11472, h_11473⟩ : ∃ v9 : Int32, (g_11376 3) + 1 = v9 := ⟨_, rfl⟩
                    refine v_iadd hC dX12_watcher_109 h_11473 ?_
                    refine v_iast hC m_71 hf_11451 (vp_in_iff.mpr (by decide)) dX12_watcher_110 (fun f_11475 hf_11476 hk_11477 => ?_)
                    have hW_11479 := hW_11446.up hf_11476 hk_11477 t_72 ⟨_, rfl, (ok_11378.up (i := 3) (by decide) (fun q1 q2 => absurd (And.intro q1 q2) (by decide)) (fun k9 q1 q2 q3 => by simp only [Int32.reduceToInt] at q3; omega))⟩
                    obtain ⟨g_11478, hf_11476, ok_11480, eg_11481⟩ : ∃ g9, f_11475 (q 14) = aI E 2076 g9 ∧ FOK g9 ∧ g9 = upd g_11376 (3 : Int32).toNatClampNeg v_11472 := ⟨_, hf_11476, (ok_11378.up (i := 3) (by decide) (fun q1 q2 => absurd (And.intro q1 q2) (by decide)) (fun k9 q1 q2 q3 => by simp only [Int32.reduceToInt] at q3; omega)), rfl⟩
                    have hf_11482 := (hk_11477 a_0 (ne_kd e_11452 hf_11451 rfl)).trans e_11452
                    have fr_11483 := FR.w hk_11477 hf_11451 (k := 2176) rfl
                    have wc_11484 := WC.n3 wc_11379 eg_11481
                    have wc_11484_t := wc_11484.2
                    refine v_goto hC dX12_watcher_111 (tgt := 15) (by decide) ?_
                    refine v_pick [0] rfl ?_
                    have fe_11485 : fld (f_11475 a_0) 8 = (v_11457 : Int32).toInt := by rw [hf_11482]; rfl
                    have fe_11486 : fld (f_11475 a_0) 9 = (v_11459 : Int32).toInt := by rw [hf_11482]; rfl
                    have fe_11487 : fld (f_11475 a_0) 10 = (v_11461 : Int32).toInt := by rw [hf_11482]; rfl
                    have fe_11488 : fld (f_11475 a_0) 12 = (v_11464 : Int32).toInt := by rw [hf_11482]; rfl
                    have gb_11492 := gm_b (f_11475 a_0)
                    have fe_11493 : fld (f_11475 a_0) 8 = (v_11457 : Int32).toInt := by rw [hf_11482]; rfl
                    have fe_11494 : fld (f_11475 a_0) 12 = (v_11464 : Int32).toInt := by rw [hf_11482]; rfl
                    rw [fe_11493, fe_11494] at gb_11492
                    exact ih_10745 f_11475 hW_11479 (((((((hF_10741.tr hF_10852).tr hF_10886).tr hF_11370).tr hF_11412).tr hF_11447).tr fr_11483).mono rfl) ⟨_, hf_11476, ok_11480, wc_11484.1, (by simp only [fe_11485, fe_11486, fe_11487, fe_11488]; by_cases q9 : (v_11464 : Int32).toInt = 0; have gp_11489 := x_11445.resolve_left (fun h9 => h9 q9); clear x_11445; have gz_11490 := x_11410.symm.trans gp_11489.1; have gp_11491 := lo_11380.resolve_left (fun h9 => h9 gz_11490); clear lo_11380; (right; omega); exact .inl q9)⟩ (by omega)
                  · simp only [Int32.lt_iff_toInt_lt, Int32.le_iff_toInt_le, Int32.reduceToInt, ← Int32.toInt_inj] at h_11440
                    refine v_aload_n hC dX12_watcher_90 rfl ?_
                    have fe_11495 : fld (f_11406 a_0) 9 = (v_11427 : Int32).toInt := by rw [e_11420]; rfl
                    have fe_11496 : fld (f_11406 a_0) 12 = (v_11432 : Int32).toInt := by rw [e_11420]; rfl
                    have fe_11497 : fld (f_11406 a_0) 8 = (v_11425 : Int32).toInt := by rw [e_11420]; rfl
                    have fe_11498 : fld (f_11406 a_0) 9 = (v_11427 : Int32).toInt := by rw [e_11420]; rfl
                    have fe_11499 : fld (f_11406 a_0) 10 = (v_11429 : Int32).toInt := by rw [e_11420]; rfl
                    have fe_11500 : fld (f_11406 a_0) 12 = (v_11432 : Int32).toInt := by rw [e_11420]; rfl
                    refine v_vv hC (rest := []) m_1 e_11420 rfl mi_X12_readTest ms_X12_readTest (p_X12_readTest hW_11411 k_0 hf_11419 ok_11378 wc_11379 (by simp only [fe_11495, fe_11496]; omega) (by simp only [fe_11497, fe_11498, fe_11499, fe_11500]; omega)) mx_X12_readTest ml_X12_282 (by decide) rfl (cells1 := 0) (slots1 := 0) (by decide) (by decide) (Nat.le_of_ble_eq_true rfl) (Nat.le_of_ble_eq_true rfl) rfl (Nat.le_of_ble_eq_true rfl) dX12_watcher_91 (fun L_11502 f_11503 h_11504 => ?_)
                    obtain ⟨rfl, hW_11507, hF_11508, x_11505, x_11506⟩ := h_11504
                    have fe_11509 : fld (f_11406 a_0) 8 = (v_11425 : Int32).toInt := by rw [e_11420]; rfl
                    have fe_11510 : fld (f_11406 a_0) 12 = (v_11432 : Int32).toInt := by rw [e_11420]; rfl
                    obtain ⟨v_11512, v_11513, v_11514, v_11516, v_11518, v_11520, v_11522, v_11523, v_11524, v_11525, v_11526, e_11511, -, b_11515, b_11517, b_11519, b_11521, -, -⟩ := hW_11507.at m_1 t_2
                    have fe_11527 : fld (f_11503 a_0) 8 = (v_11516 : Int32).toInt := by rw [e_11511]; rfl
                    have fe_11528 : fld (f_11503 a_0) 9 = (v_11518 : Int32).toInt := by rw [e_11511]; rfl
                    have fe_11529 : fld (f_11503 a_0) 10 = (v_11520 : Int32).toInt := by rw [e_11511]; rfl
                    have fe_11530 : fld (f_11503 a_0) 12 = (v_11523 : Int32).toInt := by rw [e_11511]; rfl
                    rw [fe_11530, fe_11528] at x_11505
                    rw [fe_11530, fe_11510, fe_11509, fe_11527, fe_11528, fe_11529] at x_11506
                    clear fe_11509 fe_11510 fe_11527 fe_11528 fe_11529 fe_11530
                    obtain ⟨g_11531, e_11532, ok_11533, wc_11534, gs_11535⟩ := x_11505
                    have wc_11534_b := wc_11534.1
                    refine v_goto hC dX12_watcher_94 (tgt := 80) (by decide) ?_
                    refine v_pick [0] rfl ?_
                    have fe_11536 : fld (f_11503 a_0) 8 = (v_11516 : Int32).toInt := by rw [e_11511]; rfl
                    have fe_11537 : fld (f_11503 a_0) 9 = (v_11518 : Int32).toInt := by rw [e_11511]; rfl
                    have fe_11538 : fld (f_11503 a_0) 10 = (v_11520 : Int32).toInt := by rw [e_11511]; rfl
                    have fe_11539 : fld (f_11503 a_0) 12 = (v_11523 : Int32).toInt := by rw [e_11511]; rfl
                    have gb_11544 := gm_b (f_11503 a_0)
                    have fe_11545 : fld (f_11503 a_0) 8 = (v_11516 : Int32).toInt := by rw [e_11511]; rfl
                    have fe_11546 : fld (f_11503 a_0) 12 = (v_11523 : Int32).toInt := by rw [e_11511]; rfl
                    rw [fe_11545, fe_11546] at gb_11544
                    exact ih_11374 f_11503 hW_11507 (((hF_11370.tr hF_11412).tr hF_11508).mono rfl) ⟨_, e_11532, ok_11533, wc_11534, (by simp only [fe_11536, fe_11537, fe_11538, fe_11539]; by_cases q9 : (v_11523 : Int32).toInt = 0; have gp_11540 := gs_11535.resolve_left (fun h9 => h9 q9); clear gs_11535; have gp_11541 := x_11506.resolve_left (fun h9 => h9 q9); clear x_11506; have gz_11542 := x_11410.symm.trans gp_11541.1; have gp_11543 := lo_11380.resolve_left (fun h9 => h9 gz_11542); clear lo_11380; (right; omega); exact .inl q9)⟩ (by omega)
              refine v_pick [0] rfl ?_
              have fe_11547 : fld (f_10882 a_0) 8 = (v_10899 : Int32).toInt := by rw [e_10894]; rfl
              have fe_11548 : fld (f_10882 a_0) 9 = (v_10901 : Int32).toInt := by rw [e_10894]; rfl
              have fe_11549 : fld (f_10882 a_0) 10 = (v_10903 : Int32).toInt := by rw [e_10894]; rfl
              have fe_11550 : fld (f_10882 a_0) 12 = (v_10906 : Int32).toInt := by rw [e_10894]; rfl
              have gb_11551 := gm_b (f_10882 a_0)
              have fe_11552 : fld (f_10882 a_0) 8 = (v_10899 : Int32).toInt := by rw [e_10894]; rfl
              have fe_11553 : fld (f_10882 a_0) 12 = (v_10906 : Int32).toInt := by rw [e_10894]; rfl
              rw [fe_11552, fe_11553] at gb_11551
              exact lp_11372 700 f_10882 hW_10885 FR.rf ⟨_, hf_10893, ok_10749, wc_10750, (by simp only [fe_11547, fe_11548, fe_11549, fe_11550]; exact .inl g0_10924)⟩ (by omega)
            · simp only [Int32.lt_iff_toInt_lt, Int32.le_iff_toInt_le, Int32.reduceToInt, ← Int32.toInt_inj] at h_10923
              have nb_10925 : (1 ≤ r_10914.toInt ∧ r_10914.toInt ≤ 1) := by omega
              have g0_10926 := gd_t x_10919 h_10923
              clear x_10919
              have gp_10927 := x_10884.resolve_left (fun h9 => h9 g0_10926)
              clear x_10884
              have gp_10928 := x_10850.resolve_left (fun h9 => h9 gp_10927.1)
              clear x_10850
              refine v_aload_n hC dX12_watcher_76 rfl ?_
              have fe_11554 : fld (f_10882 a_0) 9 = (v_10901 : Int32).toInt := by rw [e_10894]; rfl
              have fe_11555 : fld (f_10882 a_0) 12 = (v_10906 : Int32).toInt := by rw [e_10894]; rfl
              have fe_11556 : fld (f_10882 a_0) 8 = (v_10899 : Int32).toInt := by rw [e_10894]; rfl
              have fe_11557 : fld (f_10882 a_0) 9 = (v_10901 : Int32).toInt := by rw [e_10894]; rfl
              have fe_11558 : fld (f_10882 a_0) 10 = (v_10903 : Int32).toInt := by rw [e_10894]; rfl
              have fe_11559 : fld (f_10882 a_0) 12 = (v_10906 : Int32).toInt := by rw [e_10894]; rfl
              refine v_vv hC (rest := []) m_1 e_10894 rfl mi_X12_readTest ms_X12_readTest (p_X12_readTest hW_10885 k_0 hf_10893 ok_10749 wc_10750 (by simp only [fe_11554, fe_11555]; omega) (by simp only [fe_11556, fe_11557, fe_11558, fe_11559]; omega)) mx_X12_readTest ml_X12_282 (by decide) rfl (cells1 := 0) (slots1 := 0) (by decide) (by decide) (Nat.le_of_ble_eq_true rfl) (Nat.le_of_ble_eq_true rfl) rfl (Nat.le_of_ble_eq_true rfl) dX12_watcher_77 (fun L_11561 f_11562 h_11563 => ?_)
              obtain ⟨rfl, hW_11566, hF_11567, x_11564, x_11565⟩ := h_11563
              have fe_11568 : fld (f_10882 a_0) 8 = (v_10899 : Int32).toInt := by rw [e_10894]; rfl
              have fe_11569 : fld (f_10882 a_0) 12 = (v_10906 : Int32).toInt := by rw [e_10894]; rfl
              obtain ⟨v_11571, v_11572, v_11573, v_11575, v_11577, v_11579, v_11581, v_11582, v_11583, v_11584, v_11585, e_11570, -, b_11574, b_11576, b_11578, b_11580, -, -⟩ := hW_11566.at m_1 t_2
              have fe_11586 : fld (f_11562 a_0) 8 = (v_11575 : Int32).toInt := by rw [e_11570]; rfl
              have fe_11587 : fld (f_11562 a_0) 9 = (v_11577 : Int32).toInt := by rw [e_11570]; rfl
              have fe_11588 : fld (f_11562 a_0) 10 = (v_11579 : Int32).toInt := by rw [e_11570]; rfl
              have fe_11589 : fld (f_11562 a_0) 12 = (v_11582 : Int32).toInt := by rw [e_11570]; rfl
              rw [fe_11589, fe_11587] at x_11564
              rw [fe_11589, fe_11569, fe_11568, fe_11586, fe_11587, fe_11588] at x_11565
              clear fe_11568 fe_11569 fe_11586 fe_11587 fe_11588 fe_11589
              obtain ⟨g_11590, e_11591, ok_11592, wc_11593, gs_11594⟩ := x_11564
              have wc_11593_b := wc_11593.1
              have lp_12038 : ∀ (n_12039 : Nat) (f_12034 : Nat → va_E) (hW_12035 : WT T L f_12034) (hF_12036 : FR [12, 2176] f_11562 f_12034)  (cv_12037 : ∃ g9 : Nat → Int32, (f_12034 (q 14)) = aI E 2076 g9 ∧ FOK g9 ∧ WC g9 ∧ (¬ fld (f_12034 a_0) 12 = 0 ∨ (v_11582.toInt = 0 ∧ v_11575.toInt ≤ fld (f_12034 a_0) 8 ∧ 4 * (g9 5).toInt ≤ fld (f_12034 a_0) 9 + 3 ∧ (fld (f_12034 a_0) 10 = 0 ∨ fld (f_12034 a_0) 9 < fld (f_12034 a_0) 8)))) (hm_12041 : gm (f_12034 a_0) < (n_12039 : Int)), V z E 1 0 0 L f_12034 80 [(0, .ref a_0)] [] := by
                intro n_12039
                induction n_12039 with
                | zero =>
                  intro f_12034 hW_12035 hF_12036 cv_12037 hm_12041
                  obtain ⟨g_12042, e_12043, ok_12044, wc_12045, lo_12046⟩ := cv_12037
                  have wc_12045_b := wc_12045.1
                  obtain ⟨v_12048, v_12049, v_12050, v_12052, v_12054, v_12056, v_12058, v_12059, v_12060, v_12061, v_12062, e_12047, -, b_12051, b_12053, b_12055, b_12057, -, -⟩ := hW_12035.at m_1 t_2
                  have fe_12063 : fld (f_12034 a_0) 8 = (v_12052 : Int32).toInt := by rw [e_12047]; rfl
                  have fe_12064 : fld (f_12034 a_0) 9 = (v_12054 : Int32).toInt := by rw [e_12047]; rfl
                  have fe_12065 : fld (f_12034 a_0) 10 = (v_12056 : Int32).toInt := by rw [e_12047]; rfl
                  have fe_12066 : fld (f_12034 a_0) 12 = (v_12059 : Int32).toInt := by rw [e_12047]; rfl
                  rw [fe_12063, fe_12064, fe_12065, fe_12066] at lo_12046
                  have gb_12067 := gm_b (f_12034 a_0)
                  have fe_12068 : fld (f_12034 a_0) 8 = (v_12052 : Int32).toInt := by rw [e_12047]; rfl
                  have fe_12069 : fld (f_12034 a_0) 12 = (v_12059 : Int32).toInt := by rw [e_12047]; rfl
                  rw [fe_12068, fe_12069] at gb_12067
                  exfalso; omega
                | succ n_12039 ih_12040 =>
                  intro f_12034 hW_12035 hF_12036 cv_12037 hm_12041
                  obtain ⟨g_12042, e_12043, ok_12044, wc_12045, lo_12046⟩ := cv_12037
                  have wc_12045_b := wc_12045.1
                  obtain ⟨v_12048, v_12049, v_12050, v_12052, v_12054, v_12056, v_12058, v_12059, v_12060, v_12061, v_12062, e_12047, -, b_12051, b_12053, b_12055, b_12057, -, -⟩ := hW_12035.at m_1 t_2
                  have fe_12063 : fld (f_12034 a_0) 8 = (v_12052 : Int32).toInt := by rw [e_12047]; rfl
                  have fe_12064 : fld (f_12034 a_0) 9 = (v_12054 : Int32).toInt := by rw [e_12047]; rfl
                  have fe_12065 : fld (f_12034 a_0) 10 = (v_12056 : Int32).toInt := by rw [e_12047]; rfl
                  have fe_12066 : fld (f_12034 a_0) 12 = (v_12059 : Int32).toInt := by rw [e_12047]; rfl
                  rw [fe_12063, fe_12064, fe_12065, fe_12066] at lo_12046
                  have gb_12067 := gm_b (f_12034 a_0)
                  have fe_12068 : fld (f_12034 a_0) 8 = (v_12052 : Int32).toInt := by rw [e_12047]; rfl
                  have fe_12069 : fld (f_12034 a_0) 12 = (v_12059 : Int32).toInt := by rw [e_12047]; rfl
                  rw [fe_12068, fe_12069] at gb_12067
                  refine v_aload_n hC dX12_watcher_80 rfl ?_
                  refine v_ldcwS hC sr_X12_285 dX12_watcher_81 ?_
                  refine v_vi hC (rest := []) m_1 e_12047 rfl mi_X12_takes ms_X12_takes (p_X12_takes hW_12035 k_0 (by decide)) mx_X12_takes ml_X12_159 (by decide) rfl (cells1 := 0) (slots1 := 0) (by decide) (by decide) (Nat.le_of_ble_eq_true rfl) (Nat.le_of_ble_eq_true rfl) rfl (Nat.le_of_ble_eq_true rfl) dX12_watcher_84 (fun r_12070 L_12071 f_12072 h_12073 => ?_)
                  obtain ⟨rfl, hW_12077, hF_12078, rfl, x_12074, x_12075, x_12076, -⟩ := h_12073
                  have fe_12079 : fld (f_12034 a_0) 8 = (v_12052 : Int32).toInt := by rw [e_12047]; rfl
                  have fe_12080 : fld (f_12034 a_0) 9 = (v_12054 : Int32).toInt := by rw [e_12047]; rfl
                  have fe_12081 : fld (f_12034 a_0) 10 = (v_12056 : Int32).toInt := by rw [e_12047]; rfl
                  have fe_12082 : fld (f_12034 a_0) 12 = (v_12059 : Int32).toInt := by rw [e_12047]; rfl
                  have ib_12083 := iw_b (f_12034 a_0) (f_12034 (q 4)) 70
                  have ln_12084 : ((bytStr.getD 70 []).length : Int) = 3 := by rfl
                  rw [fe_12082, fe_12081, fe_12079, fe_12080] at ib_12083
                  have hf_12085 := hF_12078.at e_12043 rfl
                  obtain ⟨v_12087, v_12088, v_12089, v_12091, v_12093, v_12095, v_12097, v_12098, v_12099, v_12100, v_12101, e_12086, -, b_12090, b_12092, b_12094, b_12096, -, -⟩ := hW_12077.at m_1 t_2
                  have fe_12102 : fld (f_12072 a_0) 8 = (v_12091 : Int32).toInt := by rw [e_12086]; rfl
                  have fe_12103 : fld (f_12072 a_0) 9 = (v_12093 : Int32).toInt := by rw [e_12086]; rfl
                  have fe_12104 : fld (f_12072 a_0) 10 = (v_12095 : Int32).toInt := by rw [e_12086]; rfl
                  have fe_12105 : fld (f_12072 a_0) 12 = (v_12098 : Int32).toInt := by rw [e_12086]; rfl
                  rw [fe_12079, fe_12103, fe_12102, fe_12104] at x_12074
                  rw [fe_12102, fe_12079, fe_12103, fe_12080, fe_12104, fe_12081] at x_12075
                  rw [fe_12105, fe_12082] at x_12076
                  clear fe_12079 fe_12080 fe_12081 fe_12082 fe_12102 fe_12103 fe_12104 fe_12105
                  try simp only [Int32.reduceToInt, Int64.reduceToInt] at x_12074
                  try simp only [Int32.reduceToInt, Int64.reduceToInt] at x_12075
                  try simp only [Int32.reduceToInt, Int64.reduceToInt] at x_12076
                  refine v_if_eq hC dX12_watcher_87 (tgt := 97) (by decide) (fun h_12106 => ?_) (fun h_12106 => ?_)
                  · simp only [Int32.lt_iff_toInt_lt, Int32.le_iff_toInt_le, Int32.reduceToInt, ← Int32.toInt_inj] at h_12106
                    refine v_aload_n hC dX12_watcher_97 rfl ?_
                    refine v_vv hC (rest := []) m_1 e_12086 rfl mi_X12_ends ms_X12_ends (p_X12_ends hW_12077 k_0) mx_X12_ends ml_X12_178 (by decide) rfl (cells1 := 0) (slots1 := 0) (by decide) (by decide) (Nat.le_of_ble_eq_true rfl) (Nat.le_of_ble_eq_true rfl) rfl (Nat.le_of_ble_eq_true rfl) dX12_watcher_98 (fun L_12108 f_12109 h_12110 => ?_)
                    obtain ⟨rfl, hW_12112, hF_12113, -, -, -, -, x_12111⟩ := h_12110
                    have fe_12114 : fld (f_12072 a_0) 8 = (v_12091 : Int32).toInt := by rw [e_12086]; rfl
                    have fe_12115 : fld (f_12072 a_0) 10 = (v_12095 : Int32).toInt := by rw [e_12086]; rfl
                    have fe_12116 : fld (f_12072 a_0) 12 = (v_12098 : Int32).toInt := by rw [e_12086]; rfl
                    have hf_12117 := hF_12113.at hf_12085 rfl
                    obtain ⟨v_12119, v_12120, v_12121, v_12123, v_12125, v_12127, v_12129, v_12130, v_12131, v_12132, v_12133, e_12118, -, b_12122, b_12124, b_12126, b_12128, -, -⟩ := hW_12112.at m_1 t_2
                    have fe_12134 : fld (f_12109 a_0) 8 = (v_12123 : Int32).toInt := by rw [e_12118]; rfl
                    have fe_12135 : fld (f_12109 a_0) 9 = (v_12125 : Int32).toInt := by rw [e_12118]; rfl
                    have fe_12136 : fld (f_12109 a_0) 10 = (v_12127 : Int32).toInt := by rw [e_12118]; rfl
                    have fe_12137 : fld (f_12109 a_0) 12 = (v_12130 : Int32).toInt := by rw [e_12118]; rfl
                    rw [fe_12137, fe_12116, fe_12115, fe_12114, fe_12135, fe_12134, fe_12136] at x_12111
                    clear fe_12114 fe_12115 fe_12116 fe_12134 fe_12135 fe_12136 fe_12137
                    refine v_aload_n hC dX12_watcher_101 rfl ?_
                    refine v_get hC fl_X12_34 m_1 e_12118 rfl dX12_watcher_102 ?_
                    refine v_iconst hC dX12_watcher_105 (v := 3) (by decide) ?_
                    refine v_dup2 hC dX12_watcher_106 rfl rfl ?_
                    refine v_iald hC m_71 hf_12117 (vp_in_iff.mpr (by decide)) (v := g_12042 3) rfl dX12_watcher_107 ?_
                    refine v_iconst hC dX12_watcher_108 (v := 1) (by decide) ?_
                    obtain ⟨v_12138, h_12139⟩ : ∃ v9 : Int32, (g_12042 3) + 1 = v9 := ⟨_, rfl⟩
                    refine v_iadd hC dX12_watcher_109 h_12139 ?_
                    refine v_iast hC m_71 hf_12117 (vp_in_iff.mpr (by decide)) dX12_watcher_110 (fun f_12141 hf_12142 hk_12143 => ?_)
                    have hW_12145 := hW_12112.up hf_12142 hk_12143 t_72 ⟨_, rfl, (ok_12044.up (i := 3) (by decide) (fun q1 q2 => absurd (And.intro q1 q2) (by decide)) (fun k9 q1 q2 q3 => by simp only [Int32.reduceToInt] at q3; omega))⟩
                    obtain ⟨g_12144, hf_12142, ok_12146, eg_12147⟩ : ∃ g9, f_12141 (q 14) = aI E 2076 g9 ∧ FOK g9 ∧ g9 = upd g_12042 (3 : Int32).toNatClampNeg v_12138 := ⟨_, hf_12142, (ok_12044.up (i := 3) (by decide) (fun q1 q2 => absurd (And.intro q1 q2) (by decide)) (fun k9 q1 q2 q3 => by simp only [Int32.reduceToInt] at q3; omega)), rfl⟩
                    have hf_12148 := (hk_12143 a_0 (ne_kd e_12118 hf_12117 rfl)).trans e_12118
                    have fr_12149 := FR.w hk_12143 hf_12117 (k := 2176) rfl
                    have wc_12150 := WC.n3 wc_12045 eg_12147
                    have wc_12150_t := wc_12150.2
                    refine v_goto hC dX12_watcher_111 (tgt := 15) (by decide) ?_
                    refine v_pick [0] rfl ?_
                    have fe_12151 : fld (f_12141 a_0) 8 = (v_12123 : Int32).toInt := by rw [hf_12148]; rfl
                    have fe_12152 : fld (f_12141 a_0) 9 = (v_12125 : Int32).toInt := by rw [hf_12148]; rfl
                    have fe_12153 : fld (f_12141 a_0) 10 = (v_12127 : Int32).toInt := by rw [hf_12148]; rfl
                    have fe_12154 : fld (f_12141 a_0) 12 = (v_12130 : Int32).toInt := by rw [hf_12148]; rfl
                    have gb_12160 := gm_b (f_12141 a_0)
                    have fe_12161 : fld (f_12141 a_0) 8 = (v_12123 : Int32).toInt := by rw [hf_12148]; rfl
                    have fe_12162 : fld (f_12141 a_0) 12 = (v_12130 : Int32).toInt := by rw [hf_12148]; rfl
                    rw [fe_12161, fe_12162] at gb_12160
                    exact ih_10745 f_12141 hW_12145 ((((((((hF_10741.tr hF_10852).tr hF_10886).tr hF_11567).tr hF_12036).tr hF_12078).tr hF_12113).tr fr_12149).mono rfl) ⟨_, hf_12142, ok_12146, wc_12150.1, (by simp only [fe_12151, fe_12152, fe_12153, fe_12154]; by_cases q9 : (v_12130 : Int32).toInt = 0; have gp_12155 := x_12111.resolve_left (fun h9 => h9 q9); clear x_12111; have gz_12156 := x_12076.symm.trans gp_12155.1; have gp_12157 := lo_12046.resolve_left (fun h9 => h9 gz_12156); clear lo_12046; have gp_12158 := gs_11594.resolve_left (fun h9 => h9 gp_12157.1); clear gs_11594; have gp_12159 := x_11565.resolve_left (fun h9 => h9 gp_12157.1); clear x_11565; (right; omega); exact .inl q9)⟩ (by omega)
                  · simp only [Int32.lt_iff_toInt_lt, Int32.le_iff_toInt_le, Int32.reduceToInt, ← Int32.toInt_inj] at h_12106
                    refine v_aload_n hC dX12_watcher_90 rfl ?_
                    have fe_12163 : fld (f_12072 a_0) 9 = (v_12093 : Int32).toInt := by rw [e_12086]; rfl
                    have fe_12164 : fld (f_12072 a_0) 12 = (v_12098 : Int32).toInt := by rw [e_12086]; rfl
                    have fe_12165 : fld (f_12072 a_0) 8 = (v_12091 : Int32).toInt := by rw [e_12086]; rfl
                    have fe_12166 : fld (f_12072 a_0) 9 = (v_12093 : Int32).toInt := by rw [e_12086]; rfl
                    have fe_12167 : fld (f_12072 a_0) 10 = (v_12095 : Int32).toInt := by rw [e_12086]; rfl
                    have fe_12168 : fld (f_12072 a_0) 12 = (v_12098 : Int32).toInt := by rw [e_12086]; rfl
                    refine v_vv hC (rest := []) m_1 e_12086 rfl mi_X12_readTest ms_X12_readTest (p_X12_readTest hW_12077 k_0 hf_12085 ok_12044 wc_12045 (by simp only [fe_12163, fe_12164]; omega) (by simp only [fe_12165, fe_12166, fe_12167, fe_12168]; omega)) mx_X12_readTest ml_X12_282 (by decide) rfl (cells1 := 0) (slots1 := 0) (by decide) (by decide) (Nat.le_of_ble_eq_true rfl) (Nat.le_of_ble_eq_true rfl) rfl (Nat.le_of_ble_eq_true rfl) dX12_watcher_91 (fun L_12170 f_12171 h_12172 => ?_)
                    obtain ⟨rfl, hW_12175, hF_12176, x_12173, x_12174⟩ := h_12172
                    have fe_12177 : fld (f_12072 a_0) 8 = (v_12091 : Int32).toInt := by rw [e_12086]; rfl
                    have fe_12178 : fld (f_12072 a_0) 12 = (v_12098 : Int32).toInt := by rw [e_12086]; rfl
                    obtain ⟨v_12180, v_12181, v_12182, v_12184, v_12186, v_12188, v_12190, v_12191, v_12192, v_12193, v_12194, e_12179, -, b_12183, b_12185, b_12187, b_12189, -, -⟩ := hW_12175.at m_1 t_2
                    have fe_12195 : fld (f_12171 a_0) 8 = (v_12184 : Int32).toInt := by rw [e_12179]; rfl
                    have fe_12196 : fld (f_12171 a_0) 9 = (v_12186 : Int32).toInt := by rw [e_12179]; rfl
                    have fe_12197 : fld (f_12171 a_0) 10 = (v_12188 : Int32).toInt := by rw [e_12179]; rfl
                    have fe_12198 : fld (f_12171 a_0) 12 = (v_12191 : Int32).toInt := by rw [e_12179]; rfl
                    rw [fe_12198, fe_12196] at x_12173
                    rw [fe_12198, fe_12178, fe_12177, fe_12195, fe_12196, fe_12197] at x_12174
                    clear fe_12177 fe_12178 fe_12195 fe_12196 fe_12197 fe_12198
                    obtain ⟨g_12199, e_12200, ok_12201, wc_12202, gs_12203⟩ := x_12173
                    have wc_12202_b := wc_12202.1
                    refine v_goto hC dX12_watcher_94 (tgt := 80) (by decide) ?_
                    refine v_pick [0] rfl ?_
                    have fe_12204 : fld (f_12171 a_0) 8 = (v_12184 : Int32).toInt := by rw [e_12179]; rfl
                    have fe_12205 : fld (f_12171 a_0) 9 = (v_12186 : Int32).toInt := by rw [e_12179]; rfl
                    have fe_12206 : fld (f_12171 a_0) 10 = (v_12188 : Int32).toInt := by rw [e_12179]; rfl
                    have fe_12207 : fld (f_12171 a_0) 12 = (v_12191 : Int32).toInt := by rw [e_12179]; rfl
                    have gb_12214 := gm_b (f_12171 a_0)
                    have fe_12215 : fld (f_12171 a_0) 8 = (v_12184 : Int32).toInt := by rw [e_12179]; rfl
                    have fe_12216 : fld (f_12171 a_0) 12 = (v_12191 : Int32).toInt := by rw [e_12179]; rfl
                    rw [fe_12215, fe_12216] at gb_12214
                    exact ih_12040 f_12171 hW_12175 (((hF_12036.tr hF_12078).tr hF_12176).mono rfl) ⟨_, e_12200, ok_12201, wc_12202, (by simp only [fe_12204, fe_12205, fe_12206, fe_12207]; by_cases q9 : (v_12191 : Int32).toInt = 0; have gp_12208 := gs_12203.resolve_left (fun h9 => h9 q9); clear gs_12203; have gp_12209 := x_12174.resolve_left (fun h9 => h9 q9); clear x_12174; have gz_12210 := x_12076.symm.trans gp_12209.1; have gp_12211 := lo_12046.resolve_left (fun h9 => h9 gz_12210); clear lo_12046; have gp_12212 := gs_11594.resolve_left (fun h9 => h9 gp_12211.1); clear gs_11594; have gp_12213 := x_11565.resolve_left (fun h9 => h9 gp_12211.1); clear x_11565; (right; omega); exact .inl q9)⟩ (by omega)
              refine v_pick [0] rfl ?_
              have fe_12217 : fld (f_11562 a_0) 8 = (v_11575 : Int32).toInt := by rw [e_11570]; rfl
              have fe_12218 : fld (f_11562 a_0) 9 = (v_11577 : Int32).toInt := by rw [e_11570]; rfl
              have fe_12219 : fld (f_11562 a_0) 10 = (v_11579 : Int32).toInt := by rw [e_11570]; rfl
              have fe_12220 : fld (f_11562 a_0) 12 = (v_11582 : Int32).toInt := by rw [e_11570]; rfl
              have gb_12223 := gm_b (f_11562 a_0)
              have fe_12224 : fld (f_11562 a_0) 8 = (v_11575 : Int32).toInt := by rw [e_11570]; rfl
              have fe_12225 : fld (f_11562 a_0) 12 = (v_11582 : Int32).toInt := by rw [e_11570]; rfl
              rw [fe_12224, fe_12225] at gb_12223
              exact lp_12038 700 f_11562 hW_11566 FR.rf ⟨_, e_11591, ok_11592, wc_11593, (by simp only [fe_12217, fe_12218, fe_12219, fe_12220]; by_cases q9 : (v_11582 : Int32).toInt = 0; have gp_12221 := gs_11594.resolve_left (fun h9 => h9 q9); clear gs_11594; have gp_12222 := x_11565.resolve_left (fun h9 => h9 q9); clear x_11565; (right; omega); exact .inl q9)⟩ (by omega)
          · simp only [Int32.lt_iff_toInt_lt, Int32.le_iff_toInt_le, Int32.reduceToInt, ← Int32.toInt_inj] at h_10845
            refine v_aload_n hC dX12_watcher_39 rfl ?_
            refine v_get hC fl_X12_34 m_1 e_10752 rfl dX12_watcher_40 ?_
            refine v_iconst hC dX12_watcher_43 (v := 3) (by decide) ?_
            refine v_iald hC m_71 e_10748 (vp_in_iff.mpr (by decide)) (v := g_10747 3) rfl dX12_watcher_44 ?_
            refine v_bipush hC dX12_watcher_45 (v := 12) (by decide) ?_
            refine v_icmp_ne hC dX12_watcher_47 (tgt := 55) (by decide) (fun h_12226 => ?_) (fun h_12226 => ?_)
            · simp only [Int32.lt_iff_toInt_lt, Int32.le_iff_toInt_le, Int32.reduceToInt, ← Int32.toInt_inj] at h_12226
              refine v_aload_n hC dX12_watcher_55 rfl ?_
              refine v_ldcwS hC sr_X12_278 dX12_watcher_56 ?_
              refine v_vv hC (rest := []) m_1 e_10752 rfl mi_X12_needs ms_X12_needs (p_X12_needs hW_10740 k_0 (by decide)) mx_X12_needs ml_X12_166 (by decide) rfl (cells1 := 0) (slots1 := 0) (by decide) (by decide) (Nat.le_of_ble_eq_true rfl) (Nat.le_of_ble_eq_true rfl) rfl (Nat.le_of_ble_eq_true rfl) dX12_watcher_59 (fun L_12228 f_12229 h_12230 => ?_)
              obtain ⟨rfl, hW_12232, hF_12233, -, -, -, -, x_12231⟩ := h_12230
              have fe_12234 : fld (f_10739 a_0) 8 = (v_10757 : Int32).toInt := by rw [e_10752]; rfl
              have fe_12235 : fld (f_10739 a_0) 9 = (v_10759 : Int32).toInt := by rw [e_10752]; rfl
              have fe_12236 : fld (f_10739 a_0) 10 = (v_10761 : Int32).toInt := by rw [e_10752]; rfl
              have fe_12237 : fld (f_10739 a_0) 12 = (v_10764 : Int32).toInt := by rw [e_10752]; rfl
              have ib_12238 := iw_b (f_10739 a_0) (f_10739 (q 4)) 54
              have ln_12239 : ((bytStr.getD 54 []).length : Int) = 4 := by rfl
              rw [fe_12237, fe_12236, fe_12234, fe_12235] at ib_12238
              have hf_12240 := hF_12233.at e_10748 rfl
              obtain ⟨v_12242, v_12243, v_12244, v_12246, v_12248, v_12250, v_12252, v_12253, v_12254, v_12255, v_12256, e_12241, -, b_12245, b_12247, b_12249, b_12251, -, -⟩ := hW_12232.at m_1 t_2
              have fe_12257 : fld (f_12229 a_0) 8 = (v_12246 : Int32).toInt := by rw [e_12241]; rfl
              have fe_12258 : fld (f_12229 a_0) 9 = (v_12248 : Int32).toInt := by rw [e_12241]; rfl
              have fe_12259 : fld (f_12229 a_0) 10 = (v_12250 : Int32).toInt := by rw [e_12241]; rfl
              have fe_12260 : fld (f_12229 a_0) 12 = (v_12253 : Int32).toInt := by rw [e_12241]; rfl
              rw [fe_12260, fe_12237, fe_12234, fe_12258, fe_12257, fe_12259] at x_12231
              clear fe_12234 fe_12235 fe_12236 fe_12237 fe_12257 fe_12258 fe_12259 fe_12260
              refine v_aload_n hC dX12_watcher_62 rfl ?_
              refine v_ldcwS hC sr_X12_280 dX12_watcher_63 ?_
              refine v_vv hC (rest := []) m_1 e_12241 rfl mi_X12_needs ms_X12_needs (p_X12_needs hW_12232 k_0 (by decide)) mx_X12_needs ml_X12_166 (by decide) rfl (cells1 := 0) (slots1 := 0) (by decide) (by decide) (Nat.le_of_ble_eq_true rfl) (Nat.le_of_ble_eq_true rfl) rfl (Nat.le_of_ble_eq_true rfl) dX12_watcher_66 (fun L_12262 f_12263 h_12264 => ?_)
              obtain ⟨rfl, hW_12266, hF_12267, -, -, -, -, x_12265⟩ := h_12264
              have fe_12268 : fld (f_12229 a_0) 8 = (v_12246 : Int32).toInt := by rw [e_12241]; rfl
              have fe_12269 : fld (f_12229 a_0) 9 = (v_12248 : Int32).toInt := by rw [e_12241]; rfl
              have fe_12270 : fld (f_12229 a_0) 10 = (v_12250 : Int32).toInt := by rw [e_12241]; rfl
              have fe_12271 : fld (f_12229 a_0) 12 = (v_12253 : Int32).toInt := by rw [e_12241]; rfl
              have ib_12272 := iw_b (f_12229 a_0) (f_12229 (q 4)) 55
              have ln_12273 : ((bytStr.getD 55 []).length : Int) = 2 := by rfl
              rw [fe_12271, fe_12270, fe_12268, fe_12269] at ib_12272
              have hf_12274 := hF_12267.at hf_12240 rfl
              obtain ⟨v_12276, v_12277, v_12278, v_12280, v_12282, v_12284, v_12286, v_12287, v_12288, v_12289, v_12290, e_12275, -, b_12279, b_12281, b_12283, b_12285, -, -⟩ := hW_12266.at m_1 t_2
              have fe_12291 : fld (f_12263 a_0) 8 = (v_12280 : Int32).toInt := by rw [e_12275]; rfl
              have fe_12292 : fld (f_12263 a_0) 9 = (v_12282 : Int32).toInt := by rw [e_12275]; rfl
              have fe_12293 : fld (f_12263 a_0) 10 = (v_12284 : Int32).toInt := by rw [e_12275]; rfl
              have fe_12294 : fld (f_12263 a_0) 12 = (v_12287 : Int32).toInt := by rw [e_12275]; rfl
              rw [fe_12294, fe_12271, fe_12268, fe_12292, fe_12291, fe_12293] at x_12265
              clear fe_12268 fe_12269 fe_12270 fe_12271 fe_12291 fe_12292 fe_12293 fe_12294
              refine v_aload_n hC dX12_watcher_69 rfl ?_
              refine v_vi hC (rest := []) m_1 e_12275 rfl mi_X12_good ms_X12_good (p_X12_good hW_12266 k_0) mx_X12_good ml_X12_139 (by decide) rfl (cells1 := 0) (slots1 := 0) (by decide) (by decide) (Nat.le_of_ble_eq_true rfl) (Nat.le_of_ble_eq_true rfl) rfl (Nat.le_of_ble_eq_true rfl) dX12_watcher_70 (fun r_12295 L_12296 f_12297 h_12298 => ?_)
              obtain ⟨rfl, rfl, b_12299, x_12300⟩ := h_12298
              have fe_12303 : fld (f_12263 a_0) 12 = (v_12287 : Int32).toInt := by rw [e_12275]; rfl
              rw [fe_12303] at x_12300
              clear fe_12303
              try simp only [Int32.reduceToInt, Int64.reduceToInt] at x_12300
              refine v_if_eq hC dX12_watcher_73 (tgt := 80) (by decide) (fun h_12304 => ?_) (fun h_12304 => ?_)
              · simp only [Int32.lt_iff_toInt_lt, Int32.le_iff_toInt_le, Int32.reduceToInt, ← Int32.toInt_inj] at h_12304
                have g0_12305 := gd_f x_12300 h_12304
                clear x_12300
                clear x_12231
                clear x_12265
                have lp_12753 : ∀ (n_12754 : Nat) (f_12749 : Nat → va_E) (hW_12750 : WT T L f_12749) (hF_12751 : FR [12, 2176] f_12263 f_12749)  (cv_12752 : ∃ g9 : Nat → Int32, (f_12749 (q 14)) = aI E 2076 g9 ∧ FOK g9 ∧ WC g9 ∧ (¬ fld (f_12749 a_0) 12 = 0 ∨ (v_12287.toInt = 0 ∧ v_12280.toInt ≤ fld (f_12749 a_0) 8 ∧ 4 * (g9 5).toInt ≤ fld (f_12749 a_0) 9 + 3 ∧ (fld (f_12749 a_0) 10 = 0 ∨ fld (f_12749 a_0) 9 < fld (f_12749 a_0) 8)))) (hm_12756 : gm (f_12749 a_0) < (n_12754 : Int)), V z E 1 0 0 L f_12749 80 [(0, .ref a_0)] [] := by
                  intro n_12754
                  induction n_12754 with
                  | zero =>
                    intro f_12749 hW_12750 hF_12751 cv_12752 hm_12756
                    obtain ⟨g_12757, e_12758, ok_12759, wc_12760, lo_12761⟩ := cv_12752
                    have wc_12760_b := wc_12760.1
                    obtain ⟨v_12763, v_12764, v_12765, v_12767, v_12769, v_12771, v_12773, v_12774, v_12775, v_12776, v_12777, e_12762, -, b_12766, b_12768, b_12770, b_12772, -, -⟩ := hW_12750.at m_1 t_2
                    have fe_12778 : fld (f_12749 a_0) 8 = (v_12767 : Int32).toInt := by rw [e_12762]; rfl
                    have fe_12779 : fld (f_12749 a_0) 9 = (v_12769 : Int32).toInt := by rw [e_12762]; rfl
                    have fe_12780 : fld (f_12749 a_0) 10 = (v_12771 : Int32).toInt := by rw [e_12762]; rfl
                    have fe_12781 : fld (f_12749 a_0) 12 = (v_12774 : Int32).toInt := by rw [e_12762]; rfl
                    rw [fe_12778, fe_12779, fe_12780, fe_12781] at lo_12761
                    have gb_12782 := gm_b (f_12749 a_0)
                    have fe_12783 : fld (f_12749 a_0) 8 = (v_12767 : Int32).toInt := by rw [e_12762]; rfl
                    have fe_12784 : fld (f_12749 a_0) 12 = (v_12774 : Int32).toInt := by rw [e_12762]; rfl
                    rw [fe_12783, fe_12784] at gb_12782
                    exfalso; omega
                  | succ n_12754 ih_12755 =>
                    intro f_12749 hW_12750 hF_12751 cv_12752 hm_12756
                    obtain ⟨g_12757, e_12758, ok_12759, wc_12760, lo_12761⟩ := cv_12752
                    have wc_12760_b := wc_12760.1
                    obtain ⟨v_12763, v_12764, v_12765, v_12767, v_12769, v_12771, v_12773, v_12774, v_12775, v_12776, v_12777, e_12762, -, b_12766, b_12768, b_12770, b_12772, -, -⟩ := hW_12750.at m_1 t_2
                    have fe_12778 : fld (f_12749 a_0) 8 = (v_12767 : Int32).toInt := by rw [e_12762]; rfl
                    have fe_12779 : fld (f_12749 a_0) 9 = (v_12769 : Int32).toInt := by rw [e_12762]; rfl
                    have fe_12780 : fld (f_12749 a_0) 10 = (v_12771 : Int32).toInt := by rw [e_12762]; rfl
                    have fe_12781 : fld (f_12749 a_0) 12 = (v_12774 : Int32).toInt := by rw [e_12762]; rfl
                    rw [fe_12778, fe_12779, fe_12780, fe_12781] at lo_12761
                    have gb_12782 := gm_b (f_12749 a_0)
                    have fe_12783 : fld (f_12749 a_0) 8 = (v_12767 : Int32).toInt := by rw [e_12762]; rfl
                    have fe_12784 : fld (f_12749 a_0) 12 = (v_12774 : Int32).toInt := by rw [e_12762]; rfl
                    rw [fe_12783, fe_12784] at gb_12782
                    refine v_aload_n hC dX12_watcher_80 rfl ?_
                    refine v_ldcwS hC sr_X12_285 dX12_watcher_81 ?_
                    refine v_vi hC (rest := []) m_1 e_12762 rfl mi_X12_takes ms_X12_takes (p_X12_takes hW_12750 k_0 (by decide)) mx_X12_takes ml_X12_159 (by decide) rfl (cells1 := 0) (slots1 := 0) (by decide) (by decide) (Nat.le_of_ble_eq_true rfl) (Nat.le_of_ble_eq_true rfl) rfl (Nat.le_of_ble_eq_true rfl) dX12_watcher_84 (fun r_12785 L_12786 f_12787 h_12788 => ?_)
                    obtain ⟨rfl, hW_12792, hF_12793, rfl, x_12789, x_12790, x_12791, -⟩ := h_12788
                    have fe_12794 : fld (f_12749 a_0) 8 = (v_12767 : Int32).toInt := by rw [e_12762]; rfl
                    have fe_12795 : fld (f_12749 a_0) 9 = (v_12769 : Int32).toInt := by rw [e_12762]; rfl
                    have fe_12796 : fld (f_12749 a_0) 10 = (v_12771 : Int32).toInt := by rw [e_12762]; rfl
                    have fe_12797 : fld (f_12749 a_0) 12 = (v_12774 : Int32).toInt := by rw [e_12762]; rfl
                    have ib_12798 := iw_b (f_12749 a_0) (f_12749 (q 4)) 70
                    have ln_12799 : ((bytStr.getD 70 []).length : Int) = 3 := by rfl
                    rw [fe_12797, fe_12796, fe_12794, fe_12795] at ib_12798
                    have hf_12800 := hF_12793.at e_12758 rfl
                    obtain ⟨v_12802, v_12803, v_12804, v_12806, v_12808, v_12810, v_12812, v_12813, v_12814, v_12815, v_12816, e_12801, -, b_12805, b_12807, b_12809, b_12811, -, -⟩ := hW_12792.at m_1 t_2
                    have fe_12817 : fld (f_12787 a_0) 8 = (v_12806 : Int32).toInt := by rw [e_12801]; rfl
                    have fe_12818 : fld (f_12787 a_0) 9 = (v_12808 : Int32).toInt := by rw [e_12801]; rfl
                    have fe_12819 : fld (f_12787 a_0) 10 = (v_12810 : Int32).toInt := by rw [e_12801]; rfl
                    have fe_12820 : fld (f_12787 a_0) 12 = (v_12813 : Int32).toInt := by rw [e_12801]; rfl
                    rw [fe_12794, fe_12818, fe_12817, fe_12819] at x_12789
                    rw [fe_12817, fe_12794, fe_12818, fe_12795, fe_12819, fe_12796] at x_12790
                    rw [fe_12820, fe_12797] at x_12791
                    clear fe_12794 fe_12795 fe_12796 fe_12797 fe_12817 fe_12818 fe_12819 fe_12820
                    try simp only [Int32.reduceToInt, Int64.reduceToInt] at x_12789
                    try simp only [Int32.reduceToInt, Int64.reduceToInt] at x_12790
                    try simp only [Int32.reduceToInt, Int64.reduceToInt] at x_12791
                    refine v_if_eq hC dX12_watcher_87 (tgt := 97) (by decide) (fun h_12821 => ?_) (fun h_12821 => ?_)
                    · simp only [Int32.lt_iff_toInt_lt, Int32.le_iff_toInt_le, Int32.reduceToInt, ← Int32.toInt_inj] at h_12821
                      refine v_aload_n hC dX12_watcher_97 rfl ?_
                      refine v_vv hC (rest := []) m_1 e_12801 rfl mi_X12_ends ms_X12_ends (p_X12_ends hW_12792 k_0) mx_X12_ends ml_X12_178 (by decide) rfl (cells1 := 0) (slots1 := 0) (by decide) (by decide) (Nat.le_of_ble_eq_true rfl) (Nat.le_of_ble_eq_true rfl) rfl (Nat.le_of_ble_eq_true rfl) dX12_watcher_98 (fun L_12823 f_12824 h_12825 => ?_)
                      obtain ⟨rfl, hW_12827, hF_12828, -, -, -, -, x_12826⟩ := h_12825
                      have fe_12829 : fld (f_12787 a_0) 8 = (v_12806 : Int32).toInt := by rw [e_12801]; rfl
                      have fe_12830 : fld (f_12787 a_0) 10 = (v_12810 : Int32).toInt := by rw [e_12801]; rfl
                      have fe_12831 : fld (f_12787 a_0) 12 = (v_12813 : Int32).toInt := by rw [e_12801]; rfl
                      have hf_12832 := hF_12828.at hf_12800 rfl
                      obtain ⟨v_12834, v_12835, v_12836, v_12838, v_12840, v_12842, v_12844, v_12845, v_12846, v_12847, v_12848, e_12833, -, b_12837, b_12839, b_12841, b_12843, -, -⟩ := hW_12827.at m_1 t_2
                      have fe_12849 : fld (f_12824 a_0) 8 = (v_12838 : Int32).toInt := by rw [e_12833]; rfl
                      have fe_12850 : fld (f_12824 a_0) 9 = (v_12840 : Int32).toInt := by rw [e_12833]; rfl
                      have fe_12851 : fld (f_12824 a_0) 10 = (v_12842 : Int32).toInt := by rw [e_12833]; rfl
                      have fe_12852 : fld (f_12824 a_0) 12 = (v_12845 : Int32).toInt := by rw [e_12833]; rfl
                      rw [fe_12852, fe_12831, fe_12830, fe_12829, fe_12850, fe_12849, fe_12851] at x_12826
                      clear fe_12829 fe_12830 fe_12831 fe_12849 fe_12850 fe_12851 fe_12852
                      refine v_aload_n hC dX12_watcher_101 rfl ?_
                      refine v_get hC fl_X12_34 m_1 e_12833 rfl dX12_watcher_102 ?_
                      refine v_iconst hC dX12_watcher_105 (v := 3) (by decide) ?_
                      refine v_dup2 hC dX12_watcher_106 rfl rfl ?_
                      refine v_iald hC m_71 hf_12832 (vp_in_iff.mpr (by decide)) (v := g_12757 3) rfl dX12_watcher_107 ?_
                      refine v_iconst hC dX12_watcher_108 (v := 1) (by decide) ?_
                      obtain ⟨v_12853, h_12854⟩ : ∃ v9 : Int32, (g_12757 3) + 1 = v9 := ⟨_, rfl⟩
                      refine v_iadd hC dX12_watcher_109 h_12854 ?_
                      refine v_iast hC m_71 hf_12832 (vp_in_iff.mpr (by decide)) dX12_watcher_110 (fun f_12856 hf_12857 hk_12858 => ?_)
                      have hW_12860 := hW_12827.up hf_12857 hk_12858 t_72 ⟨_, rfl, (ok_12759.up (i := 3) (by decide) (fun q1 q2 => absurd (And.intro q1 q2) (by decide)) (fun k9 q1 q2 q3 => by simp only [Int32.reduceToInt] at q3; omega))⟩
                      obtain ⟨g_12859, hf_12857, ok_12861, eg_12862⟩ : ∃ g9, f_12856 (q 14) = aI E 2076 g9 ∧ FOK g9 ∧ g9 = upd g_12757 (3 : Int32).toNatClampNeg v_12853 := ⟨_, hf_12857, (ok_12759.up (i := 3) (by decide) (fun q1 q2 => absurd (And.intro q1 q2) (by decide)) (fun k9 q1 q2 q3 => by simp only [Int32.reduceToInt] at q3; omega)), rfl⟩
                      have hf_12863 := (hk_12858 a_0 (ne_kd e_12833 hf_12832 rfl)).trans e_12833
                      have fr_12864 := FR.w hk_12858 hf_12832 (k := 2176) rfl
                      have wc_12865 := WC.n3 wc_12760 eg_12862
                      have wc_12865_t := wc_12865.2
                      refine v_goto hC dX12_watcher_111 (tgt := 15) (by decide) ?_
                      refine v_pick [0] rfl ?_
                      have fe_12866 : fld (f_12856 a_0) 8 = (v_12838 : Int32).toInt := by rw [hf_12863]; rfl
                      have fe_12867 : fld (f_12856 a_0) 9 = (v_12840 : Int32).toInt := by rw [hf_12863]; rfl
                      have fe_12868 : fld (f_12856 a_0) 10 = (v_12842 : Int32).toInt := by rw [hf_12863]; rfl
                      have fe_12869 : fld (f_12856 a_0) 12 = (v_12845 : Int32).toInt := by rw [hf_12863]; rfl
                      have gb_12873 := gm_b (f_12856 a_0)
                      have fe_12874 : fld (f_12856 a_0) 8 = (v_12838 : Int32).toInt := by rw [hf_12863]; rfl
                      have fe_12875 : fld (f_12856 a_0) 12 = (v_12845 : Int32).toInt := by rw [hf_12863]; rfl
                      rw [fe_12874, fe_12875] at gb_12873
                      exact ih_10745 f_12856 hW_12860 (((((((hF_10741.tr hF_12233).tr hF_12267).tr hF_12751).tr hF_12793).tr hF_12828).tr fr_12864).mono rfl) ⟨_, hf_12857, ok_12861, wc_12865.1, (by simp only [fe_12866, fe_12867, fe_12868, fe_12869]; by_cases q9 : (v_12845 : Int32).toInt = 0; have gp_12870 := x_12826.resolve_left (fun h9 => h9 q9); clear x_12826; have gz_12871 := x_12791.symm.trans gp_12870.1; have gp_12872 := lo_12761.resolve_left (fun h9 => h9 gz_12871); clear lo_12761; (right; omega); exact .inl q9)⟩ (by omega)
                    · simp only [Int32.lt_iff_toInt_lt, Int32.le_iff_toInt_le, Int32.reduceToInt, ← Int32.toInt_inj] at h_12821
                      refine v_aload_n hC dX12_watcher_90 rfl ?_
                      have fe_12876 : fld (f_12787 a_0) 9 = (v_12808 : Int32).toInt := by rw [e_12801]; rfl
                      have fe_12877 : fld (f_12787 a_0) 12 = (v_12813 : Int32).toInt := by rw [e_12801]; rfl
                      have fe_12878 : fld (f_12787 a_0) 8 = (v_12806 : Int32).toInt := by rw [e_12801]; rfl
                      have fe_12879 : fld (f_12787 a_0) 9 = (v_12808 : Int32).toInt := by rw [e_12801]; rfl
                      have fe_12880 : fld (f_12787 a_0) 10 = (v_12810 : Int32).toInt := by rw [e_12801]; rfl
                      have fe_12881 : fld (f_12787 a_0) 12 = (v_12813 : Int32).toInt := by rw [e_12801]; rfl
                      refine v_vv hC (rest := []) m_1 e_12801 rfl mi_X12_readTest ms_X12_readTest (p_X12_readTest hW_12792 k_0 hf_12800 ok_12759 wc_12760 (by simp only [fe_12876, fe_12877]; omega) (by simp only [fe_12878, fe_12879, fe_12880, fe_12881]; omega)) mx_X12_readTest ml_X12_282 (by decide) rfl (cells1 := 0) (slots1 := 0) (by decide) (by decide) (Nat.le_of_ble_eq_true rfl) (Nat.le_of_ble_eq_true rfl) rfl (Nat.le_of_ble_eq_true rfl) dX12_watcher_91 (fun L_12883 f_12884 h_12885 => ?_)
                      obtain ⟨rfl, hW_12888, hF_12889, x_12886, x_12887⟩ := h_12885
                      have fe_12890 : fld (f_12787 a_0) 8 = (v_12806 : Int32).toInt := by rw [e_12801]; rfl
                      have fe_12891 : fld (f_12787 a_0) 12 = (v_12813 : Int32).toInt := by rw [e_12801]; rfl
                      obtain ⟨v_12893, v_12894, v_12895, v_12897, v_12899, v_12901, v_12903, v_12904, v_12905, v_12906, v_12907, e_12892, -, b_12896, b_12898, b_12900, b_12902, -, -⟩ := hW_12888.at m_1 t_2
                      have fe_12908 : fld (f_12884 a_0) 8 = (v_12897 : Int32).toInt := by rw [e_12892]; rfl
                      have fe_12909 : fld (f_12884 a_0) 9 = (v_12899 : Int32).toInt := by rw [e_12892]; rfl
                      have fe_12910 : fld (f_12884 a_0) 10 = (v_12901 : Int32).toInt := by rw [e_12892]; rfl
                      have fe_12911 : fld (f_12884 a_0) 12 = (v_12904 : Int32).toInt := by rw [e_12892]; rfl
                      rw [fe_12911, fe_12909] at x_12886
                      rw [fe_12911, fe_12891, fe_12890, fe_12908, fe_12909, fe_12910] at x_12887
                      clear fe_12890 fe_12891 fe_12908 fe_12909 fe_12910 fe_12911
                      obtain ⟨g_12912, e_12913, ok_12914, wc_12915, gs_12916⟩ := x_12886
                      have wc_12915_b := wc_12915.1
                      refine v_goto hC dX12_watcher_94 (tgt := 80) (by decide) ?_
                      refine v_pick [0] rfl ?_
                      have fe_12917 : fld (f_12884 a_0) 8 = (v_12897 : Int32).toInt := by rw [e_12892]; rfl
                      have fe_12918 : fld (f_12884 a_0) 9 = (v_12899 : Int32).toInt := by rw [e_12892]; rfl
                      have fe_12919 : fld (f_12884 a_0) 10 = (v_12901 : Int32).toInt := by rw [e_12892]; rfl
                      have fe_12920 : fld (f_12884 a_0) 12 = (v_12904 : Int32).toInt := by rw [e_12892]; rfl
                      have gb_12925 := gm_b (f_12884 a_0)
                      have fe_12926 : fld (f_12884 a_0) 8 = (v_12897 : Int32).toInt := by rw [e_12892]; rfl
                      have fe_12927 : fld (f_12884 a_0) 12 = (v_12904 : Int32).toInt := by rw [e_12892]; rfl
                      rw [fe_12926, fe_12927] at gb_12925
                      exact ih_12755 f_12884 hW_12888 (((hF_12751.tr hF_12793).tr hF_12889).mono rfl) ⟨_, e_12913, ok_12914, wc_12915, (by simp only [fe_12917, fe_12918, fe_12919, fe_12920]; by_cases q9 : (v_12904 : Int32).toInt = 0; have gp_12921 := gs_12916.resolve_left (fun h9 => h9 q9); clear gs_12916; have gp_12922 := x_12887.resolve_left (fun h9 => h9 q9); clear x_12887; have gz_12923 := x_12791.symm.trans gp_12922.1; have gp_12924 := lo_12761.resolve_left (fun h9 => h9 gz_12923); clear lo_12761; (right; omega); exact .inl q9)⟩ (by omega)
                refine v_pick [0] rfl ?_
                have fe_12928 : fld (f_12263 a_0) 8 = (v_12280 : Int32).toInt := by rw [e_12275]; rfl
                have fe_12929 : fld (f_12263 a_0) 9 = (v_12282 : Int32).toInt := by rw [e_12275]; rfl
                have fe_12930 : fld (f_12263 a_0) 10 = (v_12284 : Int32).toInt := by rw [e_12275]; rfl
                have fe_12931 : fld (f_12263 a_0) 12 = (v_12287 : Int32).toInt := by rw [e_12275]; rfl
                have gb_12932 := gm_b (f_12263 a_0)
                have fe_12933 : fld (f_12263 a_0) 8 = (v_12280 : Int32).toInt := by rw [e_12275]; rfl
                have fe_12934 : fld (f_12263 a_0) 12 = (v_12287 : Int32).toInt := by rw [e_12275]; rfl
                rw [fe_12933, fe_12934] at gb_12932
                exact lp_12753 700 f_12263 hW_12266 FR.rf ⟨_, hf_12274, ok_10749, wc_10750, (by simp only [fe_12928, fe_12929, fe_12930, fe_12931]; exact .inl g0_12305)⟩ (by omega)
              · simp only [Int32.lt_iff_toInt_lt, Int32.le_iff_toInt_le, Int32.reduceToInt, ← Int32.toInt_inj] at h_12304
                have nb_12306 : (1 ≤ r_12295.toInt ∧ r_12295.toInt ≤ 1) := by omega
                have g0_12307 := gd_t x_12300 h_12304
                clear x_12300
                have gp_12308 := x_12265.resolve_left (fun h9 => h9 g0_12307)
                clear x_12265
                have gp_12309 := x_12231.resolve_left (fun h9 => h9 gp_12308.1)
                clear x_12231
                refine v_aload_n hC dX12_watcher_76 rfl ?_
                have fe_12935 : fld (f_12263 a_0) 9 = (v_12282 : Int32).toInt := by rw [e_12275]; rfl
                have fe_12936 : fld (f_12263 a_0) 12 = (v_12287 : Int32).toInt := by rw [e_12275]; rfl
                have fe_12937 : fld (f_12263 a_0) 8 = (v_12280 : Int32).toInt := by rw [e_12275]; rfl
                have fe_12938 : fld (f_12263 a_0) 9 = (v_12282 : Int32).toInt := by rw [e_12275]; rfl
                have fe_12939 : fld (f_12263 a_0) 10 = (v_12284 : Int32).toInt := by rw [e_12275]; rfl
                have fe_12940 : fld (f_12263 a_0) 12 = (v_12287 : Int32).toInt := by rw [e_12275]; rfl
                refine v_vv hC (rest := []) m_1 e_12275 rfl mi_X12_readTest ms_X12_readTest (p_X12_readTest hW_12266 k_0 hf_12274 ok_10749 wc_10750 (by simp only [fe_12935, fe_12936]; omega) (by simp only [fe_12937, fe_12938, fe_12939, fe_12940]; omega)) mx_X12_readTest ml_X12_282 (by decide) rfl (cells1 := 0) (slots1 := 0) (by decide) (by decide) (Nat.le_of_ble_eq_true rfl) (Nat.le_of_ble_eq_true rfl) rfl (Nat.le_of_ble_eq_true rfl) dX12_watcher_77 (fun L_12942 f_12943 h_12944 => ?_)
                obtain ⟨rfl, hW_12947, hF_12948, x_12945, x_12946⟩ := h_12944
                have fe_12949 : fld (f_12263 a_0) 8 = (v_12280 : Int32).toInt := by rw [e_12275]; rfl
                have fe_12950 : fld (f_12263 a_0) 12 = (v_12287 : Int32).toInt := by rw [e_12275]; rfl
                obtain ⟨v_12952, v_12953, v_12954, v_12956, v_12958, v_12960, v_12962, v_12963, v_12964, v_12965, v_12966, e_12951, -, b_12955, b_12957, b_12959, b_12961, -, -⟩ := hW_12947.at m_1 t_2
                have fe_12967 : fld (f_12943 a_0) 8 = (v_12956 : Int32).toInt := by rw [e_12951]; rfl
                have fe_12968 : fld (f_12943 a_0) 9 = (v_12958 : Int32).toInt := by rw [e_12951]; rfl
                have fe_12969 : fld (f_12943 a_0) 10 = (v_12960 : Int32).toInt := by rw [e_12951]; rfl
                have fe_12970 : fld (f_12943 a_0) 12 = (v_12963 : Int32).toInt := by rw [e_12951]; rfl
                rw [fe_12970, fe_12968] at x_12945
                rw [fe_12970, fe_12950, fe_12949, fe_12967, fe_12968, fe_12969] at x_12946
                clear fe_12949 fe_12950 fe_12967 fe_12968 fe_12969 fe_12970
                obtain ⟨g_12971, e_12972, ok_12973, wc_12974, gs_12975⟩ := x_12945
                have wc_12974_b := wc_12974.1
                have lp_13419 : ∀ (n_13420 : Nat) (f_13415 : Nat → va_E) (hW_13416 : WT T L f_13415) (hF_13417 : FR [12, 2176] f_12943 f_13415)  (cv_13418 : ∃ g9 : Nat → Int32, (f_13415 (q 14)) = aI E 2076 g9 ∧ FOK g9 ∧ WC g9 ∧ (¬ fld (f_13415 a_0) 12 = 0 ∨ (v_12963.toInt = 0 ∧ v_12956.toInt ≤ fld (f_13415 a_0) 8 ∧ 4 * (g9 5).toInt ≤ fld (f_13415 a_0) 9 + 3 ∧ (fld (f_13415 a_0) 10 = 0 ∨ fld (f_13415 a_0) 9 < fld (f_13415 a_0) 8)))) (hm_13422 : gm (f_13415 a_0) < (n_13420 : Int)), V z E 1 0 0 L f_13415 80 [(0, .ref a_0)] [] := by
                  intro n_13420
                  induction n_13420 with
                  | zero =>
                    intro f_13415 hW_13416 hF_13417 cv_13418 hm_13422
                    obtain ⟨g_13423, e_13424, ok_13425, wc_13426, lo_13427⟩ := cv_13418
                    have wc_13426_b := wc_13426.1
                    obtain ⟨v_13429, v_13430, v_13431, v_13433, v_13435, v_13437, v_13439, v_13440, v_13441, v_13442, v_13443, e_13428, -, b_13432, b_13434, b_13436, b_13438, -, -⟩ := hW_13416.at m_1 t_2
                    have fe_13444 : fld (f_13415 a_0) 8 = (v_13433 : Int32).toInt := by rw [e_13428]; rfl
                    have fe_13445 : fld (f_13415 a_0) 9 = (v_13435 : Int32).toInt := by rw [e_13428]; rfl
                    have fe_13446 : fld (f_13415 a_0) 10 = (v_13437 : Int32).toInt := by rw [e_13428]; rfl
                    have fe_13447 : fld (f_13415 a_0) 12 = (v_13440 : Int32).toInt := by rw [e_13428]; rfl
                    rw [fe_13444, fe_13445, fe_13446, fe_13447] at lo_13427
                    have gb_13448 := gm_b (f_13415 a_0)
                    have fe_13449 : fld (f_13415 a_0) 8 = (v_13433 : Int32).toInt := by rw [e_13428]; rfl
                    have fe_13450 : fld (f_13415 a_0) 12 = (v_13440 : Int32).toInt := by rw [e_13428]; rfl
                    rw [fe_13449, fe_13450] at gb_13448
                    exfalso; omega
                  | succ n_13420 ih_13421 =>
                    intro f_13415 hW_13416 hF_13417 cv_13418 hm_13422
                    obtain ⟨g_13423, e_13424, ok_13425, wc_13426, lo_13427⟩ := cv_13418
                    have wc_13426_b := wc_13426.1
                    obtain ⟨v_13429, v_13430, v_13431, v_13433, v_13435, v_13437, v_13439, v_13440, v_13441, v_13442, v_13443, e_13428, -, b_13432, b_13434, b_13436, b_13438, -, -⟩ := hW_13416.at m_1 t_2
                    have fe_13444 : fld (f_13415 a_0) 8 = (v_13433 : Int32).toInt := by rw [e_13428]; rfl
                    have fe_13445 : fld (f_13415 a_0) 9 = (v_13435 : Int32).toInt := by rw [e_13428]; rfl
                    have fe_13446 : fld (f_13415 a_0) 10 = (v_13437 : Int32).toInt := by rw [e_13428]; rfl
                    have fe_13447 : fld (f_13415 a_0) 12 = (v_13440 : Int32).toInt := by rw [e_13428]; rfl
                    rw [fe_13444, fe_13445, fe_13446, fe_13447] at lo_13427
                    have gb_13448 := gm_b (f_13415 a_0)
                    have fe_13449 : fld (f_13415 a_0) 8 = (v_13433 : Int32).toInt := by rw [e_13428]; rfl
                    have fe_13450 : fld (f_13415 a_0) 12 = (v_13440 : Int32).toInt := by rw [e_13428]; rfl
                    rw [fe_13449, fe_13450] at gb_13448
                    refine v_aload_n hC dX12_watcher_80 rfl ?_
                    refine v_ldcwS hC sr_X12_285 dX12_watcher_81 ?_
                    refine v_vi hC (rest := []) m_1 e_13428 rfl mi_X12_takes ms_X12_takes (p_X12_takes hW_13416 k_0 (by decide)) mx_X12_takes ml_X12_159 (by decide) rfl (cells1 := 0) (slots1 := 0) (by decide) (by decide) (Nat.le_of_ble_eq_true rfl) (Nat.le_of_ble_eq_true rfl) rfl (Nat.le_of_ble_eq_true rfl) dX12_watcher_84 (fun r_13451 L_13452 f_13453 h_13454 => ?_)
                    obtain ⟨rfl, hW_13458, hF_13459, rfl, x_13455, x_13456, x_13457, -⟩ := h_13454
                    have fe_13460 : fld (f_13415 a_0) 8 = (v_13433 : Int32).toInt := by rw [e_13428]; rfl
                    have fe_13461 : fld (f_13415 a_0) 9 = (v_13435 : Int32).toInt := by rw [e_13428]; rfl
                    have fe_13462 : fld (f_13415 a_0) 10 = (v_13437 : Int32).toInt := by rw [e_13428]; rfl
                    have fe_13463 : fld (f_13415 a_0) 12 = (v_13440 : Int32).toInt := by rw [e_13428]; rfl
                    have ib_13464 := iw_b (f_13415 a_0) (f_13415 (q 4)) 70
                    have ln_13465 : ((bytStr.getD 70 []).length : Int) = 3 := by rfl
                    rw [fe_13463, fe_13462, fe_13460, fe_13461] at ib_13464
                    have hf_13466 := hF_13459.at e_13424 rfl
                    obtain ⟨v_13468, v_13469, v_13470, v_13472, v_13474, v_13476, v_13478, v_13479, v_13480, v_13481, v_13482, e_13467, -, b_13471, b_13473, b_13475, b_13477, -, -⟩ := hW_13458.at m_1 t_2
                    have fe_13483 : fld (f_13453 a_0) 8 = (v_13472 : Int32).toInt := by rw [e_13467]; rfl
                    have fe_13484 : fld (f_13453 a_0) 9 = (v_13474 : Int32).toInt := by rw [e_13467]; rfl
                    have fe_13485 : fld (f_13453 a_0) 10 = (v_13476 : Int32).toInt := by rw [e_13467]; rfl
                    have fe_13486 : fld (f_13453 a_0) 12 = (v_13479 : Int32).toInt := by rw [e_13467]; rfl
                    rw [fe_13460, fe_13484, fe_13483, fe_13485] at x_13455
                    rw [fe_13483, fe_13460, fe_13484, fe_13461, fe_13485, fe_13462] at x_13456
                    rw [fe_13486, fe_13463] at x_13457
                    clear fe_13460 fe_13461 fe_13462 fe_13463 fe_13483 fe_13484 fe_13485 fe_13486
                    try simp only [Int32.reduceToInt, Int64.reduceToInt] at x_13455
                    try simp only [Int32.reduceToInt, Int64.reduceToInt] at x_13456
                    try simp only [Int32.reduceToInt, Int64.reduceToInt] at x_13457
                    refine v_if_eq hC dX12_watcher_87 (tgt := 97) (by decide) (fun h_13487 => ?_) (fun h_13487 => ?_)
                    · simp only [Int32.lt_iff_toInt_lt, Int32.le_iff_toInt_le, Int32.reduceToInt, ← Int32.toInt_inj] at h_13487
                      refine v_aload_n hC dX12_watcher_97 rfl ?_
                      refine v_vv hC (rest := []) m_1 e_13467 rfl mi_X12_ends ms_X12_ends (p_X12_ends hW_13458 k_0) mx_X12_ends ml_X12_178 (by decide) rfl (cells1 := 0) (slots1 := 0) (by decide) (by decide) (Nat.le_of_ble_eq_true rfl) (Nat.le_of_ble_eq_true rfl) rfl (Nat.le_of_ble_eq_true rfl) dX12_watcher_98 (fun L_13489 f_13490 h_13491 => ?_)
                      obtain ⟨rfl, hW_13493, hF_13494, -, -, -, -, x_13492⟩ := h_13491
                      have fe_13495 : fld (f_13453 a_0) 8 = (v_13472 : Int32).toInt := by rw [e_13467]; rfl
                      have fe_13496 : fld (f_13453 a_0) 10 = (v_13476 : Int32).toInt := by rw [e_13467]; rfl
                      have fe_13497 : fld (f_13453 a_0) 12 = (v_13479 : Int32).toInt := by rw [e_13467]; rfl
                      have hf_13498 := hF_13494.at hf_13466 rfl
                      obtain ⟨v_13500, v_13501, v_13502, v_13504, v_13506, v_13508, v_13510, v_13511, v_13512, v_13513, v_13514, e_13499, -, b_13503, b_13505, b_13507, b_13509, -, -⟩ := hW_13493.at m_1 t_2
                      have fe_13515 : fld (f_13490 a_0) 8 = (v_13504 : Int32).toInt := by rw [e_13499]; rfl
                      have fe_13516 : fld (f_13490 a_0) 9 = (v_13506 : Int32).toInt := by rw [e_13499]; rfl
                      have fe_13517 : fld (f_13490 a_0) 10 = (v_13508 : Int32).toInt := by rw [e_13499]; rfl
                      have fe_13518 : fld (f_13490 a_0) 12 = (v_13511 : Int32).toInt := by rw [e_13499]; rfl
                      rw [fe_13518, fe_13497, fe_13496, fe_13495, fe_13516, fe_13515, fe_13517] at x_13492
                      clear fe_13495 fe_13496 fe_13497 fe_13515 fe_13516 fe_13517 fe_13518
                      refine v_aload_n hC dX12_watcher_101 rfl ?_
                      refine v_get hC fl_X12_34 m_1 e_13499 rfl dX12_watcher_102 ?_
                      refine v_iconst hC dX12_watcher_105 (v := 3) (by decide) ?_
                      refine v_dup2 hC dX12_watcher_106 rfl rfl ?_
                      refine v_iald hC m_71 hf_13498 (vp_in_iff.mpr (by decide)) (v := g_13423 3) rfl dX12_watcher_107 ?_
                      refine v_iconst hC dX12_watcher_108 (v := 1) (by decide) ?_
                      obtain ⟨v_13519, h_13520⟩ : ∃ v9 : Int32, (g_13423 3) + 1 = v9 := ⟨_, rfl⟩
                      refine v_iadd hC dX12_watcher_109 h_13520 ?_
                      refine v_iast hC m_71 hf_13498 (vp_in_iff.mpr (by decide)) dX12_watcher_110 (fun f_13522 hf_13523 hk_13524 => ?_)
                      have hW_13526 := hW_13493.up hf_13523 hk_13524 t_72 ⟨_, rfl, (ok_13425.up (i := 3) (by decide) (fun q1 q2 => absurd (And.intro q1 q2) (by decide)) (fun k9 q1 q2 q3 => by simp only [Int32.reduceToInt] at q3; omega))⟩
                      obtain ⟨g_13525, hf_13523, ok_13527, eg_13528⟩ : ∃ g9, f_13522 (q 14) = aI E 2076 g9 ∧ FOK g9 ∧ g9 = upd g_13423 (3 : Int32).toNatClampNeg v_13519 := ⟨_, hf_13523, (ok_13425.up (i := 3) (by decide) (fun q1 q2 => absurd (And.intro q1 q2) (by decide)) (fun k9 q1 q2 q3 => by simp only [Int32.reduceToInt] at q3; omega)), rfl⟩
                      have hf_13529 := (hk_13524 a_0 (ne_kd e_13499 hf_13498 rfl)).trans e_13499
                      have fr_13530 := FR.w hk_13524 hf_13498 (k := 2176) rfl
                      have wc_13531 := WC.n3 wc_13426 eg_13528
                      have wc_13531_t := wc_13531.2
                      refine v_goto hC dX12_watcher_111 (tgt := 15) (by decide) ?_
                      refine v_pick [0] rfl ?_
                      have fe_13532 : fld (f_13522 a_0) 8 = (v_13504 : Int32).toInt := by rw [hf_13529]; rfl
                      have fe_13533 : fld (f_13522 a_0) 9 = (v_13506 : Int32).toInt := by rw [hf_13529]; rfl
                      have fe_13534 : fld (f_13522 a_0) 10 = (v_13508 : Int32).toInt := by rw [hf_13529]; rfl
                      have fe_13535 : fld (f_13522 a_0) 12 = (v_13511 : Int32).toInt := by rw [hf_13529]; rfl
                      have gb_13541 := gm_b (f_13522 a_0)
                      have fe_13542 : fld (f_13522 a_0) 8 = (v_13504 : Int32).toInt := by rw [hf_13529]; rfl
                      have fe_13543 : fld (f_13522 a_0) 12 = (v_13511 : Int32).toInt := by rw [hf_13529]; rfl
                      rw [fe_13542, fe_13543] at gb_13541
                      exact ih_10745 f_13522 hW_13526 ((((((((hF_10741.tr hF_12233).tr hF_12267).tr hF_12948).tr hF_13417).tr hF_13459).tr hF_13494).tr fr_13530).mono rfl) ⟨_, hf_13523, ok_13527, wc_13531.1, (by simp only [fe_13532, fe_13533, fe_13534, fe_13535]; by_cases q9 : (v_13511 : Int32).toInt = 0; have gp_13536 := x_13492.resolve_left (fun h9 => h9 q9); clear x_13492; have gz_13537 := x_13457.symm.trans gp_13536.1; have gp_13538 := lo_13427.resolve_left (fun h9 => h9 gz_13537); clear lo_13427; have gp_13539 := gs_12975.resolve_left (fun h9 => h9 gp_13538.1); clear gs_12975; have gp_13540 := x_12946.resolve_left (fun h9 => h9 gp_13538.1); clear x_12946; (right; omega); exact .inl q9)⟩ (by omega)
                    · simp only [Int32.lt_iff_toInt_lt, Int32.le_iff_toInt_le, Int32.reduceToInt, ← Int32.toInt_inj] at h_13487
                      refine v_aload_n hC dX12_watcher_90 rfl ?_
                      have fe_13544 : fld (f_13453 a_0) 9 = (v_13474 : Int32).toInt := by rw [e_13467]; rfl
                      have fe_13545 : fld (f_13453 a_0) 12 = (v_13479 : Int32).toInt := by rw [e_13467]; rfl
                      have fe_13546 : fld (f_13453 a_0) 8 = (v_13472 : Int32).toInt := by rw [e_13467]; rfl
                      have fe_13547 : fld (f_13453 a_0) 9 = (v_13474 : Int32).toInt := by rw [e_13467]; rfl
                      have fe_13548 : fld (f_13453 a_0) 10 = (v_13476 : Int32).toInt := by rw [e_13467]; rfl
                      have fe_13549 : fld (f_13453 a_0) 12 = (v_13479 : Int32).toInt := by rw [e_13467]; rfl
                      refine v_vv hC (rest := []) m_1 e_13467 rfl mi_X12_readTest ms_X12_readTest (p_X12_readTest hW_13458 k_0 hf_13466 ok_13425 wc_13426 (by simp only [fe_13544, fe_13545]; omega) (by simp only [fe_13546, fe_13547, fe_13548, fe_13549]; omega)) mx_X12_readTest ml_X12_282 (by decide) rfl (cells1 := 0) (slots1 := 0) (by decide) (by decide) (Nat.le_of_ble_eq_true rfl) (Nat.le_of_ble_eq_true rfl) rfl (Nat.le_of_ble_eq_true rfl) dX12_watcher_91 (fun L_13551 f_13552 h_13553 => ?_)
                      obtain ⟨rfl, hW_13556, hF_13557, x_13554, x_13555⟩ := h_13553
                      have fe_13558 : fld (f_13453 a_0) 8 = (v_13472 : Int32).toInt := by rw [e_13467]; rfl
                      have fe_13559 : fld (f_13453 a_0) 12 = (v_13479 : Int32).toInt := by rw [e_13467]; rfl
                      obtain ⟨v_13561, v_13562, v_13563, v_13565, v_13567, v_13569, v_13571, v_13572, v_13573, v_13574, v_13575, e_13560, -, b_13564, b_13566, b_13568, b_13570, -, -⟩ := hW_13556.at m_1 t_2
                      have fe_13576 : fld (f_13552 a_0) 8 = (v_13565 : Int32).toInt := by rw [e_13560]; rfl
                      have fe_13577 : fld (f_13552 a_0) 9 = (v_13567 : Int32).toInt := by rw [e_13560]; rfl
                      have fe_13578 : fld (f_13552 a_0) 10 = (v_13569 : Int32).toInt := by rw [e_13560]; rfl
                      have fe_13579 : fld (f_13552 a_0) 12 = (v_13572 : Int32).toInt := by rw [e_13560]; rfl
                      rw [fe_13579, fe_13577] at x_13554
                      rw [fe_13579, fe_13559, fe_13558, fe_13576, fe_13577, fe_13578] at x_13555
                      clear fe_13558 fe_13559 fe_13576 fe_13577 fe_13578 fe_13579
                      obtain ⟨g_13580, e_13581, ok_13582, wc_13583, gs_13584⟩ := x_13554
                      have wc_13583_b := wc_13583.1
                      refine v_goto hC dX12_watcher_94 (tgt := 80) (by decide) ?_
                      refine v_pick [0] rfl ?_
                      have fe_13585 : fld (f_13552 a_0) 8 = (v_13565 : Int32).toInt := by rw [e_13560]; rfl
                      have fe_13586 : fld (f_13552 a_0) 9 = (v_13567 : Int32).toInt := by rw [e_13560]; rfl
                      have fe_13587 : fld (f_13552 a_0) 10 = (v_13569 : Int32).toInt := by rw [e_13560]; rfl
                      have fe_13588 : fld (f_13552 a_0) 12 = (v_13572 : Int32).toInt := by rw [e_13560]; rfl
                      have gb_13595 := gm_b (f_13552 a_0)
                      have fe_13596 : fld (f_13552 a_0) 8 = (v_13565 : Int32).toInt := by rw [e_13560]; rfl
                      have fe_13597 : fld (f_13552 a_0) 12 = (v_13572 : Int32).toInt := by rw [e_13560]; rfl
                      rw [fe_13596, fe_13597] at gb_13595
                      exact ih_13421 f_13552 hW_13556 (((hF_13417.tr hF_13459).tr hF_13557).mono rfl) ⟨_, e_13581, ok_13582, wc_13583, (by simp only [fe_13585, fe_13586, fe_13587, fe_13588]; by_cases q9 : (v_13572 : Int32).toInt = 0; have gp_13589 := gs_13584.resolve_left (fun h9 => h9 q9); clear gs_13584; have gp_13590 := x_13555.resolve_left (fun h9 => h9 q9); clear x_13555; have gz_13591 := x_13457.symm.trans gp_13590.1; have gp_13592 := lo_13427.resolve_left (fun h9 => h9 gz_13591); clear lo_13427; have gp_13593 := gs_12975.resolve_left (fun h9 => h9 gp_13592.1); clear gs_12975; have gp_13594 := x_12946.resolve_left (fun h9 => h9 gp_13592.1); clear x_12946; (right; omega); exact .inl q9)⟩ (by omega)
                refine v_pick [0] rfl ?_
                have fe_13598 : fld (f_12943 a_0) 8 = (v_12956 : Int32).toInt := by rw [e_12951]; rfl
                have fe_13599 : fld (f_12943 a_0) 9 = (v_12958 : Int32).toInt := by rw [e_12951]; rfl
                have fe_13600 : fld (f_12943 a_0) 10 = (v_12960 : Int32).toInt := by rw [e_12951]; rfl
                have fe_13601 : fld (f_12943 a_0) 12 = (v_12963 : Int32).toInt := by rw [e_12951]; rfl
                have gb_13604 := gm_b (f_12943 a_0)
                have fe_13605 : fld (f_12943 a_0) 8 = (v_12956 : Int32).toInt := by rw [e_12951]; rfl
                have fe_13606 : fld (f_12943 a_0) 12 = (v_12963 : Int32).toInt := by rw [e_12951]; rfl
                rw [fe_13605, fe_13606] at gb_13604
                exact lp_13419 700 f_12943 hW_12947 FR.rf ⟨_, e_12972, ok_12973, wc_12974, (by simp only [fe_13598, fe_13599, fe_13600, fe_13601]; by_cases q9 : (v_12963 : Int32).toInt = 0; have gp_13602 := gs_12975.resolve_left (fun h9 => h9 q9); clear gs_12975; have gp_13603 := x_12946.resolve_left (fun h9 => h9 q9); clear x_12946; (right; omega); exact .inl q9)⟩ (by omega)
            · simp only [Int32.lt_iff_toInt_lt, Int32.le_iff_toInt_le, Int32.reduceToInt, ← Int32.toInt_inj] at h_12226
              refine v_aload_n hC dX12_watcher_50 rfl ?_
              refine v_iconst hC dX12_watcher_51 (v := 3) (by decide) ?_
              refine v_vv hC (rest := []) m_1 e_10752 rfl mi_X12_errs ms_X12_errs (p_X12_errs hW_10740 k_0 (by decide)) mx_X12_errs ml_X12_162 (by decide) rfl (cells1 := 0) (slots1 := 0) (by decide) (by decide) (Nat.le_of_ble_eq_true rfl) (Nat.le_of_ble_eq_true rfl) rfl (Nat.le_of_ble_eq_true rfl) dX12_watcher_52 (fun L_13608 f_13609 h_13610 => ?_)
              obtain ⟨rfl, hW_13613, hF_13614, x_13611, x_13612, -, -, -⟩ := h_13610
              have fe_13615 : fld (f_10739 a_0) 8 = (v_10757 : Int32).toInt := by rw [e_10752]; rfl
              have hf_13616 := hF_13614.at e_10748 rfl
              obtain ⟨v_13618, v_13619, v_13620, v_13622, v_13624, v_13626, v_13628, v_13629, v_13630, v_13631, v_13632, e_13617, -, b_13621, b_13623, b_13625, b_13627, -, -⟩ := hW_13613.at m_1 t_2
              have fe_13633 : fld (f_13609 a_0) 8 = (v_13622 : Int32).toInt := by rw [e_13617]; rfl
              have fe_13634 : fld (f_13609 a_0) 12 = (v_13629 : Int32).toInt := by rw [e_13617]; rfl
              rw [fe_13634] at x_13611
              rw [fe_13633, fe_13615] at x_13612
              clear fe_13615 fe_13633 fe_13634
              refine v_aload_n hC dX12_watcher_55 rfl ?_
              refine v_ldcwS hC sr_X12_278 dX12_watcher_56 ?_
              refine v_vv hC (rest := []) m_1 e_13617 rfl mi_X12_needs ms_X12_needs (p_X12_needs hW_13613 k_0 (by decide)) mx_X12_needs ml_X12_166 (by decide) rfl (cells1 := 0) (slots1 := 0) (by decide) (by decide) (Nat.le_of_ble_eq_true rfl) (Nat.le_of_ble_eq_true rfl) rfl (Nat.le_of_ble_eq_true rfl) dX12_watcher_59 (fun L_13636 f_13637 h_13638 => ?_)
              obtain ⟨rfl, hW_13640, hF_13641, -, -, -, -, x_13639⟩ := h_13638
              have fe_13642 : fld (f_13609 a_0) 8 = (v_13622 : Int32).toInt := by rw [e_13617]; rfl
              have fe_13643 : fld (f_13609 a_0) 9 = (v_13624 : Int32).toInt := by rw [e_13617]; rfl
              have fe_13644 : fld (f_13609 a_0) 10 = (v_13626 : Int32).toInt := by rw [e_13617]; rfl
              have fe_13645 : fld (f_13609 a_0) 12 = (v_13629 : Int32).toInt := by rw [e_13617]; rfl
              have ib_13646 := iw_b (f_13609 a_0) (f_13609 (q 4)) 54
              have ln_13647 : ((bytStr.getD 54 []).length : Int) = 4 := by rfl
              rw [fe_13645, fe_13644, fe_13642, fe_13643] at ib_13646
              have hf_13648 := hF_13641.at hf_13616 rfl
              obtain ⟨v_13650, v_13651, v_13652, v_13654, v_13656, v_13658, v_13660, v_13661, v_13662, v_13663, v_13664, e_13649, -, b_13653, b_13655, b_13657, b_13659, -, -⟩ := hW_13640.at m_1 t_2
              have fe_13665 : fld (f_13637 a_0) 8 = (v_13654 : Int32).toInt := by rw [e_13649]; rfl
              have fe_13666 : fld (f_13637 a_0) 9 = (v_13656 : Int32).toInt := by rw [e_13649]; rfl
              have fe_13667 : fld (f_13637 a_0) 10 = (v_13658 : Int32).toInt := by rw [e_13649]; rfl
              have fe_13668 : fld (f_13637 a_0) 12 = (v_13661 : Int32).toInt := by rw [e_13649]; rfl
              rw [fe_13668, fe_13645, fe_13642, fe_13666, fe_13665, fe_13667] at x_13639
              have nb_13669 : ¬ (v_13661 : Int32).toInt = 0 := x_13639.elim id (fun h9 => absurd h9.1 x_13611)
              clear x_13639
              clear fe_13642 fe_13643 fe_13644 fe_13645 fe_13665 fe_13666 fe_13667 fe_13668
              refine v_aload_n hC dX12_watcher_62 rfl ?_
              refine v_ldcwS hC sr_X12_280 dX12_watcher_63 ?_
              refine v_vv hC (rest := []) m_1 e_13649 rfl mi_X12_needs ms_X12_needs (p_X12_needs hW_13640 k_0 (by decide)) mx_X12_needs ml_X12_166 (by decide) rfl (cells1 := 0) (slots1 := 0) (by decide) (by decide) (Nat.le_of_ble_eq_true rfl) (Nat.le_of_ble_eq_true rfl) rfl (Nat.le_of_ble_eq_true rfl) dX12_watcher_66 (fun L_13671 f_13672 h_13673 => ?_)
              obtain ⟨rfl, hW_13675, hF_13676, -, -, -, -, x_13674⟩ := h_13673
              have fe_13677 : fld (f_13637 a_0) 8 = (v_13654 : Int32).toInt := by rw [e_13649]; rfl
              have fe_13678 : fld (f_13637 a_0) 9 = (v_13656 : Int32).toInt := by rw [e_13649]; rfl
              have fe_13679 : fld (f_13637 a_0) 10 = (v_13658 : Int32).toInt := by rw [e_13649]; rfl
              have fe_13680 : fld (f_13637 a_0) 12 = (v_13661 : Int32).toInt := by rw [e_13649]; rfl
              have ib_13681 := iw_b (f_13637 a_0) (f_13637 (q 4)) 55
              have ln_13682 : ((bytStr.getD 55 []).length : Int) = 2 := by rfl
              rw [fe_13680, fe_13679, fe_13677, fe_13678] at ib_13681
              have hf_13683 := hF_13676.at hf_13648 rfl
              obtain ⟨v_13685, v_13686, v_13687, v_13689, v_13691, v_13693, v_13695, v_13696, v_13697, v_13698, v_13699, e_13684, -, b_13688, b_13690, b_13692, b_13694, -, -⟩ := hW_13675.at m_1 t_2
              have fe_13700 : fld (f_13672 a_0) 8 = (v_13689 : Int32).toInt := by rw [e_13684]; rfl
              have fe_13701 : fld (f_13672 a_0) 9 = (v_13691 : Int32).toInt := by rw [e_13684]; rfl
              have fe_13702 : fld (f_13672 a_0) 10 = (v_13693 : Int32).toInt := by rw [e_13684]; rfl
              have fe_13703 : fld (f_13672 a_0) 12 = (v_13696 : Int32).toInt := by rw [e_13684]; rfl
              rw [fe_13703, fe_13680, fe_13677, fe_13701, fe_13700, fe_13702] at x_13674
              have nb_13704 : ¬ (v_13696 : Int32).toInt = 0 := x_13674.elim id (fun h9 => absurd h9.1 nb_13669)
              clear x_13674
              clear fe_13677 fe_13678 fe_13679 fe_13680 fe_13700 fe_13701 fe_13702 fe_13703
              refine v_aload_n hC dX12_watcher_69 rfl ?_
              refine v_vi hC (rest := []) m_1 e_13684 rfl mi_X12_good ms_X12_good (p_X12_good hW_13675 k_0) mx_X12_good ml_X12_139 (by decide) rfl (cells1 := 0) (slots1 := 0) (by decide) (by decide) (Nat.le_of_ble_eq_true rfl) (Nat.le_of_ble_eq_true rfl) rfl (Nat.le_of_ble_eq_true rfl) dX12_watcher_70 (fun r_13705 L_13706 f_13707 h_13708 => ?_)
              obtain ⟨rfl, rfl, b_13709, x_13710⟩ := h_13708
              have fe_13713 : fld (f_13672 a_0) 12 = (v_13696 : Int32).toInt := by rw [e_13684]; rfl
              rw [fe_13713] at x_13710
              clear fe_13713
              try simp only [Int32.reduceToInt, Int64.reduceToInt] at x_13710
              refine v_if_eq_t hC dX12_watcher_73 (tgt := 80) (by decide) (gdb_z x_13710 nb_13704) ?_
              have lp_14157 : ∀ (n_14158 : Nat) (f_14153 : Nat → va_E) (hW_14154 : WT T L f_14153) (hF_14155 : FR [12, 2176] f_13672 f_14153)  (cv_14156 : ∃ g9 : Nat → Int32, (f_14153 (q 14)) = aI E 2076 g9 ∧ FOK g9 ∧ WC g9 ∧ (¬ fld (f_14153 a_0) 12 = 0 ∨ (v_13696.toInt = 0 ∧ v_13689.toInt ≤ fld (f_14153 a_0) 8 ∧ 4 * (g9 5).toInt ≤ fld (f_14153 a_0) 9 + 3 ∧ (fld (f_14153 a_0) 10 = 0 ∨ fld (f_14153 a_0) 9 < fld (f_14153 a_0) 8)))) (hm_14160 : gm (f_14153 a_0) < (n_14158 : Int)), V z E 1 0 0 L f_14153 80 [(0, .ref a_0)] [] := by
                intro n_14158
                induction n_14158 with
                | zero =>
                  intro f_14153 hW_14154 hF_14155 cv_14156 hm_14160
                  obtain ⟨g_14161, e_14162, ok_14163, wc_14164, lo_14165⟩ := cv_14156
                  have wc_14164_b := wc_14164.1
                  obtain ⟨v_14167, v_14168, v_14169, v_14171, v_14173, v_14175, v_14177, v_14178, v_14179, v_14180, v_14181, e_14166, -, b_14170, b_14172, b_14174, b_14176, -, -⟩ := hW_14154.at m_1 t_2
                  have fe_14182 : fld (f_14153 a_0) 8 = (v_14171 : Int32).toInt := by rw [e_14166]; rfl
                  have fe_14183 : fld (f_14153 a_0) 9 = (v_14173 : Int32).toInt := by rw [e_14166]; rfl
                  have fe_14184 : fld (f_14153 a_0) 10 = (v_14175 : Int32).toInt := by rw [e_14166]; rfl
                  have fe_14185 : fld (f_14153 a_0) 12 = (v_14178 : Int32).toInt := by rw [e_14166]; rfl
                  rw [fe_14182, fe_14183, fe_14184, fe_14185] at lo_14165
                  have gb_14186 := gm_b (f_14153 a_0)
                  have fe_14187 : fld (f_14153 a_0) 8 = (v_14171 : Int32).toInt := by rw [e_14166]; rfl
                  have fe_14188 : fld (f_14153 a_0) 12 = (v_14178 : Int32).toInt := by rw [e_14166]; rfl
                  rw [fe_14187, fe_14188] at gb_14186
                  exfalso; omega
                | succ n_14158 ih_14159 =>
                  intro f_14153 hW_14154 hF_14155 cv_14156 hm_14160
                  obtain ⟨g_14161, e_14162, ok_14163, wc_14164, lo_14165⟩ := cv_14156
                  have wc_14164_b := wc_14164.1
                  obtain ⟨v_14167, v_14168, v_14169, v_14171, v_14173, v_14175, v_14177, v_14178, v_14179, v_14180, v_14181, e_14166, -, b_14170, b_14172, b_14174, b_14176, -, -⟩ := hW_14154.at m_1 t_2
                  have fe_14182 : fld (f_14153 a_0) 8 = (v_14171 : Int32).toInt := by rw [e_14166]; rfl
                  have fe_14183 : fld (f_14153 a_0) 9 = (v_14173 : Int32).toInt := by rw [e_14166]; rfl
                  have fe_14184 : fld (f_14153 a_0) 10 = (v_14175 : Int32).toInt := by rw [e_14166]; rfl
                  have fe_14185 : fld (f_14153 a_0) 12 = (v_14178 : Int32).toInt := by rw [e_14166]; rfl
                  rw [fe_14182, fe_14183, fe_14184, fe_14185] at lo_14165
                  have gb_14186 := gm_b (f_14153 a_0)
                  have fe_14187 : fld (f_14153 a_0) 8 = (v_14171 : Int32).toInt := by rw [e_14166]; rfl
                  have fe_14188 : fld (f_14153 a_0) 12 = (v_14178 : Int32).toInt := by rw [e_14166]; rfl
                  rw [fe_14187, fe_14188] at gb_14186
                  refine v_aload_n hC dX12_watcher_80 rfl ?_
                  refine v_ldcwS hC sr_X12_285 dX12_watcher_81 ?_
                  refine v_vi hC (rest := []) m_1 e_14166 rfl mi_X12_takes ms_X12_takes (p_X12_takes hW_14154 k_0 (by decide)) mx_X12_takes ml_X12_159 (by decide) rfl (cells1 := 0) (slots1 := 0) (by decide) (by decide) (Nat.le_of_ble_eq_true rfl) (Nat.le_of_ble_eq_true rfl) rfl (Nat.le_of_ble_eq_true rfl) dX12_watcher_84 (fun r_14189 L_14190 f_14191 h_14192 => ?_)
                  obtain ⟨rfl, hW_14196, hF_14197, rfl, x_14193, x_14194, x_14195, -⟩ := h_14192
                  have fe_14198 : fld (f_14153 a_0) 8 = (v_14171 : Int32).toInt := by rw [e_14166]; rfl
                  have fe_14199 : fld (f_14153 a_0) 9 = (v_14173 : Int32).toInt := by rw [e_14166]; rfl
                  have fe_14200 : fld (f_14153 a_0) 10 = (v_14175 : Int32).toInt := by rw [e_14166]; rfl
                  have fe_14201 : fld (f_14153 a_0) 12 = (v_14178 : Int32).toInt := by rw [e_14166]; rfl
                  have ib_14202 := iw_b (f_14153 a_0) (f_14153 (q 4)) 70
                  have ln_14203 : ((bytStr.getD 70 []).length : Int) = 3 := by rfl
                  rw [fe_14201, fe_14200, fe_14198, fe_14199] at ib_14202
                  have hf_14204 := hF_14197.at e_14162 rfl
                  obtain ⟨v_14206, v_14207, v_14208, v_14210, v_14212, v_14214, v_14216, v_14217, v_14218, v_14219, v_14220, e_14205, -, b_14209, b_14211, b_14213, b_14215, -, -⟩ := hW_14196.at m_1 t_2
                  have fe_14221 : fld (f_14191 a_0) 8 = (v_14210 : Int32).toInt := by rw [e_14205]; rfl
                  have fe_14222 : fld (f_14191 a_0) 9 = (v_14212 : Int32).toInt := by rw [e_14205]; rfl
                  have fe_14223 : fld (f_14191 a_0) 10 = (v_14214 : Int32).toInt := by rw [e_14205]; rfl
                  have fe_14224 : fld (f_14191 a_0) 12 = (v_14217 : Int32).toInt := by rw [e_14205]; rfl
                  rw [fe_14198, fe_14222, fe_14221, fe_14223] at x_14193
                  rw [fe_14221, fe_14198, fe_14222, fe_14199, fe_14223, fe_14200] at x_14194
                  rw [fe_14224, fe_14201] at x_14195
                  clear fe_14198 fe_14199 fe_14200 fe_14201 fe_14221 fe_14222 fe_14223 fe_14224
                  try simp only [Int32.reduceToInt, Int64.reduceToInt] at x_14193
                  try simp only [Int32.reduceToInt, Int64.reduceToInt] at x_14194
                  try simp only [Int32.reduceToInt, Int64.reduceToInt] at x_14195
                  refine v_if_eq hC dX12_watcher_87 (tgt := 97) (by decide) (fun h_14225 => ?_) (fun h_14225 => ?_)
                  · simp only [Int32.lt_iff_toInt_lt, Int32.le_iff_toInt_le, Int32.reduceToInt, ← Int32.toInt_inj] at h_14225
                    refine v_aload_n hC dX12_watcher_97 rfl ?_
                    refine v_vv hC (rest := []) m_1 e_14205 rfl mi_X12_ends ms_X12_ends (p_X12_ends hW_14196 k_0) mx_X12_ends ml_X12_178 (by decide) rfl (cells1 := 0) (slots1 := 0) (by decide) (by decide) (Nat.le_of_ble_eq_true rfl) (Nat.le_of_ble_eq_true rfl) rfl (Nat.le_of_ble_eq_true rfl) dX12_watcher_98 (fun L_14227 f_14228 h_14229 => ?_)
                    obtain ⟨rfl, hW_14231, hF_14232, -, -, -, -, x_14230⟩ := h_14229
                    have fe_14233 : fld (f_14191 a_0) 8 = (v_14210 : Int32).toInt := by rw [e_14205]; rfl
                    have fe_14234 : fld (f_14191 a_0) 10 = (v_14214 : Int32).toInt := by rw [e_14205]; rfl
                    have fe_14235 : fld (f_14191 a_0) 12 = (v_14217 : Int32).toInt := by rw [e_14205]; rfl
                    have hf_14236 := hF_14232.at hf_14204 rfl
                    obtain ⟨v_14238, v_14239, v_14240, v_14242, v_14244, v_14246, v_14248, v_14249, v_14250, v_14251, v_14252, e_14237, -, b_14241, b_14243, b_14245, b_14247, -, -⟩ := hW_14231.at m_1 t_2
                    have fe_14253 : fld (f_14228 a_0) 8 = (v_14242 : Int32).toInt := by rw [e_14237]; rfl
                    have fe_14254 : fld (f_14228 a_0) 9 = (v_14244 : Int32).toInt := by rw [e_14237]; rfl
                    have fe_14255 : fld (f_14228 a_0) 10 = (v_14246 : Int32).toInt := by rw [e_14237]; rfl
                    have fe_14256 : fld (f_14228 a_0) 12 = (v_14249 : Int32).toInt := by rw [e_14237]; rfl
                    rw [fe_14256, fe_14235, fe_14234, fe_14233, fe_14254, fe_14253, fe_14255] at x_14230
                    clear fe_14233 fe_14234 fe_14235 fe_14253 fe_14254 fe_14255 fe_14256
                    refine v_aload_n hC dX12_watcher_101 rfl ?_
                    refine v_get hC fl_X12_34 m_1 e_14237 rfl dX12_watcher_102 ?_
                    refine v_iconst hC dX12_watcher_105 (v := 3) (by decide) ?_
                    refine v_dup2 hC dX12_watcher_106 rfl rfl ?_
                    refine v_iald hC m_71 hf_14236 (vp_in_iff.mpr (by decide)) (v := g_14161 3) rfl dX12_watcher_107 ?_
                    refine v_iconst hC dX12_watcher_108 (v := 1) (by decide) ?_
                    obtain ⟨v_14257, h_14258⟩ : ∃ v9 : Int32, (g_14161 3) + 1 = v9 := ⟨_, rfl⟩
                    refine v_iadd hC dX12_watcher_109 h_14258 ?_
                    refine v_iast hC m_71 hf_14236 (vp_in_iff.mpr (by decide)) dX12_watcher_110 (fun f_14260 hf_14261 hk_14262 => ?_)
                    have hW_14264 := hW_14231.up hf_14261 hk_14262 t_72 ⟨_, rfl, (ok_14163.up (i := 3) (by decide) (fun q1 q2 => absurd (And.intro q1 q2) (by decide)) (fun k9 q1 q2 q3 => by simp only [Int32.reduceToInt] at q3; omega))⟩
                    obtain ⟨g_14263, hf_14261, ok_14265, eg_14266⟩ : ∃ g9, f_14260 (q 14) = aI E 2076 g9 ∧ FOK g9 ∧ g9 = upd g_14161 (3 : Int32).toNatClampNeg v_14257 := ⟨_, hf_14261, (ok_14163.up (i := 3) (by decide) (fun q1 q2 => absurd (And.intro q1 q2) (by decide)) (fun k9 q1 q2 q3 => by simp only [Int32.reduceToInt] at q3; omega)), rfl⟩
                    have hf_14267 := (hk_14262 a_0 (ne_kd e_14237 hf_14236 rfl)).trans e_14237
                    have fr_14268 := FR.w hk_14262 hf_14236 (k := 2176) rfl
                    have wc_14269 := WC.n3 wc_14164 eg_14266
                    have wc_14269_t := wc_14269.2
                    refine v_goto hC dX12_watcher_111 (tgt := 15) (by decide) ?_
                    refine v_pick [0] rfl ?_
                    have fe_14270 : fld (f_14260 a_0) 8 = (v_14242 : Int32).toInt := by rw [hf_14267]; rfl
                    have fe_14271 : fld (f_14260 a_0) 9 = (v_14244 : Int32).toInt := by rw [hf_14267]; rfl
                    have fe_14272 : fld (f_14260 a_0) 10 = (v_14246 : Int32).toInt := by rw [hf_14267]; rfl
                    have fe_14273 : fld (f_14260 a_0) 12 = (v_14249 : Int32).toInt := by rw [hf_14267]; rfl
                    have gb_14277 := gm_b (f_14260 a_0)
                    have fe_14278 : fld (f_14260 a_0) 8 = (v_14242 : Int32).toInt := by rw [hf_14267]; rfl
                    have fe_14279 : fld (f_14260 a_0) 12 = (v_14249 : Int32).toInt := by rw [hf_14267]; rfl
                    rw [fe_14278, fe_14279] at gb_14277
                    exact ih_10745 f_14260 hW_14264 ((((((((hF_10741.tr hF_13614).tr hF_13641).tr hF_13676).tr hF_14155).tr hF_14197).tr hF_14232).tr fr_14268).mono rfl) ⟨_, hf_14261, ok_14265, wc_14269.1, (by simp only [fe_14270, fe_14271, fe_14272, fe_14273]; by_cases q9 : (v_14249 : Int32).toInt = 0; have gp_14274 := x_14230.resolve_left (fun h9 => h9 q9); clear x_14230; have gz_14275 := x_14195.symm.trans gp_14274.1; have gp_14276 := lo_14165.resolve_left (fun h9 => h9 gz_14275); clear lo_14165; (right; omega); exact .inl q9)⟩ (by omega)
                  · simp only [Int32.lt_iff_toInt_lt, Int32.le_iff_toInt_le, Int32.reduceToInt, ← Int32.toInt_inj] at h_14225
                    refine v_aload_n hC dX12_watcher_90 rfl ?_
                    have fe_14280 : fld (f_14191 a_0) 9 = (v_14212 : Int32).toInt := by rw [e_14205]; rfl
                    have fe_14281 : fld (f_14191 a_0) 12 = (v_14217 : Int32).toInt := by rw [e_14205]; rfl
                    have fe_14282 : fld (f_14191 a_0) 8 = (v_14210 : Int32).toInt := by rw [e_14205]; rfl
                    have fe_14283 : fld (f_14191 a_0) 9 = (v_14212 : Int32).toInt := by rw [e_14205]; rfl
                    have fe_14284 : fld (f_14191 a_0) 10 = (v_14214 : Int32).toInt := by rw [e_14205]; rfl
                    have fe_14285 : fld (f_14191 a_0) 12 = (v_14217 : Int32).toInt := by rw [e_14205]; rfl
                    refine v_vv hC (rest := []) m_1 e_14205 rfl mi_X12_readTest ms_X12_readTest (p_X12_readTest hW_14196 k_0 hf_14204 ok_14163 wc_14164 (by simp only [fe_14280, fe_14281]; omega) (by simp only [fe_14282, fe_14283, fe_14284, fe_14285]; omega)) mx_X12_readTest ml_X12_282 (by decide) rfl (cells1 := 0) (slots1 := 0) (by decide) (by decide) (Nat.le_of_ble_eq_true rfl) (Nat.le_of_ble_eq_true rfl) rfl (Nat.le_of_ble_eq_true rfl) dX12_watcher_91 (fun L_14287 f_14288 h_14289 => ?_)
                    obtain ⟨rfl, hW_14292, hF_14293, x_14290, x_14291⟩ := h_14289
                    have fe_14294 : fld (f_14191 a_0) 8 = (v_14210 : Int32).toInt := by rw [e_14205]; rfl
                    have fe_14295 : fld (f_14191 a_0) 12 = (v_14217 : Int32).toInt := by rw [e_14205]; rfl
                    obtain ⟨v_14297, v_14298, v_14299, v_14301, v_14303, v_14305, v_14307, v_14308, v_14309, v_14310, v_14311, e_14296, -, b_14300, b_14302, b_14304, b_14306, -, -⟩ := hW_14292.at m_1 t_2
                    have fe_14312 : fld (f_14288 a_0) 8 = (v_14301 : Int32).toInt := by rw [e_14296]; rfl
                    have fe_14313 : fld (f_14288 a_0) 9 = (v_14303 : Int32).toInt := by rw [e_14296]; rfl
                    have fe_14314 : fld (f_14288 a_0) 10 = (v_14305 : Int32).toInt := by rw [e_14296]; rfl
                    have fe_14315 : fld (f_14288 a_0) 12 = (v_14308 : Int32).toInt := by rw [e_14296]; rfl
                    rw [fe_14315, fe_14313] at x_14290
                    rw [fe_14315, fe_14295, fe_14294, fe_14312, fe_14313, fe_14314] at x_14291
                    clear fe_14294 fe_14295 fe_14312 fe_14313 fe_14314 fe_14315
                    obtain ⟨g_14316, e_14317, ok_14318, wc_14319, gs_14320⟩ := x_14290
                    have wc_14319_b := wc_14319.1
                    refine v_goto hC dX12_watcher_94 (tgt := 80) (by decide) ?_
                    refine v_pick [0] rfl ?_
                    have fe_14321 : fld (f_14288 a_0) 8 = (v_14301 : Int32).toInt := by rw [e_14296]; rfl
                    have fe_14322 : fld (f_14288 a_0) 9 = (v_14303 : Int32).toInt := by rw [e_14296]; rfl
                    have fe_14323 : fld (f_14288 a_0) 10 = (v_14305 : Int32).toInt := by rw [e_14296]; rfl
                    have fe_14324 : fld (f_14288 a_0) 12 = (v_14308 : Int32).toInt := by rw [e_14296]; rfl
                    have gb_14329 := gm_b (f_14288 a_0)
                    have fe_14330 : fld (f_14288 a_0) 8 = (v_14301 : Int32).toInt := by rw [e_14296]; rfl
                    have fe_14331 : fld (f_14288 a_0) 12 = (v_14308 : Int32).toInt := by rw [e_14296]; rfl
                    rw [fe_14330, fe_14331] at gb_14329
                    exact ih_14159 f_14288 hW_14292 (((hF_14155.tr hF_14197).tr hF_14293).mono rfl) ⟨_, e_14317, ok_14318, wc_14319, (by simp only [fe_14321, fe_14322, fe_14323, fe_14324]; by_cases q9 : (v_14308 : Int32).toInt = 0; have gp_14325 := gs_14320.resolve_left (fun h9 => h9 q9); clear gs_14320; have gp_14326 := x_14291.resolve_left (fun h9 => h9 q9); clear x_14291; have gz_14327 := x_14195.symm.trans gp_14326.1; have gp_14328 := lo_14165.resolve_left (fun h9 => h9 gz_14327); clear lo_14165; (right; omega); exact .inl q9)⟩ (by omega)
              refine v_pick [0] rfl ?_
              have fe_14332 : fld (f_13672 a_0) 8 = (v_13689 : Int32).toInt := by rw [e_13684]; rfl
              have fe_14333 : fld (f_13672 a_0) 9 = (v_13691 : Int32).toInt := by rw [e_13684]; rfl
              have fe_14334 : fld (f_13672 a_0) 10 = (v_13693 : Int32).toInt := by rw [e_13684]; rfl
              have fe_14335 : fld (f_13672 a_0) 12 = (v_13696 : Int32).toInt := by rw [e_13684]; rfl
              have gb_14336 := gm_b (f_13672 a_0)
              have fe_14337 : fld (f_13672 a_0) 8 = (v_13689 : Int32).toInt := by rw [e_13684]; rfl
              have fe_14338 : fld (f_13672 a_0) 12 = (v_13696 : Int32).toInt := by rw [e_13684]; rfl
              rw [fe_14337, fe_14338] at gb_14336
              exact lp_14157 700 f_13672 hW_13675 FR.rf ⟨_, hf_13683, ok_10749, wc_10750, (by simp only [fe_14332, fe_14333, fe_14334, fe_14335]; exact .inl nb_13704)⟩ (by omega)
  refine v_pick [0] rfl ?_
  have fe_14339 : fld (f_93 a_0) 8 = (v_109 : Int32).toInt := by rw [e_104]; rfl
  have fe_14340 : fld (f_93 a_0) 9 = (v_111 : Int32).toInt := by rw [e_104]; rfl
  have fe_14341 : fld (f_93 a_0) 10 = (v_113 : Int32).toInt := by rw [e_104]; rfl
  have fe_14342 : fld (f_93 a_0) 12 = (v_116 : Int32).toInt := by rw [e_104]; rfl
  have gb_14344 := gm_b (f_93 a_0)
  have fe_14345 : fld (f_93 a_0) 8 = (v_109 : Int32).toInt := by rw [e_104]; rfl
  have fe_14346 : fld (f_93 a_0) 12 = (v_116 : Int32).toInt := by rw [e_104]; rfl
  rw [fe_14345, fe_14346] at gb_14344
  exact lp_10743 700 f_93 hW_98 FR.rf ⟨_, hf_103, ok_85, wc_90, (by simp only [fe_14339, fe_14340, fe_14341, fe_14342]; by_cases q9 : (v_116 : Int32).toInt = 0; have gz_14343 := x_97.symm.trans q9; (right; omega); exact .inl q9)⟩ (by omega)
