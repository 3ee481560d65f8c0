set_option maxRecDepth 100000 in
set_option maxHeartbeats 8000000 in
theorem p_X12_watcher {l : Launch} {E : Ez} {L : List Nat} {f : Nat → va_E} {T : Nat → va_E → Prop} {a_0 : Nat} {q : Nat → Nat} (hW : WT T L f) (k_0 : isM T L E a_0 q) : CI l yX12_watcher cX12_watcher 1 .int 8 0 0 E [.ref a_0] L f (fun r L1 f1 => L = L1 ∧ WT T L f1 ∧ FR [12, 2176] f f1) := by
  refine ci_of (by decide) (Nat.le_of_ble_eq_true rfl) (fun z hz hnm hC hR => ?_)
  have hC : Cx z E cX12_watcher RX12 1 8 0 0 := hC
  subst hz
  show V z E 1 0 0 L f 0 [(0, .ref a_0)] []
  obtain ⟨m_1, t_2, nq_21, k_3, k_4, k_5, k_6, k_7, k_8, k_9, k_10, k_11, k_12, k_13, k_14, k_15, k_16, k_17, k_18, k_19, k_20⟩ := id k_0
  refine v_aload_n hC dX12_watcher_0 rfl ?_
  obtain ⟨v_23, v_24, v_25, v_27, v_29, v_31, v_33, v_34, v_35, v_36, v_37, e_22, -, b_26, b_28, b_30, b_32, -, -⟩ := hW.at m_1 t_2
  refine v_vv hC (rest := []) m_1 e_22 rfl mi_X12_begin ms_X12_begin (p_X12_begin hW k_0) mx_X12_begin ml_X12_181 (by decide) rfl (cells1 := 0) (slots1 := 0) (by decide) (by decide) (Nat.le_of_ble_eq_true rfl) (Nat.le_of_ble_eq_true rfl) rfl (Nat.le_of_ble_eq_true rfl) dX12_watcher_1 (fun L_39 f_40 h_41 => ?_)
  obtain ⟨rfl, hW_44, hF_45, x_42, x_43, -⟩ := h_41
  obtain ⟨v_47, v_48, v_49, v_51, v_53, v_55, v_57, v_58, v_59, v_60, v_61, e_46, -, b_50, b_52, b_54, b_56, -, -⟩ := hW_44.at m_1 t_2
  have fe_62 : fld (f_40 a_0) 8 = (v_51 : Int32).toInt := by rw [e_46]; rfl
  have fe_63 : fld (f_40 a_0) 12 = (v_58 : Int32).toInt := by rw [e_46]; rfl
  rw [fe_63] at x_42
  rw [fe_62] at x_43
  clear fe_62 fe_63
  refine v_aload_n hC dX12_watcher_4 rfl ?_
  refine v_iconst hC dX12_watcher_5 (v := 3) (by decide) ?_
  refine v_bipush hC dX12_watcher_6 (v := 6) (by decide) ?_
  obtain ⟨m_64, t_65⟩ := id k_3
  obtain ⟨g_67, e_66, ok_68⟩ := hW_44.at m_64 t_65
  have b_69 := ok_68.r0
  have b_70 := ok_68.w0
  obtain ⟨m_71, t_72⟩ := id k_8
  obtain ⟨g_74, e_73, ok_75⟩ := hW_44.at m_71 t_72
  refine v_vv hC (rest := []) m_1 e_46 rfl mi_X12_clears ms_X12_clears (p_X12_clears k_0 e_46 e_73 (by decide)) mx_X12_clears ml_X12_184 (by decide) rfl (cells1 := 0) (slots1 := 0) (by decide) (by decide) (Nat.le_of_ble_eq_true rfl) (Nat.le_of_ble_eq_true rfl) rfl (Nat.le_of_ble_eq_true rfl) dX12_watcher_8 (fun L_77 f_78 h_79 => ?_)
  obtain ⟨rfl, hf_80, hk_81⟩ := h_79
  have hf_82 := (hk_81 a_0 (ne_kd e_46 e_73 rfl)).trans e_46
  have hf_83 := (hk_81 (q 1) nq_21).trans e_66
  obtain ⟨g_86, e_87, ok_85, eg_88⟩ : ∃ g9, f_78 (q 14) = aI E 2076 g9 ∧ FOK g9 ∧ g9 = (va_cpy (fun _ => 0) g_74 (3 : Int32).toNatClampNeg (3 : Int32).toNatClampNeg ((6 : Int32).toNatClampNeg - (3 : Int32).toNatClampNeg)) := ⟨_, hf_80, (ok_75.clr _ _), rfl⟩
  have hW_84 := hW_44.up e_87 hk_81 t_72 ⟨_, rfl, ok_85⟩
  have fr_89 := FR.w hk_81 e_73 (k := 2176) rfl
  have wc_90_4 : g_86 4 = 0 := by rw [eg_88]; rfl
  have wc_90_5 : g_86 5 = 0 := by rw [eg_88]; rfl
  have wc_90 := WC.zero wc_90_4 wc_90_5
  have wc_90_t : (g_86 5).toInt = 0 := by rw [wc_90_5]; decide
  refine v_aload_n hC dX12_watcher_11 rfl ?_
  refine v_vv hC (rest := []) m_1 hf_82 rfl mi_X12_advance ms_X12_advance (p_X12_advance hW_84 k_0) mx_X12_advance ml_X12_156 (by decide) rfl (cells1 := 0) (slots1 := 0) (by decide) (by decide) (Nat.le_of_ble_eq_true rfl) (Nat.le_of_ble_eq_true rfl) rfl (Nat.le_of_ble_eq_true rfl) dX12_watcher_12 (fun L_92 f_93 h_94 => ?_)
  obtain ⟨rfl, hW_98, hF_99, x_95, x_96, x_97, -⟩ := h_94
  have fe_100 : fld (f_78 a_0) 8 = (v_51 : Int32).toInt := by rw [hf_82]; rfl
  have fe_101 : fld (f_78 a_0) 12 = (v_58 : Int32).toInt := by rw [hf_82]; rfl
  have hf_102 := hF_99.at hf_83 rfl
  have hf_103 := hF_99.at e_87 rfl
  obtain ⟨v_105, v_106, v_107, v_109, v_111, v_113, v_115, v_116, v_117, v_118, v_119, e_104, -, b_108, b_110, b_112, b_114, -, -⟩ := hW_98.at m_1 t_2
  have fe_120 : fld (f_93 a_0) 8 = (v_109 : Int32).toInt := by rw [e_104]; rfl
  have fe_121 : fld (f_93 a_0) 9 = (v_111 : Int32).toInt := by rw [e_104]; rfl
  have fe_122 : fld (f_93 a_0) 10 = (v_113 : Int32).toInt := by rw [e_104]; rfl
  have fe_123 : fld (f_93 a_0) 12 = (v_116 : Int32).toInt := by rw [e_104]; rfl
  rw [fe_100, fe_121, fe_120] at x_95
  rw [fe_122, fe_121, fe_120] at x_96
  rw [fe_123, fe_101] at x_97
  clear fe_100 fe_101 fe_120 fe_121 fe_122 fe_123
  have lp_10731 : ∀ (n_10732 : Nat) (f_10727 : Nat → va_E) (hW_10728 : WT T L f_10727) (hF_10729 : FR [12, 2176] f_93 f_10727)  (cv_10730 : ∃ g9 : Nat → Int32, (f_10727 (q 14)) = aI E 2076 g9 ∧ FOK g9 ∧ WC g9 ∧ (¬ fld (f_10727 a_0) 12 = 0 ∨ (4 * (g9 5).toInt ≤ fld (f_10727 a_0) 9 + 3 ∧ (fld (f_10727 a_0) 10 = 0 ∨ fld (f_10727 a_0) 9 < fld (f_10727 a_0) 8)))) (hm_10734 : gm (f_10727 a_0) < (n_10732 : Int)), V z E 1 0 0 L f_10727 15 [(0, .ref a_0)] [] := by
    intro n_10732
    induction n_10732 with
    | zero =>
      intro f_10727 hW_10728 hF_10729 cv_10730 hm_10734
      obtain ⟨g_10735, e_10736, ok_10737, wc_10738, lo_10739⟩ := cv_10730
      have wc_10738_b := wc_10738.1
      obtain ⟨v_10741, v_10742, v_10743, v_10745, v_10747, v_10749, v_10751, v_10752, v_10753, v_10754, v_10755, e_10740, -, b_10744, b_10746, b_10748, b_10750, -, -⟩ := hW_10728.at m_1 t_2
      have fe_10756 : fld (f_10727 a_0) 8 = (v_10745 : Int32).toInt := by rw [e_10740]; rfl
      have fe_10757 : fld (f_10727 a_0) 9 = (v_10747 : Int32).toInt := by rw [e_10740]; rfl
      have fe_10758 : fld (f_10727 a_0) 10 = (v_10749 : Int32).toInt := by rw [e_10740]; rfl
      have fe_10759 : fld (f_10727 a_0) 12 = (v_10752 : Int32).toInt := by rw [e_10740]; rfl
      rw [fe_10756, fe_10757, fe_10758, fe_10759] at lo_10739
      have gb_10760 := gm_b (f_10727 a_0)
      have fe_10761 : fld (f_10727 a_0) 8 = (v_10745 : Int32).toInt := by rw [e_10740]; rfl
      have fe_10762 : fld (f_10727 a_0) 12 = (v_10752 : Int32).toInt := by rw [e_10740]; rfl
      rw [fe_10761, fe_10762] at gb_10760
      exfalso; omega
    | succ n_10732 ih_10733 =>
      intro f_10727 hW_10728 hF_10729 cv_10730 hm_10734
      obtain ⟨g_10735, e_10736, ok_10737, wc_10738, lo_10739⟩ := cv_10730
      have wc_10738_b := wc_10738.1
      obtain ⟨v_10741, v_10742, v_10743, v_10745, v_10747, v_10749, v_10751, v_10752, v_10753, v_10754, v_10755, e_10740, -, b_10744, b_10746, b_10748, b_10750, -, -⟩ := hW_10728.at m_1 t_2
      have fe_10756 : fld (f_10727 a_0) 8 = (v_10745 : Int32).toInt := by rw [e_10740]; rfl
      have fe_10757 : fld (f_10727 a_0) 9 = (v_10747 : Int32).toInt := by rw [e_10740]; rfl
      have fe_10758 : fld (f_10727 a_0) 10 = (v_10749 : Int32).toInt := by rw [e_10740]; rfl
      have fe_10759 : fld (f_10727 a_0) 12 = (v_10752 : Int32).toInt := by rw [e_10740]; rfl
      rw [fe_10756, fe_10757, fe_10758, fe_10759] at lo_10739
      have gb_10760 := gm_b (f_10727 a_0)
      have fe_10761 : fld (f_10727 a_0) 8 = (v_10745 : Int32).toInt := by rw [e_10740]; rfl
      have fe_10762 : fld (f_10727 a_0) 12 = (v_10752 : Int32).toInt := by rw [e_10740]; rfl
      rw [fe_10761, fe_10762] at gb_10760
      refine v_aload_n hC dX12_watcher_15 rfl ?_
      refine v_vi hC (rest := []) m_1 e_10740 rfl mi_X12_good ms_X12_good (p_X12_good hW_10728 k_0) mx_X12_good ml_X12_139 (by decide) rfl (cells1 := 0) (slots1 := 0) (by decide) (by decide) (Nat.le_of_ble_eq_true rfl) (Nat.le_of_ble_eq_true rfl) rfl (Nat.le_of_ble_eq_true rfl) dX12_watcher_16 (fun r_10763 L_10764 f_10765 h_10766 => ?_)
      obtain ⟨rfl, rfl, b_10767, x_10768⟩ := h_10766
      have fe_10771 : fld (f_10727 a_0) 12 = (v_10752 : Int32).toInt := by rw [e_10740]; rfl
      rw [fe_10771] at x_10768
      clear fe_10771
      try simp only [Int32.reduceToInt, Int64.reduceToInt] at x_10768
      refine v_if_eq hC dX12_watcher_19 (tgt := 114) (by decide) (fun h_10772 => ?_) (fun h_10772 => ?_)
      · simp only [Int32.lt_iff_toInt_lt, Int32.le_iff_toInt_le, Int32.reduceToInt, ← Int32.toInt_inj] at h_10772
        have g0_10773 := gd_f x_10768 h_10772
        clear x_10768
        clear lo_10739
        refine v_aload_n hC dX12_watcher_114 rfl ?_
        refine v_vi hC (rest := []) m_1 e_10740 rfl mi_X12_good ms_X12_good (p_X12_good hW_10728 k_0) mx_X12_good ml_X12_139 (by decide) rfl (cells1 := 0) (slots1 := 0) (by decide) (by decide) (Nat.le_of_ble_eq_true rfl) (Nat.le_of_ble_eq_true rfl) rfl (Nat.le_of_ble_eq_true rfl) dX12_watcher_115 (fun r_10777 L_10778 f_10779 h_10780 => ?_)
        obtain ⟨rfl, rfl, b_10781, x_10782⟩ := h_10780
        have fe_10785 : fld (f_10727 a_0) 12 = (v_10752 : Int32).toInt := by rw [e_10740]; rfl
        rw [fe_10785] at x_10782
        clear fe_10785
        try simp only [Int32.reduceToInt, Int64.reduceToInt] at x_10782
        refine v_if_ne_f hC dX12_watcher_118 (tgt := 124) (by decide) (gdb_z x_10782 g0_10773) ?_
        refine v_bipush hC dX12_watcher_121 (v := (-4)) (by decide) ?_
        exact hR _ _ _ _ _ _ _ dX12_watcher_123 rfl (Nat.le_of_ble_eq_true rfl) (Nat.le_of_ble_eq_true rfl) ⟨rfl, hW_10728, ((((hF_45.tr fr_89).tr hF_99).tr hF_10729).mono rfl)⟩
      · simp only [Int32.lt_iff_toInt_lt, Int32.le_iff_toInt_le, Int32.reduceToInt, ← Int32.toInt_inj] at h_10772
        have nb_10774 : (1 ≤ r_10763.toInt ∧ r_10763.toInt ≤ 1) := by omega
        have g0_10775 := gd_t x_10768 h_10772
        clear x_10768
        have gp_10776 := lo_10739.resolve_left (fun h9 => h9 g0_10775)
        clear lo_10739
        refine v_aload_n hC dX12_watcher_22 rfl ?_
        refine v_get hC fl_X12_120 m_1 e_10740 rfl dX12_watcher_23 ?_
        refine v_if_eq hC dX12_watcher_26 (tgt := 114) (by decide) (fun h_10786 => ?_) (fun h_10786 => ?_)
        · simp only [Int32.lt_iff_toInt_lt, Int32.le_iff_toInt_le, Int32.reduceToInt, ← Int32.toInt_inj] at h_10786
          refine v_aload_n hC dX12_watcher_114 rfl ?_
          refine v_vi hC (rest := []) m_1 e_10740 rfl mi_X12_good ms_X12_good (p_X12_good hW_10728 k_0) mx_X12_good ml_X12_139 (by decide) rfl (cells1 := 0) (slots1 := 0) (by decide) (by decide) (Nat.le_of_ble_eq_true rfl) (Nat.le_of_ble_eq_true rfl) rfl (Nat.le_of_ble_eq_true rfl) dX12_watcher_115 (fun r_10788 L_10789 f_10790 h_10791 => ?_)
          obtain ⟨rfl, rfl, b_10792, x_10793⟩ := h_10791
          have fe_10796 : fld (f_10727 a_0) 12 = (v_10752 : Int32).toInt := by rw [e_10740]; rfl
          rw [fe_10796] at x_10793
          clear fe_10796
          try simp only [Int32.reduceToInt, Int64.reduceToInt] at x_10793
          refine v_if_ne_t hC dX12_watcher_118 (tgt := 124) (by decide) (gdb_n x_10793 g0_10775) ?_
          obtain ⟨g_10798, e_10797, ok_10799⟩ := hW_10728.at m_64 t_65
          have b_10800 := ok_10799.r0
          have b_10801 := ok_10799.w0
          refine v_aload_n hC dX12_watcher_124 rfl ?_
          refine v_iconst hC dX12_watcher_125 (v := 3) (by decide) ?_
          refine v_bipush hC dX12_watcher_126 (v := 6) (by decide) ?_
          refine v_vv hC (rest := []) m_1 e_10740 rfl mi_X12_keeps ms_X12_keeps (p_X12_keeps k_0 e_10740 e_10797 e_10736 (by decide)) mx_X12_keeps ml_X12_197 (by decide) rfl (cells1 := 0) (slots1 := 0) (by decide) (by decide) (Nat.le_of_ble_eq_true rfl) (Nat.le_of_ble_eq_true rfl) rfl (Nat.le_of_ble_eq_true rfl) dX12_watcher_128 (fun L_10803 f_10804 h_10805 => ?_)
          obtain ⟨rfl, hf_10806, hk_10807⟩ := h_10805
          have hf_10808 := (hk_10807 a_0 (ne_kd e_10740 e_10797 rfl)).trans e_10740
          have hf_10809 := (hk_10807 (q 14) nq_21.symm).trans e_10736
          refine v_aload_n hC dX12_watcher_131 rfl ?_
          refine v_sipush hC dX12_watcher_132 (v := 162) (by decide) ?_
          refine v_sipush hC dX12_watcher_135 (v := 1012) (by decide) ?_
          refine v_vv hC (rest := []) m_1 hf_10808 rfl mi_X12_keeps ms_X12_keeps (p_X12_keeps k_0 hf_10808 hf_10806 hf_10809 (by decide)) mx_X12_keeps ml_X12_197 (by decide) rfl (cells1 := 0) (slots1 := 0) (by decide) (by decide) (Nat.le_of_ble_eq_true rfl) (Nat.le_of_ble_eq_true rfl) rfl (Nat.le_of_ble_eq_true rfl) dX12_watcher_138 (fun L_10811 f_10812 h_10813 => ?_)
          obtain ⟨rfl, hf_10814, hk_10815⟩ := h_10813
          have hf_10816 := (hk_10815 a_0 (ne_kd hf_10808 hf_10806 rfl)).trans hf_10808
          have hf_10817 := (hk_10815 (q 14) nq_21.symm).trans hf_10809
          have kr_10818 : ∀ x9, x9 ≠ (q 1) → f_10812 x9 = f_10727 x9 := fun x9 hx9 => (hk_10815 x9 hx9).trans (hk_10807 x9 hx9)
          obtain ⟨g_10821, e_10822, ok_10820, eg_10823⟩ : ∃ g9, f_10812 (q 1) = aI E 2076 g9 ∧ WOK g9 ∧ g9 = (va_cpy g_10735 (va_cpy g_10735 g_10798 (3 : Int32).toNatClampNeg (3 : Int32).toNatClampNeg ((6 : Int32).toNatClampNeg - (3 : Int32).toNatClampNeg)) (162 : Int32).toNatClampNeg (162 : Int32).toNatClampNeg ((1012 : Int32).toNatClampNeg - (162 : Int32).toNatClampNeg)) := ⟨_, hf_10814, (WOK.wat ok_10799 ok_10737 wc_10738), rfl⟩
          have hW_10819 := hW_10728.up e_10822 kr_10818 t_65 ⟨_, rfl, ok_10820⟩
          have fr_10824 := FR.w kr_10818 e_10797 (k := 2176) rfl
          have b_10825 := ok_10820.r0
          have b_10826 := ok_10820.w0
          refine v_aload_n hC dX12_watcher_141 rfl ?_
          refine v_get hC fl_X12_13 m_1 hf_10816 rfl dX12_watcher_142 ?_
          refine v_iconst hC dX12_watcher_145 (v := 3) (by decide) ?_
          refine v_iald hC m_64 e_10822 (vp_in_iff.mpr (by decide)) (v := g_10821 3) rfl dX12_watcher_146 ?_
          exact hR _ _ _ _ _ _ _ dX12_watcher_147 rfl (Nat.le_of_ble_eq_true rfl) (Nat.le_of_ble_eq_true rfl) ⟨rfl, hW_10819, (((((hF_45.tr fr_89).tr hF_99).tr hF_10729).tr fr_10824).mono rfl)⟩
        · simp only [Int32.lt_iff_toInt_lt, Int32.le_iff_toInt_le, Int32.reduceToInt, ← Int32.toInt_inj] at h_10786
          have nb_10787 : (1 ≤ v_10749.toInt ∧ v_10749.toInt ≤ 4) := by omega
          refine v_aload_n hC dX12_watcher_29 rfl ?_
          refine v_ldcwS hC sr_X12_278 dX12_watcher_30 ?_
          refine v_vi hC (rest := []) m_1 e_10740 rfl mi_X12_is ms_X12_is (p_X12_is hW_10728 k_0 (by decide)) mx_X12_is ml_X12_152 (by decide) rfl (cells1 := 0) (slots1 := 0) (by decide) (by decide) (Nat.le_of_ble_eq_true rfl) (Nat.le_of_ble_eq_true rfl) rfl (Nat.le_of_ble_eq_true rfl) dX12_watcher_33 (fun r_10827 L_10828 f_10829 h_10830 => ?_)
          obtain ⟨rfl, rfl, rfl⟩ := h_10830
          refine v_if_eq hC dX12_watcher_36 (tgt := 55) (by decide) (fun h_10833 => ?_) (fun h_10833 => ?_)
          · simp only [Int32.lt_iff_toInt_lt, Int32.le_iff_toInt_le, Int32.reduceToInt, ← Int32.toInt_inj] at h_10833
            refine v_aload_n hC dX12_watcher_55 rfl ?_
            refine v_ldcwS hC sr_X12_278 dX12_watcher_56 ?_
            refine v_vv hC (rest := []) m_1 e_10740 rfl mi_X12_needs ms_X12_needs (p_X12_needs hW_10728 k_0 (by decide)) mx_X12_needs ml_X12_166 (by decide) rfl (cells1 := 0) (slots1 := 0) (by decide) (by decide) (Nat.le_of_ble_eq_true rfl) (Nat.le_of_ble_eq_true rfl) rfl (Nat.le_of_ble_eq_true rfl) dX12_watcher_59 (fun L_10835 f_10836 h_10837 => ?_)
            obtain ⟨rfl, hW_10839, hF_10840, -, -, -, -, x_10838⟩ := h_10837
            have fe_10841 : fld (f_10727 a_0) 8 = (v_10745 : Int32).toInt := by rw [e_10740]; rfl
            have fe_10842 : fld (f_10727 a_0) 9 = (v_10747 : Int32).toInt := by rw [e_10740]; rfl
            have fe_10843 : fld (f_10727 a_0) 10 = (v_10749 : Int32).toInt := by rw [e_10740]; rfl
            have fe_10844 : fld (f_10727 a_0) 12 = (v_10752 : Int32).toInt := by rw [e_10740]; rfl
            have ib_10845 := iw_b (f_10727 a_0) (f_10727 (q 4)) 54
            have ln_10846 : ((bytStr.getD 54 []).length : Int) = 4 := by rfl
            rw [fe_10844, fe_10843, fe_10841, fe_10842] at ib_10845
            have hf_10847 := hF_10840.at e_10736 rfl
            obtain ⟨v_10849, v_10850, v_10851, v_10853, v_10855, v_10857, v_10859, v_10860, v_10861, v_10862, v_10863, e_10848, -, b_10852, b_10854, b_10856, b_10858, -, -⟩ := hW_10839.at m_1 t_2
            have fe_10864 : fld (f_10836 a_0) 8 = (v_10853 : Int32).toInt := by rw [e_10848]; rfl
            have fe_10865 : fld (f_10836 a_0) 9 = (v_10855 : Int32).toInt := by rw [e_10848]; rfl
            have fe_10866 : fld (f_10836 a_0) 10 = (v_10857 : Int32).toInt := by rw [e_10848]; rfl
            have fe_10867 : fld (f_10836 a_0) 12 = (v_10860 : Int32).toInt := by rw [e_10848]; rfl
            rw [fe_10867, fe_10844, fe_10841, fe_10865, fe_10864, fe_10866] at x_10838
            clear fe_10841 fe_10842 fe_10843 fe_10844 fe_10864 fe_10865 fe_10866 fe_10867
            refine v_aload_n hC dX12_watcher_62 rfl ?_
            refine v_ldcwS hC sr_X12_280 dX12_watcher_63 ?_
            refine v_vv hC (rest := []) m_1 e_10848 rfl mi_X12_needs ms_X12_needs (p_X12_needs hW_10839 k_0 (by decide)) mx_X12_needs ml_X12_166 (by decide) rfl (cells1 := 0) (slots1 := 0) (by decide) (by decide) (Nat.le_of_ble_eq_true rfl) (Nat.le_of_ble_eq_true rfl) rfl (Nat.le_of_ble_eq_true rfl) dX12_watcher_66 (fun L_10869 f_10870 h_10871 => ?_)
            obtain ⟨rfl, hW_10873, hF_10874, -, -, -, -, x_10872⟩ := h_10871
            have fe_10875 : fld (f_10836 a_0) 8 = (v_10853 : Int32).toInt := by rw [e_10848]; rfl
            have fe_10876 : fld (f_10836 a_0) 9 = (v_10855 : Int32).toInt := by rw [e_10848]; rfl
            have fe_10877 : fld (f_10836 a_0) 10 = (v_10857 : Int32).toInt := by rw [e_10848]; rfl
            have fe_10878 : fld (f_10836 a_0) 12 = (v_10860 : Int32).toInt := by rw [e_10848]; rfl
            have ib_10879 := iw_b (f_10836 a_0) (f_10836 (q 4)) 55
            have ln_10880 : ((bytStr.getD 55 []).length : Int) = 2 := by rfl
            rw [fe_10878, fe_10877, fe_10875, fe_10876] at ib_10879
            have hf_10881 := hF_10874.at hf_10847 rfl
            obtain ⟨v_10883, v_10884, v_10885, v_10887, v_10889, v_10891, v_10893, v_10894, v_10895, v_10896, v_10897, e_10882, -, b_10886, b_10888, b_10890, b_10892, -, -⟩ := hW_10873.at m_1 t_2
            have fe_10898 : fld (f_10870 a_0) 8 = (v_10887 : Int32).toInt := by rw [e_10882]; rfl
            have fe_10899 : fld (f_10870 a_0) 9 = (v_10889 : Int32).toInt := by rw [e_10882]; rfl
            have fe_10900 : fld (f_10870 a_0) 10 = (v_10891 : Int32).toInt := by rw [e_10882]; rfl
            have fe_10901 : fld (f_10870 a_0) 12 = (v_10894 : Int32).toInt := by rw [e_10882]; rfl
            rw [fe_10901, fe_10878, fe_10875, fe_10899, fe_10898, fe_10900] at x_10872
            clear fe_10875 fe_10876 fe_10877 fe_10878 fe_10898 fe_10899 fe_10900 fe_10901
            refine v_aload_n hC dX12_watcher_69 rfl ?_
            refine v_vi hC (rest := []) m_1 e_10882 rfl mi_X12_good ms_X12_good (p_X12_good hW_10873 k_0) mx_X12_good ml_X12_139 (by decide) rfl (cells1 := 0) (slots1 := 0) (by decide) (by decide) (Nat.le_of_ble_eq_true rfl) (Nat.le_of_ble_eq_true rfl) rfl (Nat.le_of_ble_eq_true rfl) dX12_watcher_70 (fun r_10902 L_10903 f_10904 h_10905 => ?_)
            obtain ⟨rfl, rfl, b_10906, x_10907⟩ := h_10905
            have fe_10910 : fld (f_10870 a_0) 12 = (v_10894 : Int32).toInt := by rw [e_10882]; rfl
            rw [fe_10910] at x_10907
            clear fe_10910
            try simp only [Int32.reduceToInt, Int64.reduceToInt] at x_10907
            refine v_if_eq hC dX12_watcher_73 (tgt := 80) (by decide) (fun h_10911 => ?_) (fun h_10911 => ?_)
            · simp only [Int32.lt_iff_toInt_lt, Int32.le_iff_toInt_le, Int32.reduceToInt, ← Int32.toInt_inj] at h_10911
              have g0_10912 := gd_f x_10907 h_10911
              clear x_10907
              clear x_10838
              clear x_10872
              have lp_11360 : ∀ (n_11361 : Nat) (f_11356 : Nat → va_E) (hW_11357 : WT T L f_11356) (hF_11358 : FR [12, 2176] f_10870 f_11356)  (cv_11359 : ∃ g9 : Nat → Int32, (f_11356 (q 14)) = aI E 2076 g9 ∧ FOK g9 ∧ WC g9 ∧ (¬ fld (f_11356 a_0) 12 = 0 ∨ (4 * (g9 5).toInt ≤ fld (f_11356 a_0) 9 + 3 ∧ (fld (f_11356 a_0) 10 = 0 ∨ fld (f_11356 a_0) 9 < fld (f_11356 a_0) 8)))) (hm_11363 : gm (f_11356 a_0) < (n_11361 : Int)), V z E 1 0 0 L f_11356 80 [(0, .ref a_0)] [] := by
                intro n_11361
                induction n_11361 with
                | zero =>
                  intro f_11356 hW_11357 hF_11358 cv_11359 hm_11363
                  obtain ⟨g_11364, e_11365, ok_11366, wc_11367, lo_11368⟩ := cv_11359
                  have wc_11367_b := wc_11367.1
                  obtain ⟨v_11370, v_11371, v_11372, v_11374, v_11376, v_11378, v_11380, v_11381, v_11382, v_11383, v_11384, e_11369, -, b_11373, b_11375, b_11377, b_11379, -, -⟩ := hW_11357.at m_1 t_2
                  have fe_11385 : fld (f_11356 a_0) 8 = (v_11374 : Int32).toInt := by rw [e_11369]; rfl
                  have fe_11386 : fld (f_11356 a_0) 9 = (v_11376 : Int32).toInt := by rw [e_11369]; rfl
                  have fe_11387 : fld (f_11356 a_0) 10 = (v_11378 : Int32).toInt := by rw [e_11369]; rfl
                  have fe_11388 : fld (f_11356 a_0) 12 = (v_11381 : Int32).toInt := by rw [e_11369]; rfl
                  rw [fe_11385, fe_11386, fe_11387, fe_11388] at lo_11368
                  have gb_11389 := gm_b (f_11356 a_0)
                  have fe_11390 : fld (f_11356 a_0) 8 = (v_11374 : Int32).toInt := by rw [e_11369]; rfl
                  have fe_11391 : fld (f_11356 a_0) 12 = (v_11381 : Int32).toInt := by rw [e_11369]; rfl
                  rw [fe_11390, fe_11391] at gb_11389
                  exfalso; omega
                | succ n_11361 ih_11362 =>
                  intro f_11356 hW_11357 hF_11358 cv_11359 hm_11363
                  obtain ⟨g_11364, e_11365, ok_11366, wc_11367, lo_11368⟩ := cv_11359
                  have wc_11367_b := wc_11367.1
                  obtain ⟨v_11370, v_11371, v_11372, v_11374, v_11376, v_11378, v_11380, v_11381, v_11382, v_11383, v_11384, e_11369, -, b_11373, b_11375, b_11377, b_11379, -, -⟩ := hW_11357.at m_1 t_2
                  have fe_11385 : fld (f_11356 a_0) 8 = (v_11374 : Int32).toInt := by rw [e_11369]; rfl
                  have fe_11386 : fld (f_11356 a_0) 9 = (v_11376 : Int32).toInt := by rw [e_11369]; rfl
                  have fe_11387 : fld (f_11356 a_0) 10 = (v_11378 : Int32).toInt := by rw [e_11369]; rfl
                  have fe_11388 : fld (f_11356 a_0) 12 = (v_11381 : Int32).toInt := by rw [e_11369]; rfl
                  rw [fe_11385, fe_11386, fe_11387, fe_11388] at lo_11368
                  have gb_11389 := gm_b (f_11356 a_0)
                  have fe_11390 : fld (f_11356 a_0) 8 = (v_11374 : Int32).toInt := by rw [e_11369]; rfl
                  have fe_11391 : fld (f_11356 a_0) 12 = (v_11381 : Int32).toInt := by rw [e_11369]; rfl
                  rw [fe_11390, fe_11391] at gb_11389
                  refine v_aload_n hC dX12_watcher_80 rfl ?_
                  refine v_ldcwS hC sr_X12_285 dX12_watcher_81 ?_
                  refine v_vi hC (rest := []) m_1 e_11369 rfl mi_X12_takes ms_X12_takes (p_X12_takes hW_11357 k_0 (by decide)) mx_X12_takes ml_X12_159 (by decide) rfl (cells1 := 0) (slots1 := 0) (by decide) (by decide) (Nat.le_of_ble_eq_true rfl) (Nat.le_of_ble_eq_true rfl) rfl (Nat.le_of_ble_eq_true rfl) dX12_watcher_84 (fun r_11392 L_11393 f_11394 h_11395 => ?_)
                  obtain ⟨rfl, hW_11399, hF_11400, rfl, x_11396, x_11397, x_11398, -⟩ := h_11395
                  have fe_11401 : fld (f_11356 a_0) 8 = (v_11374 : Int32).toInt := by rw [e_11369]; rfl
                  have fe_11402 : fld (f_11356 a_0) 9 = (v_11376 : Int32).toInt := by rw [e_11369]; rfl
                  have fe_11403 : fld (f_11356 a_0) 10 = (v_11378 : Int32).toInt := by rw [e_11369]; rfl
                  have fe_11404 : fld (f_11356 a_0) 12 = (v_11381 : Int32).toInt := by rw [e_11369]; rfl
                  have ib_11405 := iw_b (f_11356 a_0) (f_11356 (q 4)) 70
                  have ln_11406 : ((bytStr.getD 70 []).length : Int) = 3 := by rfl
                  rw [fe_11404, fe_11403, fe_11401, fe_11402] at ib_11405
                  have hf_11407 := hF_11400.at e_11365 rfl
                  obtain ⟨v_11409, v_11410, v_11411, v_11413, v_11415, v_11417, v_11419, v_11420, v_11421, v_11422, v_11423, e_11408, -, b_11412, b_11414, b_11416, b_11418, -, -⟩ := hW_11399.at m_1 t_2
                  have fe_11424 : fld (f_11394 a_0) 8 = (v_11413 : Int32).toInt := by rw [e_11408]; rfl
                  have fe_11425 : fld (f_11394 a_0) 9 = (v_11415 : Int32).toInt := by rw [e_11408]; rfl
                  have fe_11426 : fld (f_11394 a_0) 10 = (v_11417 : Int32).toInt := by rw [e_11408]; rfl
                  have fe_11427 : fld (f_11394 a_0) 12 = (v_11420 : Int32).toInt := by rw [e_11408]; rfl
                  rw [fe_11401, fe_11425, fe_11424, fe_11426] at x_11396
                  rw [fe_11424, fe_11401, fe_11425, fe_11402, fe_11426, fe_11403] at x_11397
                  rw [fe_11427, fe_11404] at x_11398
                  clear fe_11401 fe_11402 fe_11403 fe_11404 fe_11424 fe_11425 fe_11426 fe_11427
                  try simp only [Int32.reduceToInt, Int64.reduceToInt] at x_11396
                  try simp only [Int32.reduceToInt, Int64.reduceToInt] at x_11397
                  try simp only [Int32.reduceToInt, Int64.reduceToInt] at x_11398
                  refine v_if_eq hC dX12_watcher_87 (tgt := 97) (by decide) (fun h_11428 => ?_) (fun h_11428 => ?_)
                  · simp only [Int32.lt_iff_toInt_lt, Int32.le_iff_toInt_le, Int32.reduceToInt, ← Int32.toInt_inj] at h_11428
                    refine v_aload_n hC dX12_watcher_97 rfl ?_
                    refine v_vv hC (rest := []) m_1 e_11408 rfl mi_X12_ends ms_X12_ends (p_X12_ends hW_11399 k_0) mx_X12_ends ml_X12_178 (by decide) rfl (cells1 := 0) (slots1 := 0) (by decide) (by decide) (Nat.le_of_ble_eq_true rfl) (Nat.le_of_ble_eq_true rfl) rfl (Nat.le_of_ble_eq_true rfl) dX12_watcher_98 (fun L_11430 f_11431 h_11432 => ?_)
                    obtain ⟨rfl, hW_11434, hF_11435, -, -, -, -, x_11433⟩ := h_11432
                    have fe_11436 : fld (f_11394 a_0) 8 = (v_11413 : Int32).toInt := by rw [e_11408]; rfl
                    have fe_11437 : fld (f_11394 a_0) 10 = (v_11417 : Int32).toInt := by rw [e_11408]; rfl
                    have fe_11438 : fld (f_11394 a_0) 12 = (v_11420 : Int32).toInt := by rw [e_11408]; rfl
                    have hf_11439 := hF_11435.at hf_11407 rfl
                    obtain ⟨v_11441, v_11442, v_11443, v_11445, v_11447, v_11449, v_11451, v_11452, v_11453, v_11454, v_11455, e_11440, -, b_11444, b_11446, b_11448, b_11450, -, -⟩ := hW_11434.at m_1 t_2
                    have fe_11456 : fld (f_11431 a_0) 8 = (v_11445 : Int32).toInt := by rw [e_11440]; rfl
                    have fe_11457 : fld (f_11431 a_0) 9 = (v_11447 : Int32).toInt := by rw [e_11440]; rfl
                    have fe_11458 : fld (f_11431 a_0) 10 = (v_11449 : Int32).toInt := by rw [e_11440]; rfl
                    have fe_11459 : fld (f_11431 a_0) 12 = (v_11452 : Int32).toInt := by rw [e_11440]; rfl
                    rw [fe_11459, fe_11438, fe_11437, fe_11436, fe_11457, fe_11456, fe_11458] at x_11433
                    clear fe_11436 fe_11437 fe_11438 fe_11456 fe_11457 fe_11458 fe_11459
                    refine v_aload_n hC dX12_watcher_101 rfl ?_
                    refine v_get hC fl_X12_34 m_1 e_11440 rfl dX12_watcher_102 ?_
                    refine v_iconst hC dX12_watcher_105 (v := 3) (by decide) ?_
                    refine v_dup2 hC dX12_watcher_106 rfl rfl ?_
                    refine v_iald hC m_71 hf_11439 (vp_in_iff.mpr (by decide)) (v := g_11364 3) rfl dX12_watcher_107 ?_
                    refine v_iconst hC dX12_watcher_108 (v := 1) (by decide) ?_
                    obtain ⟨v_11460, h_11461⟩ : ∃ v9 : Int32, (g_11364 3) + 1 = v9 := ⟨_, rfl⟩
                    refine v_iadd hC dX12_watcher_109 h_11461 ?_
                    refine v_iast hC m_71 hf_11439 (vp_in_iff.mpr (by decide)) dX12_watcher_110 (fun f_11463 hf_11464 hk_11465 => ?_)
                    have hW_11467 := hW_11434.up hf_11464 hk_11465 t_72 ⟨_, rfl, (ok_11366.up (i := 3) (by decide) (fun q1 q2 => absurd (And.intro q1 q2) (by decide)) (fun k9 q1 q2 q3 => by simp only [Int32.reduceToInt] at q3; omega))⟩
                    obtain ⟨g_11466, hf_11464, ok_11468, eg_11469⟩ : ∃ g9, f_11463 (q 14) = aI E 2076 g9 ∧ FOK g9 ∧ g9 = upd g_11364 (3 : Int32).toNatClampNeg v_11460 := ⟨_, hf_11464, (ok_11366.up (i := 3) (by decide) (fun q1 q2 => absurd (And.intro q1 q2) (by decide)) (fun k9 q1 q2 q3 => by simp only [Int32.reduceToInt] at q3; omega)), rfl⟩
                    have hf_11470 := (hk_11465 a_0 (ne_kd e_11440 hf_11439 rfl)).trans e_11440
                    have fr_11471 := FR.w hk_11465 hf_11439 (k := 2176) rfl
                    have wc_11472 := WC.n3 wc_11367 eg_11469
                    have wc_11472_t := wc_11472.2
                    refine v_goto hC dX12_watcher_111 (tgt := 15) (by decide) ?_
                    refine v_pick [0] rfl ?_
                    have fe_11473 : fld (f_11463 a_0) 8 = (v_11445 : Int32).toInt := by rw [hf_11470]; rfl
                    have fe_11474 : fld (f_11463 a_0) 9 = (v_11447 : Int32).toInt := by rw [hf_11470]; rfl
                    have fe_11475 : fld (f_11463 a_0) 10 = (v_11449 : Int32).toInt := by rw [hf_11470]; rfl
                    have fe_11476 : fld (f_11463 a_0) 12 = (v_11452 : Int32).toInt := by rw [hf_11470]; rfl
                    have gb_11480 := gm_b (f_11463 a_0)
                    have fe_11481 : fld (f_11463 a_0) 8 = (v_11445 : Int32).toInt := by rw [hf_11470]; rfl
                    have fe_11482 : fld (f_11463 a_0) 12 = (v_11452 : Int32).toInt := by rw [hf_11470]; rfl
                    rw [fe_11481, fe_11482] at gb_11480
                    exact ih_10733 f_11463 hW_11467 (((((((hF_10729.tr hF_10840).tr hF_10874).tr hF_11358).tr hF_11400).tr hF_11435).tr fr_11471).mono rfl) ⟨_, hf_11464, ok_11468, wc_11472.1, (by simp only [fe_11473, fe_11474, fe_11475, fe_11476]; by_cases q9 : (v_11452 : Int32).toInt = 0; have gp_11477 := x_11433.resolve_left (fun h9 => h9 q9); clear x_11433; have gz_11478 := x_11398.symm.trans gp_11477.1; have gp_11479 := lo_11368.resolve_left (fun h9 => h9 gz_11478); clear lo_11368; (right; omega); exact .inl q9)⟩ (by omega)
                  · simp only [Int32.lt_iff_toInt_lt, Int32.le_iff_toInt_le, Int32.reduceToInt, ← Int32.toInt_inj] at h_11428
                    refine v_aload_n hC dX12_watcher_90 rfl ?_
                    have fe_11483 : fld (f_11394 a_0) 9 = (v_11415 : Int32).toInt := by rw [e_11408]; rfl
                    have fe_11484 : fld (f_11394 a_0) 12 = (v_11420 : Int32).toInt := by rw [e_11408]; rfl
                    have fe_11485 : fld (f_11394 a_0) 8 = (v_11413 : Int32).toInt := by rw [e_11408]; rfl
                    have fe_11486 : fld (f_11394 a_0) 9 = (v_11415 : Int32).toInt := by rw [e_11408]; rfl
                    have fe_11487 : fld (f_11394 a_0) 10 = (v_11417 : Int32).toInt := by rw [e_11408]; rfl
                    have fe_11488 : fld (f_11394 a_0) 12 = (v_11420 : Int32).toInt := by rw [e_11408]; rfl
                    refine v_vv hC (rest := []) m_1 e_11408 rfl mi_X12_readTest ms_X12_readTest (p_X12_readTest hW_11399 k_0 hf_11407 ok_11366 wc_11367 (by simp only [fe_11483, fe_11484]; omega) (by simp only [fe_11485, fe_11486, fe_11487, fe_11488]; omega)) mx_X12_readTest ml_X12_282 (by decide) rfl (cells1 := 0) (slots1 := 0) (by decide) (by decide) (Nat.le_of_ble_eq_true rfl) (Nat.le_of_ble_eq_true rfl) rfl (Nat.le_of_ble_eq_true rfl) dX12_watcher_91 (fun L_11490 f_11491 h_11492 => ?_)
                    obtain ⟨rfl, hW_11495, hF_11496, x_11493, x_11494⟩ := h_11492
                    have fe_11497 : fld (f_11394 a_0) 8 = (v_11413 : Int32).toInt := by rw [e_11408]; rfl
                    have fe_11498 : fld (f_11394 a_0) 12 = (v_11420 : Int32).toInt := by rw [e_11408]; rfl
                    obtain ⟨v_11500, v_11501, v_11502, v_11504, v_11506, v_11508, v_11510, v_11511, v_11512, v_11513, v_11514, e_11499, -, b_11503, b_11505, b_11507, b_11509, -, -⟩ := hW_11495.at m_1 t_2
                    have fe_11515 : fld (f_11491 a_0) 8 = (v_11504 : Int32).toInt := by rw [e_11499]; rfl
                    have fe_11516 : fld (f_11491 a_0) 9 = (v_11506 : Int32).toInt := by rw [e_11499]; rfl
                    have fe_11517 : fld (f_11491 a_0) 10 = (v_11508 : Int32).toInt := by rw [e_11499]; rfl
                    have fe_11518 : fld (f_11491 a_0) 12 = (v_11511 : Int32).toInt := by rw [e_11499]; rfl
                    rw [fe_11518, fe_11516] at x_11493
                    rw [fe_11518, fe_11498, fe_11497, fe_11515, fe_11516, fe_11517] at x_11494
                    clear fe_11497 fe_11498 fe_11515 fe_11516 fe_11517 fe_11518
                    obtain ⟨g_11519, e_11520, ok_11521, wc_11522, gs_11523⟩ := x_11493
                    have wc_11522_b := wc_11522.1
                    refine v_goto hC dX12_watcher_94 (tgt := 80) (by decide) ?_
                    refine v_pick [0] rfl ?_
                    have fe_11524 : fld (f_11491 a_0) 8 = (v_11504 : Int32).toInt := by rw [e_11499]; rfl
                    have fe_11525 : fld (f_11491 a_0) 9 = (v_11506 : Int32).toInt := by rw [e_11499]; rfl
                    have fe_11526 : fld (f_11491 a_0) 10 = (v_11508 : Int32).toInt := by rw [e_11499]; rfl
                    have fe_11527 : fld (f_11491 a_0) 12 = (v_11511 : Int32).toInt := by rw [e_11499]; rfl
                    have gb_11532 := gm_b (f_11491 a_0)
                    have fe_11533 : fld (f_11491 a_0) 8 = (v_11504 : Int32).toInt := by rw [e_11499]; rfl
                    have fe_11534 : fld (f_11491 a_0) 12 = (v_11511 : Int32).toInt := by rw [e_11499]; rfl
                    rw [fe_11533, fe_11534] at gb_11532
                    exact ih_11362 f_11491 hW_11495 (((hF_11358.tr hF_11400).tr hF_11496).mono rfl) ⟨_, e_11520, ok_11521, wc_11522, (by simp only [fe_11524, fe_11525, fe_11526, fe_11527]; by_cases q9 : (v_11511 : Int32).toInt = 0; have gp_11528 := gs_11523.resolve_left (fun h9 => h9 q9); clear gs_11523; have gp_11529 := x_11494.resolve_left (fun h9 => h9 q9); clear x_11494; have gz_11530 := x_11398.symm.trans gp_11529.1; have gp_11531 := lo_11368.resolve_left (fun h9 => h9 gz_11530); clear lo_11368; (right; omega); exact .inl q9)⟩ (by omega)
              refine v_pick [0] rfl ?_
              have fe_11535 : fld (f_10870 a_0) 8 = (v_10887 : Int32).toInt := by rw [e_10882]; rfl
              have fe_11536 : fld (f_10870 a_0) 9 = (v_10889 : Int32).toInt := by rw [e_10882]; rfl
              have fe_11537 : fld (f_10870 a_0) 10 = (v_10891 : Int32).toInt := by rw [e_10882]; rfl
              have fe_11538 : fld (f_10870 a_0) 12 = (v_10894 : Int32).toInt := by rw [e_10882]; rfl
              have gb_11539 := gm_b (f_10870 a_0)
              have fe_11540 : fld (f_10870 a_0) 8 = (v_10887 : Int32).toInt := by rw [e_10882]; rfl
              have fe_11541 : fld (f_10870 a_0) 12 = (v_10894 : Int32).toInt := by rw [e_10882]; rfl
              rw [fe_11540, fe_11541] at gb_11539
              exact lp_11360 700 f_10870 hW_10873 FR.rf ⟨_, hf_10881, ok_10737, wc_10738, (by simp only [fe_11535, fe_11536, fe_11537, fe_11538]; exact .inl g0_10912)⟩ (by omega)
            · simp only [Int32.lt_iff_toInt_lt, Int32.le_iff_toInt_le, Int32.reduceToInt, ← Int32.toInt_inj] at h_10911
              have nb_10913 : (1 ≤ r_10902.toInt ∧ r_10902.toInt ≤ 1) := by omega
              have g0_10914 := gd_t x_10907 h_10911
              clear x_10907
              have gp_10915 := x_10872.resolve_left (fun h9 => h9 g0_10914)
              clear x_10872
              have gp_10916 := x_10838.resolve_left (fun h9 => h9 gp_10915.1)
              clear x_10838
              refine v_aload_n hC dX12_watcher_76 rfl ?_
              have fe_11542 : fld (f_10870 a_0) 9 = (v_10889 : Int32).toInt := by rw [e_10882]; rfl
              have fe_11543 : fld (f_10870 a_0) 12 = (v_10894 : Int32).toInt := by rw [e_10882]; rfl
              have fe_11544 : fld (f_10870 a_0) 8 = (v_10887 : Int32).toInt := by rw [e_10882]; rfl
              have fe_11545 : fld (f_10870 a_0) 9 = (v_10889 : Int32).toInt := by rw [e_10882]; rfl
              have fe_11546 : fld (f_10870 a_0) 10 = (v_10891 : Int32).toInt := by rw [e_10882]; rfl
              have fe_11547 : fld (f_10870 a_0) 12 = (v_10894 : Int32).toInt := by rw [e_10882]; rfl
              refine v_vv hC (rest := []) m_1 e_10882 rfl mi_X12_readTest ms_X12_readTest (p_X12_readTest hW_10873 k_0 hf_10881 ok_10737 wc_10738 (by simp only [fe_11542, fe_11543]; omega) (by simp only [fe_11544, fe_11545, fe_11546, fe_11547]; omega)) mx_X12_readTest ml_X12_282 (by decide) rfl (cells1 := 0) (slots1 := 0) (by decide) (by decide) (Nat.le_of_ble_eq_true rfl) (Nat.le_of_ble_eq_true rfl) rfl (Nat.le_of_ble_eq_true rfl) dX12_watcher_77 (fun L_11549 f_11550 h_11551 => ?_)
              obtain ⟨rfl, hW_11554, hF_11555, x_11552, x_11553⟩ := h_11551
              have fe_11556 : fld (f_10870 a_0) 8 = (v_10887 : Int32).toInt := by rw [e_10882]; rfl
              have fe_11557 : fld (f_10870 a_0) 12 = (v_10894 : Int32).toInt := by rw [e_10882]; rfl
              obtain ⟨v_11559, v_11560, v_11561, v_11563, v_11565, v_11567, v_11569, v_11570, v_11571, v_11572, v_11573, e_11558, -, b_11562, b_11564, b_11566, b_11568, -, -⟩ := hW_11554.at m_1 t_2
              have fe_11574 : fld (f_11550 a_0) 8 = (v_11563 : Int32).toInt := by rw [e_11558]; rfl
              have fe_11575 : fld (f_11550 a_0) 9 = (v_11565 : Int32).toInt := by rw [e_11558]; rfl
              have fe_11576 : fld (f_11550 a_0) 10 = (v_11567 : Int32).toInt := by rw [e_11558]; rfl
              have fe_11577 : fld (f_11550 a_0) 12 = (v_11570 : Int32).toInt := by rw [e_11558]; rfl
              rw [fe_11577, fe_11575] at x_11552
              rw [fe_11577, fe_11557, fe_11556, fe_11574, fe_11575, fe_11576] at x_11553
              clear fe_11556 fe_11557 fe_11574 fe_11575 fe_11576 fe_11577
              obtain ⟨g_11578, e_11579, ok_11580, wc_11581, gs_11582⟩ := x_11552
              have wc_11581_b := wc_11581.1
              have lp_12026 : ∀ (n_12027 : Nat) (f_12022 : Nat → va_E) (hW_12023 : WT T L f_12022) (hF_12024 : FR [12, 2176] f_11550 f_12022)  (cv_12025 : ∃ g9 : Nat → Int32, (f_12022 (q 14)) = aI E 2076 g9 ∧ FOK g9 ∧ WC g9 ∧ (¬ fld (f_12022 a_0) 12 = 0 ∨ (4 * (g9 5).toInt ≤ fld (f_12022 a_0) 9 + 3 ∧ (fld (f_12022 a_0) 10 = 0 ∨ fld (f_12022 a_0) 9 < fld (f_12022 a_0) 8)))) (hm_12029 : gm (f_12022 a_0) < (n_12027 : Int)), V z E 1 0 0 L f_12022 80 [(0, .ref a_0)] [] := by
                intro n_12027
                induction n_12027 with
                | zero =>
                  intro f_12022 hW_12023 hF_12024 cv_12025 hm_12029
                  obtain ⟨g_12030, e_12031, ok_12032, wc_12033, lo_12034⟩ := cv_12025
                  have wc_12033_b := wc_12033.1
                  obtain ⟨v_12036, v_12037, v_12038, v_12040, v_12042, v_12044, v_12046, v_12047, v_12048, v_12049, v_12050, e_12035, -, b_12039, b_12041, b_12043, b_12045, -, -⟩ := hW_12023.at m_1 t_2
                  have fe_12051 : fld (f_12022 a_0) 8 = (v_12040 : Int32).toInt := by rw [e_12035]; rfl
                  have fe_12052 : fld (f_12022 a_0) 9 = (v_12042 : Int32).toInt := by rw [e_12035]; rfl
                  have fe_12053 : fld (f_12022 a_0) 10 = (v_12044 : Int32).toInt := by rw [e_12035]; rfl
                  have fe_12054 : fld (f_12022 a_0) 12 = (v_12047 : Int32).toInt := by rw [e_12035]; rfl
                  rw [fe_12051, fe_12052, fe_12053, fe_12054] at lo_12034
                  have gb_12055 := gm_b (f_12022 a_0)
                  have fe_12056 : fld (f_12022 a_0) 8 = (v_12040 : Int32).toInt := by rw [e_12035]; rfl
                  have fe_12057 : fld (f_12022 a_0) 12 = (v_12047 : Int32).toInt := by rw [e_12035]; rfl
                  rw [fe_12056, fe_12057] at gb_12055
                  exfalso; omega
                | succ n_12027 ih_12028 =>
                  intro f_12022 hW_12023 hF_12024 cv_12025 hm_12029
                  obtain ⟨g_12030, e_12031, ok_12032, wc_12033, lo_12034⟩ := cv_12025
                  have wc_12033_b := wc_12033.1
                  obtain ⟨v_12036, v_12037, v_12038, v_12040, v_12042, v_12044, v_12046, v_12047, v_12048, v_12049, v_12050, e_12035, -, b_12039, b_12041, b_12043, b_12045, -, -⟩ := hW_12023.at m_1 t_2
                  have fe_12051 : fld (f_12022 a_0) 8 = (v_12040 : Int32).toInt := by rw [e_12035]; rfl
                  have fe_12052 : fld (f_12022 a_0) 9 = (v_12042 : Int32).toInt := by rw [e_12035]; rfl
                  have fe_12053 : fld (f_12022 a_0) 10 = (v_12044 : Int32).toInt := by rw [e_12035]; rfl
                  have fe_12054 : fld (f_12022 a_0) 12 = (v_12047 : Int32).toInt := by rw [e_12035]; rfl
                  rw [fe_12051, fe_12052, fe_12053, fe_12054] at lo_12034
                  have gb_12055 := gm_b (f_12022 a_0)
                  have fe_12056 : fld (f_12022 a_0) 8 = (v_12040 : Int32).toInt := by rw [e_12035]; rfl
                  have fe_12057 : fld (f_12022 a_0) 12 = (v_12047 : Int32).toInt := by rw [e_12035]; rfl
                  rw [fe_12056, fe_12057] at gb_12055
                  refine v_aload_n hC dX12_watcher_80 rfl ?_
                  refine v_ldcwS hC sr_X12_285 dX12_watcher_81 ?_
                  refine v_vi hC (rest := []) m_1 e_12035 rfl mi_X12_takes ms_X12_takes (p_X12_takes hW_12023 k_0 (by decide)) mx_X12_takes ml_X12_159 (by decide) rfl (cells1 := 0) (slots1 := 0) (by decide) (by decide) (Nat.le_of_ble_eq_true rfl) (Nat.le_of_ble_eq_true rfl) rfl (Nat.le_of_ble_eq_true rfl) dX12_watcher_84 (fun r_12058 L_12059 f_12060 h_12061 => ?_)
                  obtain ⟨rfl, hW_12065, hF_12066, rfl, x_12062, x_12063, x_12064, -⟩ := h_12061
                  have fe_12067 : fld (f_12022 a_0) 8 = (v_12040 : Int32).toInt := by rw [e_12035]; rfl
                  have fe_12068 : fld (f_12022 a_0) 9 = (v_12042 : Int32).toInt := by rw [e_12035]; rfl
                  have fe_12069 : fld (f_12022 a_0) 10 = (v_12044 : Int32).toInt := by rw [e_12035]; rfl
                  have fe_12070 : fld (f_12022 a_0) 12 = (v_12047 : Int32).toInt := by rw [e_12035]; rfl
                  have ib_12071 := iw_b (f_12022 a_0) (f_12022 (q 4)) 70
                  have ln_12072 : ((bytStr.getD 70 []).length : Int) = 3 := by rfl
                  rw [fe_12070, fe_12069, fe_12067, fe_12068] at ib_12071
                  have hf_12073 := hF_12066.at e_12031 rfl
                  obtain ⟨v_12075, v_12076, v_12077, v_12079, v_12081, v_12083, v_12085, v_12086, v_12087, v_12088, v_12089, e_12074, -, b_12078, b_12080, b_12082, b_12084, -, -⟩ := hW_12065.at m_1 t_2
                  have fe_12090 : fld (f_12060 a_0) 8 = (v_12079 : Int32).toInt := by rw [e_12074]; rfl
                  have fe_12091 : fld (f_12060 a_0) 9 = (v_12081 : Int32).toInt := by rw [e_12074]; rfl
                  have fe_12092 : fld (f_12060 a_0) 10 = (v_12083 : Int32).toInt := by rw [e_12074]; rfl
                  have fe_12093 : fld (f_12060 a_0) 12 = (v_12086 : Int32).toInt := by rw [e_12074]; rfl
                  rw [fe_12067, fe_12091, fe_12090, fe_12092] at x_12062
                  rw [fe_12090, fe_12067, fe_12091, fe_12068, fe_12092, fe_12069] at x_12063
                  rw [fe_12093, fe_12070] at x_12064
                  clear fe_12067 fe_12068 fe_12069 fe_12070 fe_12090 fe_12091 fe_12092 fe_12093
                  try simp only [Int32.reduceToInt, Int64.reduceToInt] at x_12062
                  try simp only [Int32.reduceToInt, Int64.reduceToInt] at x_12063
                  try simp only [Int32.reduceToInt, Int64.reduceToInt] at x_12064
                  refine v_if_eq hC dX12_watcher_87 (tgt := 97) (by decide) (fun h_12094 => ?_) (fun h_12094 => ?_)
                  · simp only [Int32.lt_iff_toInt_lt, Int32.le_iff_toInt_le, Int32.reduceToInt, ← Int32.toInt_inj] at h_12094
                    refine v_aload_n hC dX12_watcher_97 rfl ?_
                    refine v_vv hC (rest := []) m_1 e_12074 rfl mi_X12_ends ms_X12_ends (p_X12_ends hW_12065 k_0) mx_X12_ends ml_X12_178 (by decide) rfl (cells1 := 0) (slots1 := 0) (by decide) (by decide) (Nat.le_of_ble_eq_true rfl) (Nat.le_of_ble_eq_true rfl) rfl (Nat.le_of_ble_eq_true rfl) dX12_watcher_98 (fun L_12096 f_12097 h_12098 => ?_)
                    obtain ⟨rfl, hW_12100, hF_12101, -, -, -, -, x_12099⟩ := h_12098
                    have fe_12102 : fld (f_12060 a_0) 8 = (v_12079 : Int32).toInt := by rw [e_12074]; rfl
                    have fe_12103 : fld (f_12060 a_0) 10 = (v_12083 : Int32).toInt := by rw [e_12074]; rfl
                    have fe_12104 : fld (f_12060 a_0) 12 = (v_12086 : Int32).toInt := by rw [e_12074]; rfl
                    have hf_12105 := hF_12101.at hf_12073 rfl
                    obtain ⟨v_12107, v_12108, v_12109, v_12111, v_12113, v_12115, v_12117, v_12118, v_12119, v_12120, v_12121, e_12106, -, b_12110, b_12112, b_12114, b_12116, -, -⟩ := hW_12100.at m_1 t_2
                    have fe_12122 : fld (f_12097 a_0) 8 = (v_12111 : Int32).toInt := by rw [e_12106]; rfl
                    have fe_12123 : fld (f_12097 a_0) 9 = (v_12113 : Int32).toInt := by rw [e_12106]; rfl
                    have fe_12124 : fld (f_12097 a_0) 10 = (v_12115 : Int32).toInt := by rw [e_12106]; rfl
                    have fe_12125 : fld (f_12097 a_0) 12 = (v_12118 : Int32).toInt := by rw [e_12106]; rfl
                    rw [fe_12125, fe_12104, fe_12103, fe_12102, fe_12123, fe_12122, fe_12124] at x_12099
                    clear fe_12102 fe_12103 fe_12104 fe_12122 fe_12123 fe_12124 fe_12125
                    refine v_aload_n hC dX12_watcher_101 rfl ?_
                    refine v_get hC fl_X12_34 m_1 e_12106 rfl dX12_watcher_102 ?_
                    refine v_iconst hC dX12_watcher_105 (v := 3) (by decide) ?_
                    refine v_dup2 hC dX12_watcher_106 rfl rfl ?_
                    refine v_iald hC m_71 hf_12105 (vp_in_iff.mpr (by decide)) (v := g_12030 3) rfl dX12_watcher_107 ?_
                    refine v_iconst hC dX12_watcher_108 (v := 1) (by decide) ?_
                    obtain ⟨v_12126, h_12127⟩ : ∃ v9 : Int32, (g_12030 3) + 1 = v9 := ⟨_, rfl⟩
                    refine v_iadd hC dX12_watcher_109 h_12127 ?_
                    refine v_iast hC m_71 hf_12105 (vp_in_iff.mpr (by decide)) dX12_watcher_110 (fun f_12129 hf_12130 hk_12131 => ?_)
                    have hW_12133 := hW_12100.up hf_12130 hk_12131 t_72 ⟨_, rfl, (ok_12032.up (i := 3) (by decide) (fun q1 q2 => absurd (And.intro q1 q2) (by decide)) (fun k9 q1 q2 q3 => by simp only [Int32.reduceToInt] at q3; omega))⟩
                    obtain ⟨g_12132, hf_12130, ok_12134, eg_12135⟩ : ∃ g9, f_12129 (q 14) = aI E 2076 g9 ∧ FOK g9 ∧ g9 = upd g_12030 (3 : Int32).toNatClampNeg v_12126 := ⟨_, hf_12130, (ok_12032.up (i := 3) (by decide) (fun q1 q2 => absurd (And.intro q1 q2) (by decide)) (fun k9 q1 q2 q3 => by simp only [Int32.reduceToInt] at q3; omega)), rfl⟩
                    have hf_12136 := (hk_12131 a_0 (ne_kd e_12106 hf_12105 rfl)).trans e_12106
                    have fr_12137 := FR.w hk_12131 hf_12105 (k := 2176) rfl
                    have wc_12138 := WC.n3 wc_12033 eg_12135
                    have wc_12138_t := wc_12138.2
                    refine v_goto hC dX12_watcher_111 (tgt := 15) (by decide) ?_
                    refine v_pick [0] rfl ?_
                    have fe_12139 : fld (f_12129 a_0) 8 = (v_12111 : Int32).toInt := by rw [hf_12136]; rfl
                    have fe_12140 : fld (f_12129 a_0) 9 = (v_12113 : Int32).toInt := by rw [hf_12136]; rfl
                    have fe_12141 : fld (f_12129 a_0) 10 = (v_12115 : Int32).toInt := by rw [hf_12136]; rfl
                    have fe_12142 : fld (f_12129 a_0) 12 = (v_12118 : Int32).toInt := by rw [hf_12136]; rfl
                    have gb_12146 := gm_b (f_12129 a_0)
                    have fe_12147 : fld (f_12129 a_0) 8 = (v_12111 : Int32).toInt := by rw [hf_12136]; rfl
                    have fe_12148 : fld (f_12129 a_0) 12 = (v_12118 : Int32).toInt := by rw [hf_12136]; rfl
                    rw [fe_12147, fe_12148] at gb_12146
                    exact ih_10733 f_12129 hW_12133 ((((((((hF_10729.tr hF_10840).tr hF_10874).tr hF_11555).tr hF_12024).tr hF_12066).tr hF_12101).tr fr_12137).mono rfl) ⟨_, hf_12130, ok_12134, wc_12138.1, (by simp only [fe_12139, fe_12140, fe_12141, fe_12142]; by_cases q9 : (v_12118 : Int32).toInt = 0; have gp_12143 := x_12099.resolve_left (fun h9 => h9 q9); clear x_12099; have gz_12144 := x_12064.symm.trans gp_12143.1; have gp_12145 := lo_12034.resolve_left (fun h9 => h9 gz_12144); clear lo_12034; (right; omega); exact .inl q9)⟩ (by omega)
                  · simp only [Int32.lt_iff_toInt_lt, Int32.le_iff_toInt_le, Int32.reduceToInt, ← Int32.toInt_inj] at h_12094
                    refine v_aload_n hC dX12_watcher_90 rfl ?_
                    have fe_12149 : fld (f_12060 a_0) 9 = (v_12081 : Int32).toInt := by rw [e_12074]; rfl
                    have fe_12150 : fld (f_12060 a_0) 12 = (v_12086 : Int32).toInt := by rw [e_12074]; rfl
                    have fe_12151 : fld (f_12060 a_0) 8 = (v_12079 : Int32).toInt := by rw [e_12074]; rfl
                    have fe_12152 : fld (f_12060 a_0) 9 = (v_12081 : Int32).toInt := by rw [e_12074]; rfl
                    have fe_12153 : fld (f_12060 a_0) 10 = (v_12083 : Int32).toInt := by rw [e_12074]; rfl
                    have fe_12154 : fld (f_12060 a_0) 12 = (v_12086 : Int32).toInt := by rw [e_12074]; rfl
                    refine v_vv hC (rest := []) m_1 e_12074 rfl mi_X12_readTest ms_X12_readTest (p_X12_readTest hW_12065 k_0 hf_12073 ok_12032 wc_12033 (by simp only [fe_12149, fe_12150]; omega) (by simp only [fe_12151, fe_12152, fe_12153, fe_12154]; omega)) mx_X12_readTest ml_X12_282 (by decide) rfl (cells1 := 0) (slots1 := 0) (by decide) (by decide) (Nat.le_of_ble_eq_true rfl) (Nat.le_of_ble_eq_true rfl) rfl (Nat.le_of_ble_eq_true rfl) dX12_watcher_91 (fun L_12156 f_12157 h_12158 => ?_)
                    obtain ⟨rfl, hW_12161, hF_12162, x_12159, x_12160⟩ := h_12158
                    have fe_12163 : fld (f_12060 a_0) 8 = (v_12079 : Int32).toInt := by rw [e_12074]; rfl
                    have fe_12164 : fld (f_12060 a_0) 12 = (v_12086 : Int32).toInt := by rw [e_12074]; rfl
                    obtain ⟨v_12166, v_12167, v_12168, v_12170, v_12172, v_12174, v_12176, v_12177, v_12178, v_12179, v_12180, e_12165, -, b_12169, b_12171, b_12173, b_12175, -, -⟩ := hW_12161.at m_1 t_2
                    have fe_12181 : fld (f_12157 a_0) 8 = (v_12170 : Int32).toInt := by rw [e_12165]; rfl
                    have fe_12182 : fld (f_12157 a_0) 9 = (v_12172 : Int32).toInt := by rw [e_12165]; rfl
                    have fe_12183 : fld (f_12157 a_0) 10 = (v_12174 : Int32).toInt := by rw [e_12165]; rfl
                    have fe_12184 : fld (f_12157 a_0) 12 = (v_12177 : Int32).toInt := by rw [e_12165]; rfl
                    rw [fe_12184, fe_12182] at x_12159
                    rw [fe_12184, fe_12164, fe_12163, fe_12181, fe_12182, fe_12183] at x_12160
                    clear fe_12163 fe_12164 fe_12181 fe_12182 fe_12183 fe_12184
                    obtain ⟨g_12185, e_12186, ok_12187, wc_12188, gs_12189⟩ := x_12159
                    have wc_12188_b := wc_12188.1
                    refine v_goto hC dX12_watcher_94 (tgt := 80) (by decide) ?_
                    refine v_pick [0] rfl ?_
                    have fe_12190 : fld (f_12157 a_0) 8 = (v_12170 : Int32).toInt := by rw [e_12165]; rfl
                    have fe_12191 : fld (f_12157 a_0) 9 = (v_12172 : Int32).toInt := by rw [e_12165]; rfl
                    have fe_12192 : fld (f_12157 a_0) 10 = (v_12174 : Int32).toInt := by rw [e_12165]; rfl
                    have fe_12193 : fld (f_12157 a_0) 12 = (v_12177 : Int32).toInt := by rw [e_12165]; rfl
                    have gb_12198 := gm_b (f_12157 a_0)
                    have fe_12199 : fld (f_12157 a_0) 8 = (v_12170 : Int32).toInt := by rw [e_12165]; rfl
                    have fe_12200 : fld (f_12157 a_0) 12 = (v_12177 : Int32).toInt := by rw [e_12165]; rfl
                    rw [fe_12199, fe_12200] at gb_12198
                    exact ih_12028 f_12157 hW_12161 (((hF_12024.tr hF_12066).tr hF_12162).mono rfl) ⟨_, e_12186, ok_12187, wc_12188, (by simp only [fe_12190, fe_12191, fe_12192, fe_12193]; by_cases q9 : (v_12177 : Int32).toInt = 0; have gp_12194 := gs_12189.resolve_left (fun h9 => h9 q9); clear gs_12189; have gp_12195 := x_12160.resolve_left (fun h9 => h9 q9); clear x_12160; have gz_12196 := x_12064.symm.trans gp_12195.1; have gp_12197 := lo_12034.resolve_left (fun h9 => h9 gz_12196); clear lo_12034; (right; omega); exact .inl q9)⟩ (by omega)
              refine v_pick [0] rfl ?_
              have fe_12201 : fld (f_11550 a_0) 8 = (v_11563 : Int32).toInt := by rw [e_11558]; rfl
              have fe_12202 : fld (f_11550 a_0) 9 = (v_11565 : Int32).toInt := by rw [e_11558]; rfl
              have fe_12203 : fld (f_11550 a_0) 10 = (v_11567 : Int32).toInt := by rw [e_11558]; rfl
              have fe_12204 : fld (f_11550 a_0) 12 = (v_11570 : Int32).toInt := by rw [e_11558]; rfl
              have gb_12207 := gm_b (f_11550 a_0)
              have fe_12208 : fld (f_11550 a_0) 8 = (v_11563 : Int32).toInt := by rw [e_11558]; rfl
              have fe_12209 : fld (f_11550 a_0) 12 = (v_11570 : Int32).toInt := by rw [e_11558]; rfl
              rw [fe_12208, fe_12209] at gb_12207
              exact lp_12026 700 f_11550 hW_11554 FR.rf ⟨_, e_11579, ok_11580, wc_11581, (by simp only [fe_12201, fe_12202, fe_12203, fe_12204]; by_cases q9 : (v_11570 : Int32).toInt = 0; have gp_12205 := gs_11582.resolve_left (fun h9 => h9 q9); clear gs_11582; have gp_12206 := x_11553.resolve_left (fun h9 => h9 q9); clear x_11553; (right; omega); exact .inl q9)⟩ (by omega)
          · simp only [Int32.lt_iff_toInt_lt, Int32.le_iff_toInt_le, Int32.reduceToInt, ← Int32.toInt_inj] at h_10833
            refine v_aload_n hC dX12_watcher_39 rfl ?_
            refine v_get hC fl_X12_34 m_1 e_10740 rfl dX12_watcher_40 ?_
            refine v_iconst hC dX12_watcher_43 (v := 3) (by decide) ?_
            refine v_iald hC m_71 e_10736 (vp_in_iff.mpr (by decide)) (v := g_10735 3) rfl dX12_watcher_44 ?_
            refine v_bipush hC dX12_watcher_45 (v := 12) (by decide) ?_
            refine v_icmp_ne hC dX12_watcher_47 (tgt := 55) (by decide) (fun h_12210 => ?_) (fun h_12210 => ?_)
            · simp only [Int32.lt_iff_toInt_lt, Int32.le_iff_toInt_le, Int32.reduceToInt, ← Int32.toInt_inj] at h_12210
              refine v_aload_n hC dX12_watcher_55 rfl ?_
              refine v_ldcwS hC sr_X12_278 dX12_watcher_56 ?_
              refine v_vv hC (rest := []) m_1 e_10740 rfl mi_X12_needs ms_X12_needs (p_X12_needs hW_10728 k_0 (by decide)) mx_X12_needs ml_X12_166 (by decide) rfl (cells1 := 0) (slots1 := 0) (by decide) (by decide) (Nat.le_of_ble_eq_true rfl) (Nat.le_of_ble_eq_true rfl) rfl (Nat.le_of_ble_eq_true rfl) dX12_watcher_59 (fun L_12212 f_12213 h_12214 => ?_)
              obtain ⟨rfl, hW_12216, hF_12217, -, -, -, -, x_12215⟩ := h_12214
              have fe_12218 : fld (f_10727 a_0) 8 = (v_10745 : Int32).toInt := by rw [e_10740]; rfl
              have fe_12219 : fld (f_10727 a_0) 9 = (v_10747 : Int32).toInt := by rw [e_10740]; rfl
              have fe_12220 : fld (f_10727 a_0) 10 = (v_10749 : Int32).toInt := by rw [e_10740]; rfl
              have fe_12221 : fld (f_10727 a_0) 12 = (v_10752 : Int32).toInt := by rw [e_10740]; rfl
              have ib_12222 := iw_b (f_10727 a_0) (f_10727 (q 4)) 54
              have ln_12223 : ((bytStr.getD 54 []).length : Int) = 4 := by rfl
              rw [fe_12221, fe_12220, fe_12218, fe_12219] at ib_12222
              have hf_12224 := hF_12217.at e_10736 rfl
              obtain ⟨v_12226, v_12227, v_12228, v_12230, v_12232, v_12234, v_12236, v_12237, v_12238, v_12239, v_12240, e_12225, -, b_12229, b_12231, b_12233, b_12235, -, -⟩ := hW_12216.at m_1 t_2
              have fe_12241 : fld (f_12213 a_0) 8 = (v_12230 : Int32).toInt := by rw [e_12225]; rfl
              have fe_12242 : fld (f_12213 a_0) 9 = (v_12232 : Int32).toInt := by rw [e_12225]; rfl
              have fe_12243 : fld (f_12213 a_0) 10 = (v_12234 : Int32).toInt := by rw [e_12225]; rfl
              have fe_12244 : fld (f_12213 a_0) 12 = (v_12237 : Int32).toInt := by rw [e_12225]; rfl
              rw [fe_12244, fe_12221, fe_12218, fe_12242, fe_12241, fe_12243] at x_12215
              clear fe_12218 fe_12219 fe_12220 fe_12221 fe_12241 fe_12242 fe_12243 fe_12244
              refine v_aload_n hC dX12_watcher_62 rfl ?_
              refine v_ldcwS hC sr_X12_280 dX12_watcher_63 ?_
              refine v_vv hC (rest := []) m_1 e_12225 rfl mi_X12_needs ms_X12_needs (p_X12_needs hW_12216 k_0 (by decide)) mx_X12_needs ml_X12_166 (by decide) rfl (cells1 := 0) (slots1 := 0) (by decide) (by decide) (Nat.le_of_ble_eq_true rfl) (Nat.le_of_ble_eq_true rfl) rfl (Nat.le_of_ble_eq_true rfl) dX12_watcher_66 (fun L_12246 f_12247 h_12248 => ?_)
              obtain ⟨rfl, hW_12250, hF_12251, -, -, -, -, x_12249⟩ := h_12248
              have fe_12252 : fld (f_12213 a_0) 8 = (v_12230 : Int32).toInt := by rw [e_12225]; rfl
              have fe_12253 : fld (f_12213 a_0) 9 = (v_12232 : Int32).toInt := by rw [e_12225]; rfl
              have fe_12254 : fld (f_12213 a_0) 10 = (v_12234 : Int32).toInt := by rw [e_12225]; rfl
              have fe_12255 : fld (f_12213 a_0) 12 = (v_12237 : Int32).toInt := by rw [e_12225]; rfl
              have ib_12256 := iw_b (f_12213 a_0) (f_12213 (q 4)) 55
              have ln_12257 : ((bytStr.getD 55 []).length : Int) = 2 := by rfl
              rw [fe_12255, fe_12254, fe_12252, fe_12253] at ib_12256
              have hf_12258 := hF_12251.at hf_12224 rfl
              obtain ⟨v_12260, v_12261, v_12262, v_12264, v_12266, v_12268, v_12270, v_12271, v_12272, v_12273, v_12274, e_12259, -, b_12263, b_12265, b_12267, b_12269, -, -⟩ := hW_12250.at m_1 t_2
              have fe_12275 : fld (f_12247 a_0) 8 = (v_12264 : Int32).toInt := by rw [e_12259]; rfl
              have fe_12276 : fld (f_12247 a_0) 9 = (v_12266 : Int32).toInt := by rw [e_12259]; rfl
              have fe_12277 : fld (f_12247 a_0) 10 = (v_12268 : Int32).toInt := by rw [e_12259]; rfl
              have fe_12278 : fld (f_12247 a_0) 12 = (v_12271 : Int32).toInt := by rw [e_12259]; rfl
              rw [fe_12278, fe_12255, fe_12252, fe_12276, fe_12275, fe_12277] at x_12249
              clear fe_12252 fe_12253 fe_12254 fe_12255 fe_12275 fe_12276 fe_12277 fe_12278
              refine v_aload_n hC dX12_watcher_69 rfl ?_
              refine v_vi hC (rest := []) m_1 e_12259 rfl mi_X12_good ms_X12_good (p_X12_good hW_12250 k_0) mx_X12_good ml_X12_139 (by decide) rfl (cells1 := 0) (slots1 := 0) (by decide) (by decide) (Nat.le_of_ble_eq_true rfl) (Nat.le_of_ble_eq_true rfl) rfl (Nat.le_of_ble_eq_true rfl) dX12_watcher_70 (fun r_12279 L_12280 f_12281 h_12282 => ?_)
              obtain ⟨rfl, rfl, b_12283, x_12284⟩ := h_12282
              have fe_12287 : fld (f_12247 a_0) 12 = (v_12271 : Int32).toInt := by rw [e_12259]; rfl
              rw [fe_12287] at x_12284
              clear fe_12287
              try simp only [Int32.reduceToInt, Int64.reduceToInt] at x_12284
              refine v_if_eq hC dX12_watcher_73 (tgt := 80) (by decide) (fun h_12288 => ?_) (fun h_12288 => ?_)
              · simp only [Int32.lt_iff_toInt_lt, Int32.le_iff_toInt_le, Int32.reduceToInt, ← Int32.toInt_inj] at h_12288
                have g0_12289 := gd_f x_12284 h_12288
                clear x_12284
                clear x_12215
                clear x_12249
                have lp_12737 : ∀ (n_12738 : Nat) (f_12733 : Nat → va_E) (hW_12734 : WT T L f_12733) (hF_12735 : FR [12, 2176] f_12247 f_12733)  (cv_12736 : ∃ g9 : Nat → Int32, (f_12733 (q 14)) = aI E 2076 g9 ∧ FOK g9 ∧ WC g9 ∧ (¬ fld (f_12733 a_0) 12 = 0 ∨ (4 * (g9 5).toInt ≤ fld (f_12733 a_0) 9 + 3 ∧ (fld (f_12733 a_0) 10 = 0 ∨ fld (f_12733 a_0) 9 < fld (f_12733 a_0) 8)))) (hm_12740 : gm (f_12733 a_0) < (n_12738 : Int)), V z E 1 0 0 L f_12733 80 [(0, .ref a_0)] [] := by
                  intro n_12738
                  induction n_12738 with
                  | zero =>
                    intro f_12733 hW_12734 hF_12735 cv_12736 hm_12740
                    obtain ⟨g_12741, e_12742, ok_12743, wc_12744, lo_12745⟩ := cv_12736
                    have wc_12744_b := wc_12744.1
                    obtain ⟨v_12747, v_12748, v_12749, v_12751, v_12753, v_12755, v_12757, v_12758, v_12759, v_12760, v_12761, e_12746, -, b_12750, b_12752, b_12754, b_12756, -, -⟩ := hW_12734.at m_1 t_2
                    have fe_12762 : fld (f_12733 a_0) 8 = (v_12751 : Int32).toInt := by rw [e_12746]; rfl
                    have fe_12763 : fld (f_12733 a_0) 9 = (v_12753 : Int32).toInt := by rw [e_12746]; rfl
                    have fe_12764 : fld (f_12733 a_0) 10 = (v_12755 : Int32).toInt := by rw [e_12746]; rfl
                    have fe_12765 : fld (f_12733 a_0) 12 = (v_12758 : Int32).toInt := by rw [e_12746]; rfl
                    rw [fe_12762, fe_12763, fe_12764, fe_12765] at lo_12745
                    have gb_12766 := gm_b (f_12733 a_0)
                    have fe_12767 : fld (f_12733 a_0) 8 = (v_12751 : Int32).toInt := by rw [e_12746]; rfl
                    have fe_12768 : fld (f_12733 a_0) 12 = (v_12758 : Int32).toInt := by rw [e_12746]; rfl
                    rw [fe_12767, fe_12768] at gb_12766
                    exfalso; omega
                  | succ n_12738 ih_12739 =>
                    intro f_12733 hW_12734 hF_12735 cv_12736 hm_12740
                    obtain ⟨g_12741, e_12742, ok_12743, wc_12744, lo_12745⟩ := cv_12736
                    have wc_12744_b := wc_12744.1
                    obtain ⟨v_12747, v_12748, v_12749, v_12751, v_12753, v_12755, v_12757, v_12758, v_12759, v_12760, v_12761, e_12746, -, b_12750, b_12752, b_12754, b_12756, -, -⟩ := hW_12734.at m_1 t_2
                    have fe_12762 : fld (f_12733 a_0) 8 = (v_12751 : Int32).toInt := by rw [e_12746]; rfl
                    have fe_12763 : fld (f_12733 a_0) 9 = (v_12753 : Int32).toInt := by rw [e_12746]; rfl
                    have fe_12764 : fld (f_12733 a_0) 10 = (v_12755 : Int32).toInt := by rw [e_12746]; rfl
                    have fe_12765 : fld (f_12733 a_0) 12 = (v_12758 : Int32).toInt := by rw [e_12746]; rfl
                    rw [fe_12762, fe_12763, fe_12764, fe_12765] at lo_12745
                    have gb_12766 := gm_b (f_12733 a_0)
                    have fe_12767 : fld (f_12733 a_0) 8 = (v_12751 : Int32).toInt := by rw [e_12746]; rfl
                    have fe_12768 : fld (f_12733 a_0) 12 = (v_12758 : Int32).toInt := by rw [e_12746]; rfl
                    rw [fe_12767, fe_12768] at gb_12766
                    refine v_aload_n hC dX12_watcher_80 rfl ?_
                    refine v_ldcwS hC sr_X12_285 dX12_watcher_81 ?_
                    refine v_vi hC (rest := []) m_1 e_12746 rfl mi_X12_takes ms_X12_takes (p_X12_takes hW_12734 k_0 (by decide)) mx_X12_takes ml_X12_159 (by decide) rfl (cells1 := 0) (slots1 := 0) (by decide) (by decide) (Nat.le_of_ble_eq_true rfl) (Nat.le_of_ble_eq_true rfl) rfl (Nat.le_of_ble_eq_true rfl) dX12_watcher_84 (fun r_12769 L_12770 f_12771 h_12772 => ?_)
                    obtain ⟨rfl, hW_12776, hF_12777, rfl, x_12773, x_12774, x_12775, -⟩ := h_12772
                    have fe_12778 : fld (f_12733 a_0) 8 = (v_12751 : Int32).toInt := by rw [e_12746]; rfl
                    have fe_12779 : fld (f_12733 a_0) 9 = (v_12753 : Int32).toInt := by rw [e_12746]; rfl
                    have fe_12780 : fld (f_12733 a_0) 10 = (v_12755 : Int32).toInt := by rw [e_12746]; rfl
                    have fe_12781 : fld (f_12733 a_0) 12 = (v_12758 : Int32).toInt := by rw [e_12746]; rfl
                    have ib_12782 := iw_b (f_12733 a_0) (f_12733 (q 4)) 70
                    have ln_12783 : ((bytStr.getD 70 []).length : Int) = 3 := by rfl
                    rw [fe_12781, fe_12780, fe_12778, fe_12779] at ib_12782
                    have hf_12784 := hF_12777.at e_12742 rfl
                    obtain ⟨v_12786, v_12787, v_12788, v_12790, v_12792, v_12794, v_12796, v_12797, v_12798, v_12799, v_12800, e_12785, -, b_12789, b_12791, b_12793, b_12795, -, -⟩ := hW_12776.at m_1 t_2
                    have fe_12801 : fld (f_12771 a_0) 8 = (v_12790 : Int32).toInt := by rw [e_12785]; rfl
                    have fe_12802 : fld (f_12771 a_0) 9 = (v_12792 : Int32).toInt := by rw [e_12785]; rfl
                    have fe_12803 : fld (f_12771 a_0) 10 = (v_12794 : Int32).toInt := by rw [e_12785]; rfl
                    have fe_12804 : fld (f_12771 a_0) 12 = (v_12797 : Int32).toInt := by rw [e_12785]; rfl
                    rw [fe_12778, fe_12802, fe_12801, fe_12803] at x_12773
                    rw [fe_12801, fe_12778, fe_12802, fe_12779, fe_12803, fe_12780] at x_12774
                    rw [fe_12804, fe_12781] at x_12775
                    clear fe_12778 fe_12779 fe_12780 fe_12781 fe_12801 fe_12802 fe_12803 fe_12804
                    try simp only [Int32.reduceToInt, Int64.reduceToInt] at x_12773
                    try simp only [Int32.reduceToInt, Int64.reduceToInt] at x_12774
                    try simp only [Int32.reduceToInt, Int64.reduceToInt] at x_12775
                    refine v_if_eq hC dX12_watcher_87 (tgt := 97) (by decide) (fun h_12805 => ?_) (fun h_12805 => ?_)
                    · simp only [Int32.lt_iff_toInt_lt, Int32.le_iff_toInt_le, Int32.reduceToInt, ← Int32.toInt_inj] at h_12805
                      refine v_aload_n hC dX12_watcher_97 rfl ?_
                      refine v_vv hC (rest := []) m_1 e_12785 rfl mi_X12_ends ms_X12_ends (p_X12_ends hW_12776 k_0) mx_X12_ends ml_X12_178 (by decide) rfl (cells1 := 0) (slots1 := 0) (by decide) (by decide) (Nat.le_of_ble_eq_true rfl) (Nat.le_of_ble_eq_true rfl) rfl (Nat.le_of_ble_eq_true rfl) dX12_watcher_98 (fun L_12807 f_12808 h_12809 => ?_)
                      obtain ⟨rfl, hW_12811, hF_12812, -, -, -, -, x_12810⟩ := h_12809
                      have fe_12813 : fld (f_12771 a_0) 8 = (v_12790 : Int32).toInt := by rw [e_12785]; rfl
                      have fe_12814 : fld (f_12771 a_0) 10 = (v_12794 : Int32).toInt := by rw [e_12785]; rfl
                      have fe_12815 : fld (f_12771 a_0) 12 = (v_12797 : Int32).toInt := by rw [e_12785]; rfl
                      have hf_12816 := hF_12812.at hf_12784 rfl
                      obtain ⟨v_12818, v_12819, v_12820, v_12822, v_12824, v_12826, v_12828, v_12829, v_12830, v_12831, v_12832, e_12817, -, b_12821, b_12823, b_12825, b_12827, -, -⟩ := hW_12811.at m_1 t_2
                      have fe_12833 : fld (f_12808 a_0) 8 = (v_12822 : Int32).toInt := by rw [e_12817]; rfl
                      have fe_12834 : fld (f_12808 a_0) 9 = (v_12824 : Int32).toInt := by rw [e_12817]; rfl
                      have fe_12835 : fld (f_12808 a_0) 10 = (v_12826 : Int32).toInt := by rw [e_12817]; rfl
                      have fe_12836 : fld (f_12808 a_0) 12 = (v_12829 : Int32).toInt := by rw [e_12817]; rfl
                      rw [fe_12836, fe_12815, fe_12814, fe_12813, fe_12834, fe_12833, fe_12835] at x_12810
                      clear fe_12813 fe_12814 fe_12815 fe_12833 fe_12834 fe_12835 fe_12836
                      refine v_aload_n hC dX12_watcher_101 rfl ?_
                      refine v_get hC fl_X12_34 m_1 e_12817 rfl dX12_watcher_102 ?_
                      refine v_iconst hC dX12_watcher_105 (v := 3) (by decide) ?_
                      refine v_dup2 hC dX12_watcher_106 rfl rfl ?_
                      refine v_iald hC m_71 hf_12816 (vp_in_iff.mpr (by decide)) (v := g_12741 3) rfl dX12_watcher_107 ?_
                      refine v_iconst hC dX12_watcher_108 (v := 1) (by decide) ?_
                      obtain ⟨v_12837, h_12838⟩ : ∃ v9 : Int32, (g_12741 3) + 1 = v9 := ⟨_, rfl⟩
                      refine v_iadd hC dX12_watcher_109 h_12838 ?_
                      refine v_iast hC m_71 hf_12816 (vp_in_iff.mpr (by decide)) dX12_watcher_110 (fun f_12840 hf_12841 hk_12842 => ?_)
                      have hW_12844 := hW_12811.up hf_12841 hk_12842 t_72 ⟨_, rfl, (ok_12743.up (i := 3) (by decide) (fun q1 q2 => absurd (And.intro q1 q2) (by decide)) (fun k9 q1 q2 q3 => by simp only [Int32.reduceToInt] at q3; omega))⟩
                      obtain ⟨g_12843, hf_12841, ok_12845, eg_12846⟩ : ∃ g9, f_12840 (q 14) = aI E 2076 g9 ∧ FOK g9 ∧ g9 = upd g_12741 (3 : Int32).toNatClampNeg v_12837 := ⟨_, hf_12841, (ok_12743.up (i := 3) (by decide) (fun q1 q2 => absurd (And.intro q1 q2) (by decide)) (fun k9 q1 q2 q3 => by simp only [Int32.reduceToInt] at q3; omega)), rfl⟩
                      have hf_12847 := (hk_12842 a_0 (ne_kd e_12817 hf_12816 rfl)).trans e_12817
                      have fr_12848 := FR.w hk_12842 hf_12816 (k := 2176) rfl
                      have wc_12849 := WC.n3 wc_12744 eg_12846
                      have wc_12849_t := wc_12849.2
                      refine v_goto hC dX12_watcher_111 (tgt := 15) (by decide) ?_
                      refine v_pick [0] rfl ?_
                      have fe_12850 : fld (f_12840 a_0) 8 = (v_12822 : Int32).toInt := by rw [hf_12847]; rfl
                      have fe_12851 : fld (f_12840 a_0) 9 = (v_12824 : Int32).toInt := by rw [hf_12847]; rfl
                      have fe_12852 : fld (f_12840 a_0) 10 = (v_12826 : Int32).toInt := by rw [hf_12847]; rfl
                      have fe_12853 : fld (f_12840 a_0) 12 = (v_12829 : Int32).toInt := by rw [hf_12847]; rfl
                      have gb_12857 := gm_b (f_12840 a_0)
                      have fe_12858 : fld (f_12840 a_0) 8 = (v_12822 : Int32).toInt := by rw [hf_12847]; rfl
                      have fe_12859 : fld (f_12840 a_0) 12 = (v_12829 : Int32).toInt := by rw [hf_12847]; rfl
                      rw [fe_12858, fe_12859] at gb_12857
                      exact ih_10733 f_12840 hW_12844 (((((((hF_10729.tr hF_12217).tr hF_12251).tr hF_12735).tr hF_12777).tr hF_12812).tr fr_12848).mono rfl) ⟨_, hf_12841, ok_12845, wc_12849.1, (by simp only [fe_12850, fe_12851, fe_12852, fe_12853]; by_cases q9 : (v_12829 : Int32).toInt = 0; have gp_12854 := x_12810.resolve_left (fun h9 => h9 q9); clear x_12810; have gz_12855 := x_12775.symm.trans gp_12854.1; have gp_12856 := lo_12745.resolve_left (fun h9 => h9 gz_12855); clear lo_12745; (right; omega); exact .inl q9)⟩ (by omega)
                    · simp only [Int32.lt_iff_toInt_lt, Int32.le_iff_toInt_le, Int32.reduceToInt, ← Int32.toInt_inj] at h_12805
                      refine v_aload_n hC dX12_watcher_90 rfl ?_
                      have fe_12860 : fld (f_12771 a_0) 9 = (v_12792 : Int32).toInt := by rw [e_12785]; rfl
                      have fe_12861 : fld (f_12771 a_0) 12 = (v_12797 : Int32).toInt := by rw [e_12785]; rfl
                      have fe_12862 : fld (f_12771 a_0) 8 = (v_12790 : Int32).toInt := by rw [e_12785]; rfl
                      have fe_12863 : fld (f_12771 a_0) 9 = (v_12792 : Int32).toInt := by rw [e_12785]; rfl
                      have fe_12864 : fld (f_12771 a_0) 10 = (v_12794 : Int32).toInt := by rw [e_12785]; rfl
                      have fe_12865 : fld (f_12771 a_0) 12 = (v_12797 : Int32).toInt := by rw [e_12785]; rfl
                      refine v_vv hC (rest := []) m_1 e_12785 rfl mi_X12_readTest ms_X12_readTest (p_X12_readTest hW_12776 k_0 hf_12784 ok_12743 wc_12744 (by simp only [fe_12860, fe_12861]; omega) (by simp only [fe_12862, fe_12863, fe_12864, fe_12865]; omega)) mx_X12_readTest ml_X12_282 (by decide) rfl (cells1 := 0) (slots1 := 0) (by decide) (by decide) (Nat.le_of_ble_eq_true rfl) (Nat.le_of_ble_eq_true rfl) rfl (Nat.le_of_ble_eq_true rfl) dX12_watcher_91 (fun L_12867 f_12868 h_12869 => ?_)
                      obtain ⟨rfl, hW_12872, hF_12873, x_12870, x_12871⟩ := h_12869
                      have fe_12874 : fld (f_12771 a_0) 8 = (v_12790 : Int32).toInt := by rw [e_12785]; rfl
                      have fe_12875 : fld (f_12771 a_0) 12 = (v_12797 : Int32).toInt := by rw [e_12785]; rfl
                      obtain ⟨v_12877, v_12878, v_12879, v_12881, v_12883, v_12885, v_12887, v_12888, v_12889, v_12890, v_12891, e_12876, -, b_12880, b_12882, b_12884, b_12886, -, -⟩ := hW_12872.at m_1 t_2
                      have fe_12892 : fld (f_12868 a_0) 8 = (v_12881 : Int32).toInt := by rw [e_12876]; rfl
                      have fe_12893 : fld (f_12868 a_0) 9 = (v_12883 : Int32).toInt := by rw [e_12876]; rfl
                      have fe_12894 : fld (f_12868 a_0) 10 = (v_12885 : Int32).toInt := by rw [e_12876]; rfl
                      have fe_12895 : fld (f_12868 a_0) 12 = (v_12888 : Int32).toInt := by rw [e_12876]; rfl
                      rw [fe_12895, fe_12893] at x_12870
                      rw [fe_12895, fe_12875, fe_12874, fe_12892, fe_12893, fe_12894] at x_12871
                      clear fe_12874 fe_12875 fe_12892 fe_12893 fe_12894 fe_12895
                      obtain ⟨g_12896, e_12897, ok_12898, wc_12899, gs_12900⟩ := x_12870
                      have wc_12899_b := wc_12899.1
                      refine v_goto hC dX12_watcher_94 (tgt := 80) (by decide) ?_
                      refine v_pick [0] rfl ?_
                      have fe_12901 : fld (f_12868 a_0) 8 = (v_12881 : Int32).toInt := by rw [e_12876]; rfl
                      have fe_12902 : fld (f_12868 a_0) 9 = (v_12883 : Int32).toInt := by rw [e_12876]; rfl
                      have fe_12903 : fld (f_12868 a_0) 10 = (v_12885 : Int32).toInt := by rw [e_12876]; rfl
                      have fe_12904 : fld (f_12868 a_0) 12 = (v_12888 : Int32).toInt := by rw [e_12876]; rfl
                      have gb_12909 := gm_b (f_12868 a_0)
                      have fe_12910 : fld (f_12868 a_0) 8 = (v_12881 : Int32).toInt := by rw [e_12876]; rfl
                      have fe_12911 : fld (f_12868 a_0) 12 = (v_12888 : Int32).toInt := by rw [e_12876]; rfl
                      rw [fe_12910, fe_12911] at gb_12909
                      exact ih_12739 f_12868 hW_12872 (((hF_12735.tr hF_12777).tr hF_12873).mono rfl) ⟨_, e_12897, ok_12898, wc_12899, (by simp only [fe_12901, fe_12902, fe_12903, fe_12904]; by_cases q9 : (v_12888 : Int32).toInt = 0; have gp_12905 := gs_12900.resolve_left (fun h9 => h9 q9); clear gs_12900; have gp_12906 := x_12871.resolve_left (fun h9 => h9 q9); clear x_12871; have gz_12907 := x_12775.symm.trans gp_12906.1; have gp_12908 := lo_12745.resolve_left (fun h9 => h9 gz_12907); clear lo_12745; (right; omega); exact .inl q9)⟩ (by omega)
                refine v_pick [0] rfl ?_
                have fe_12912 : fld (f_12247 a_0) 8 = (v_12264 : Int32).toInt := by rw [e_12259]; rfl
                have fe_12913 : fld (f_12247 a_0) 9 = (v_12266 : Int32).toInt := by rw [e_12259]; rfl
                have fe_12914 : fld (f_12247 a_0) 10 = (v_12268 : Int32).toInt := by rw [e_12259]; rfl
                have fe_12915 : fld (f_12247 a_0) 12 = (v_12271 : Int32).toInt := by rw [e_12259]; rfl
                have gb_12916 := gm_b (f_12247 a_0)
                have fe_12917 : fld (f_12247 a_0) 8 = (v_12264 : Int32).toInt := by rw [e_12259]; rfl
                have fe_12918 : fld (f_12247 a_0) 12 = (v_12271 : Int32).toInt := by rw [e_12259]; rfl
                rw [fe_12917, fe_12918] at gb_12916
                exact lp_12737 700 f_12247 hW_12250 FR.rf ⟨_, hf_12258, ok_10737, wc_10738, (by simp only [fe_12912, fe_12913, fe_12914, fe_12915]; exact .inl g0_12289)⟩ (by omega)
              · simp only [Int32.lt_iff_toInt_lt, Int32.le_iff_toInt_le, Int32.reduceToInt, ← Int32.toInt_inj] at h_12288
                have nb_12290 : (1 ≤ r_12279.toInt ∧ r_12279.toInt ≤ 1) := by omega
                have g0_12291 := gd_t x_12284 h_12288
                clear x_12284
                have gp_12292 := x_12249.resolve_left (fun h9 => h9 g0_12291)
                clear x_12249
                have gp_12293 := x_12215.resolve_left (fun h9 => h9 gp_12292.1)
                clear x_12215
                refine v_aload_n hC dX12_watcher_76 rfl ?_
                have fe_12919 : fld (f_12247 a_0) 9 = (v_12266 : Int32).toInt := by rw [e_12259]; rfl
                have fe_12920 : fld (f_12247 a_0) 12 = (v_12271 : Int32).toInt := by rw [e_12259]; rfl
                have fe_12921 : fld (f_12247 a_0) 8 = (v_12264 : Int32).toInt := by rw [e_12259]; rfl
                have fe_12922 : fld (f_12247 a_0) 9 = (v_12266 : Int32).toInt := by rw [e_12259]; rfl
                have fe_12923 : fld (f_12247 a_0) 10 = (v_12268 : Int32).toInt := by rw [e_12259]; rfl
                have fe_12924 : fld (f_12247 a_0) 12 = (v_12271 : Int32).toInt := by rw [e_12259]; rfl
                refine v_vv hC (rest := []) m_1 e_12259 rfl mi_X12_readTest ms_X12_readTest (p_X12_readTest hW_12250 k_0 hf_12258 ok_10737 wc_10738 (by simp only [fe_12919, fe_12920]; omega) (by simp only [fe_12921, fe_12922, fe_12923, fe_12924]; omega)) mx_X12_readTest ml_X12_282 (by decide) rfl (cells1 := 0) (slots1 := 0) (by decide) (by decide) (Nat.le_of_ble_eq_true rfl) (Nat.le_of_ble_eq_true rfl) rfl (Nat.le_of_ble_eq_true rfl) dX12_watcher_77 (fun L_12926 f_12927 h_12928 => ?_)
                obtain ⟨rfl, hW_12931, hF_12932, x_12929, x_12930⟩ := h_12928
                have fe_12933 : fld (f_12247 a_0) 8 = (v_12264 : Int32).toInt := by rw [e_12259]; rfl
                have fe_12934 : fld (f_12247 a_0) 12 = (v_12271 : Int32).toInt := by rw [e_12259]; rfl
                obtain ⟨v_12936, v_12937, v_12938, v_12940, v_12942, v_12944, v_12946, v_12947, v_12948, v_12949, v_12950, e_12935, -, b_12939, b_12941, b_12943, b_12945, -, -⟩ := hW_12931.at m_1 t_2
                have fe_12951 : fld (f_12927 a_0) 8 = (v_12940 : Int32).toInt := by rw [e_12935]; rfl
                have fe_12952 : fld (f_12927 a_0) 9 = (v_12942 : Int32).toInt := by rw [e_12935]; rfl
                have fe_12953 : fld (f_12927 a_0) 10 = (v_12944 : Int32).toInt := by rw [e_12935]; rfl
                have fe_12954 : fld (f_12927 a_0) 12 = (v_12947 : Int32).toInt := by rw [e_12935]; rfl
                rw [fe_12954, fe_12952] at x_12929
                rw [fe_12954, fe_12934, fe_12933, fe_12951, fe_12952, fe_12953] at x_12930
                clear fe_12933 fe_12934 fe_12951 fe_12952 fe_12953 fe_12954
                obtain ⟨g_12955, e_12956, ok_12957, wc_12958, gs_12959⟩ := x_12929
                have wc_12958_b := wc_12958.1
                have lp_13403 : ∀ (n_13404 : Nat) (f_13399 : Nat → va_E) (hW_13400 : WT T L f_13399) (hF_13401 : FR [12, 2176] f_12927 f_13399)  (cv_13402 : ∃ g9 : Nat → Int32, (f_13399 (q 14)) = aI E 2076 g9 ∧ FOK g9 ∧ WC g9 ∧ (¬ fld (f_13399 a_0) 12 = 0 ∨ (4 * (g9 5).toInt ≤ fld (f_13399 a_0) 9 + 3 ∧ (fld (f_13399 a_0) 10 = 0 ∨ fld (f_13399 a_0) 9 < fld (f_13399 a_0) 8)))) (hm_13406 : gm (f_13399 a_0) < (n_13404 : Int)), V z E 1 0 0 L f_13399 80 [(0, .ref a_0)] [] := by
                  intro n_13404
                  induction n_13404 with
                  | zero =>
                    intro f_13399 hW_13400 hF_13401 cv_13402 hm_13406
                    obtain ⟨g_13407, e_13408, ok_13409, wc_13410, lo_13411⟩ := cv_13402
                    have wc_13410_b := wc_13410.1
                    obtain ⟨v_13413, v_13414, v_13415, v_13417, v_13419, v_13421, v_13423, v_13424, v_13425, v_13426, v_13427, e_13412, -, b_13416, b_13418, b_13420, b_13422, -, -⟩ := hW_13400.at m_1 t_2
                    have fe_13428 : fld (f_13399 a_0) 8 = (v_13417 : Int32).toInt := by rw [e_13412]; rfl
                    have fe_13429 : fld (f_13399 a_0) 9 = (v_13419 : Int32).toInt := by rw [e_13412]; rfl
                    have fe_13430 : fld (f_13399 a_0) 10 = (v_13421 : Int32).toInt := by rw [e_13412]; rfl
                    have fe_13431 : fld (f_13399 a_0) 12 = (v_13424 : Int32).toInt := by rw [e_13412]; rfl
                    rw [fe_13428, fe_13429, fe_13430, fe_13431] at lo_13411
                    have gb_13432 := gm_b (f_13399 a_0)
                    have fe_13433 : fld (f_13399 a_0) 8 = (v_13417 : Int32).toInt := by rw [e_13412]; rfl
                    have fe_13434 : fld (f_13399 a_0) 12 = (v_13424 : Int32).toInt := by rw [e_13412]; rfl
                    rw [fe_13433, fe_13434] at gb_13432
                    exfalso; omega
                  | succ n_13404 ih_13405 =>
                    intro f_13399 hW_13400 hF_13401 cv_13402 hm_13406
                    obtain ⟨g_13407, e_13408, ok_13409, wc_13410, lo_13411⟩ := cv_13402
                    have wc_13410_b := wc_13410.1
                    obtain ⟨v_13413, v_13414, v_13415, v_13417, v_13419, v_13421, v_13423, v_13424, v_13425, v_13426, v_13427, e_13412, -, b_13416, b_13418, b_13420, b_13422, -, -⟩ := hW_13400.at m_1 t_2
                    have fe_13428 : fld (f_13399 a_0) 8 = (v_13417 : Int32).toInt := by rw [e_13412]; rfl
                    have fe_13429 : fld (f_13399 a_0) 9 = (v_13419 : Int32).toInt := by rw [e_13412]; rfl
                    have fe_13430 : fld (f_13399 a_0) 10 = (v_13421 : Int32).toInt := by rw [e_13412]; rfl
                    have fe_13431 : fld (f_13399 a_0) 12 = (v_13424 : Int32).toInt := by rw [e_13412]; rfl
                    rw [fe_13428, fe_13429, fe_13430, fe_13431] at lo_13411
                    have gb_13432 := gm_b (f_13399 a_0)
                    have fe_13433 : fld (f_13399 a_0) 8 = (v_13417 : Int32).toInt := by rw [e_13412]; rfl
                    have fe_13434 : fld (f_13399 a_0) 12 = (v_13424 : Int32).toInt := by rw [e_13412]; rfl
                    rw [fe_13433, fe_13434] at gb_13432
                    refine v_aload_n hC dX12_watcher_80 rfl ?_
                    refine v_ldcwS hC sr_X12_285 dX12_watcher_81 ?_
                    refine v_vi hC (rest := []) m_1 e_13412 rfl mi_X12_takes ms_X12_takes (p_X12_takes hW_13400 k_0 (by decide)) mx_X12_takes ml_X12_159 (by decide) rfl (cells1 := 0) (slots1 := 0) (by decide) (by decide) (Nat.le_of_ble_eq_true rfl) (Nat.le_of_ble_eq_true rfl) rfl (Nat.le_of_ble_eq_true rfl) dX12_watcher_84 (fun r_13435 L_13436 f_13437 h_13438 => ?_)
                    obtain ⟨rfl, hW_13442, hF_13443, rfl, x_13439, x_13440, x_13441, -⟩ := h_13438
                    have fe_13444 : fld (f_13399 a_0) 8 = (v_13417 : Int32).toInt := by rw [e_13412]; rfl
                    have fe_13445 : fld (f_13399 a_0) 9 = (v_13419 : Int32).toInt := by rw [e_13412]; rfl
                    have fe_13446 : fld (f_13399 a_0) 10 = (v_13421 : Int32).toInt := by rw [e_13412]; rfl
                    have fe_13447 : fld (f_13399 a_0) 12 = (v_13424 : Int32).toInt := by rw [e_13412]; rfl
                    have ib_13448 := iw_b (f_13399 a_0) (f_13399 (q 4)) 70
                    have ln_13449 : ((bytStr.getD 70 []).length : Int) = 3 := by rfl
                    rw [fe_13447, fe_13446, fe_13444, fe_13445] at ib_13448
                    have hf_13450 := hF_13443.at e_13408 rfl
                    obtain ⟨v_13452, v_13453, v_13454, v_13456, v_13458, v_13460, v_13462, v_13463, v_13464, v_13465, v_13466, e_13451, -, b_13455, b_13457, b_13459, b_13461, -, -⟩ := hW_13442.at m_1 t_2
                    have fe_13467 : fld (f_13437 a_0) 8 = (v_13456 : Int32).toInt := by rw [e_13451]; rfl
                    have fe_13468 : fld (f_13437 a_0) 9 = (v_13458 : Int32).toInt := by rw [e_13451]; rfl
                    have fe_13469 : fld (f_13437 a_0) 10 = (v_13460 : Int32).toInt := by rw [e_13451]; rfl
                    have fe_13470 : fld (f_13437 a_0) 12 = (v_13463 : Int32).toInt := by rw [e_13451]; rfl
                    rw [fe_13444, fe_13468, fe_13467, fe_13469] at x_13439
                    rw [fe_13467, fe_13444, fe_13468, fe_13445, fe_13469, fe_13446] at x_13440
                    rw [fe_13470, fe_13447] at x_13441
                    clear fe_13444 fe_13445 fe_13446 fe_13447 fe_13467 fe_13468 fe_13469 fe_13470
                    try simp only [Int32.reduceToInt, Int64.reduceToInt] at x_13439
                    try simp only [Int32.reduceToInt, Int64.reduceToInt] at x_13440
                    try simp only [Int32.reduceToInt, Int64.reduceToInt] at x_13441
                    refine v_if_eq hC dX12_watcher_87 (tgt := 97) (by decide) (fun h_13471 => ?_) (fun h_13471 => ?_)
                    · simp only [Int32.lt_iff_toInt_lt, Int32.le_iff_toInt_le, Int32.reduceToInt, ← Int32.toInt_inj] at h_13471
                      refine v_aload_n hC dX12_watcher_97 rfl ?_
                      refine v_vv hC (rest := []) m_1 e_13451 rfl mi_X12_ends ms_X12_ends (p_X12_ends hW_13442 k_0) mx_X12_ends ml_X12_178 (by decide) rfl (cells1 := 0) (slots1 := 0) (by decide) (by decide) (Nat.le_of_ble_eq_true rfl) (Nat.le_of_ble_eq_true rfl) rfl (Nat.le_of_ble_eq_true rfl) dX12_watcher_98 (fun L_13473 f_13474 h_13475 => ?_)
                      obtain ⟨rfl, hW_13477, hF_13478, -, -, -, -, x_13476⟩ := h_13475
                      have fe_13479 : fld (f_13437 a_0) 8 = (v_13456 : Int32).toInt := by rw [e_13451]; rfl
                      have fe_13480 : fld (f_13437 a_0) 10 = (v_13460 : Int32).toInt := by rw [e_13451]; rfl
                      have fe_13481 : fld (f_13437 a_0) 12 = (v_13463 : Int32).toInt := by rw [e_13451]; rfl
                      have hf_13482 := hF_13478.at hf_13450 rfl
                      obtain ⟨v_13484, v_13485, v_13486, v_13488, v_13490, v_13492, v_13494, v_13495, v_13496, v_13497, v_13498, e_13483, -, b_13487, b_13489, b_13491, b_13493, -, -⟩ := hW_13477.at m_1 t_2
                      have fe_13499 : fld (f_13474 a_0) 8 = (v_13488 : Int32).toInt := by rw [e_13483]; rfl
                      have fe_13500 : fld (f_13474 a_0) 9 = (v_13490 : Int32).toInt := by rw [e_13483]; rfl
                      have fe_13501 : fld (f_13474 a_0) 10 = (v_13492 : Int32).toInt := by rw [e_13483]; rfl
                      have fe_13502 : fld (f_13474 a_0) 12 = (v_13495 : Int32).toInt := by rw [e_13483]; rfl
                      rw [fe_13502, fe_13481, fe_13480, fe_13479, fe_13500, fe_13499, fe_13501] at x_13476
                      clear fe_13479 fe_13480 fe_13481 fe_13499 fe_13500 fe_13501 fe_13502
                      refine v_aload_n hC dX12_watcher_101 rfl ?_
                      refine v_get hC fl_X12_34 m_1 e_13483 rfl dX12_watcher_102 ?_
                      refine v_iconst hC dX12_watcher_105 (v := 3) (by decide) ?_
                      refine v_dup2 hC dX12_watcher_106 rfl rfl ?_
                      refine v_iald hC m_71 hf_13482 (vp_in_iff.mpr (by decide)) (v := g_13407 3) rfl dX12_watcher_107 ?_
                      refine v_iconst hC dX12_watcher_108 (v := 1) (by decide) ?_
                      obtain ⟨v_13503, h_13504⟩ : ∃ v9 : Int32, (g_13407 3) + 1 = v9 := ⟨_, rfl⟩
                      refine v_iadd hC dX12_watcher_109 h_13504 ?_
                      refine v_iast hC m_71 hf_13482 (vp_in_iff.mpr (by decide)) dX12_watcher_110 (fun f_13506 hf_13507 hk_13508 => ?_)
                      have hW_13510 := hW_13477.up hf_13507 hk_13508 t_72 ⟨_, rfl, (ok_13409.up (i := 3) (by decide) (fun q1 q2 => absurd (And.intro q1 q2) (by decide)) (fun k9 q1 q2 q3 => by simp only [Int32.reduceToInt] at q3; omega))⟩
                      obtain ⟨g_13509, hf_13507, ok_13511, eg_13512⟩ : ∃ g9, f_13506 (q 14) = aI E 2076 g9 ∧ FOK g9 ∧ g9 = upd g_13407 (3 : Int32).toNatClampNeg v_13503 := ⟨_, hf_13507, (ok_13409.up (i := 3) (by decide) (fun q1 q2 => absurd (And.intro q1 q2) (by decide)) (fun k9 q1 q2 q3 => by simp only [Int32.reduceToInt] at q3; omega)), rfl⟩
                      have hf_13513 := (hk_13508 a_0 (ne_kd e_13483 hf_13482 rfl)).trans e_13483
                      have fr_13514 := FR.w hk_13508 hf_13482 (k := 2176) rfl
                      have wc_13515 := WC.n3 wc_13410 eg_13512
                      have wc_13515_t := wc_13515.2
                      refine v_goto hC dX12_watcher_111 (tgt := 15) (by decide) ?_
                      refine v_pick [0] rfl ?_
                      have fe_13516 : fld (f_13506 a_0) 8 = (v_13488 : Int32).toInt := by rw [hf_13513]; rfl
                      have fe_13517 : fld (f_13506 a_0) 9 = (v_13490 : Int32).toInt := by rw [hf_13513]; rfl
                      have fe_13518 : fld (f_13506 a_0) 10 = (v_13492 : Int32).toInt := by rw [hf_13513]; rfl
                      have fe_13519 : fld (f_13506 a_0) 12 = (v_13495 : Int32).toInt := by rw [hf_13513]; rfl
                      have gb_13523 := gm_b (f_13506 a_0)
                      have fe_13524 : fld (f_13506 a_0) 8 = (v_13488 : Int32).toInt := by rw [hf_13513]; rfl
                      have fe_13525 : fld (f_13506 a_0) 12 = (v_13495 : Int32).toInt := by rw [hf_13513]; rfl
                      rw [fe_13524, fe_13525] at gb_13523
                      exact ih_10733 f_13506 hW_13510 ((((((((hF_10729.tr hF_12217).tr hF_12251).tr hF_12932).tr hF_13401).tr hF_13443).tr hF_13478).tr fr_13514).mono rfl) ⟨_, hf_13507, ok_13511, wc_13515.1, (by simp only [fe_13516, fe_13517, fe_13518, fe_13519]; by_cases q9 : (v_13495 : Int32).toInt = 0; have gp_13520 := x_13476.resolve_left (fun h9 => h9 q9); clear x_13476; have gz_13521 := x_13441.symm.trans gp_13520.1; have gp_13522 := lo_13411.resolve_left (fun h9 => h9 gz_13521); clear lo_13411; (right; omega); exact .inl q9)⟩ (by omega)
                    · simp only [Int32.lt_iff_toInt_lt, Int32.le_iff_toInt_le, Int32.reduceToInt, ← Int32.toInt_inj] at h_13471
                      refine v_aload_n hC dX12_watcher_90 rfl ?_
                      have fe_13526 : fld (f_13437 a_0) 9 = (v_13458 : Int32).toInt := by rw [e_13451]; rfl
                      have fe_13527 : fld (f_13437 a_0) 12 = (v_13463 : Int32).toInt := by rw [e_13451]; rfl
                      have fe_13528 : fld (f_13437 a_0) 8 = (v_13456 : Int32).toInt := by rw [e_13451]; rfl
                      have fe_13529 : fld (f_13437 a_0) 9 = (v_13458 : Int32).toInt := by rw [e_13451]; rfl
                      have fe_13530 : fld (f_13437 a_0) 10 = (v_13460 : Int32).toInt := by rw [e_13451]; rfl
                      have fe_13531 : fld (f_13437 a_0) 12 = (v_13463 : Int32).toInt := by rw [e_13451]; rfl
                      refine v_vv hC (rest := []) m_1 e_13451 rfl mi_X12_readTest ms_X12_readTest (p_X12_readTest hW_13442 k_0 hf_13450 ok_13409 wc_13410 (by simp only [fe_13526, fe_13527]; omega) (by simp only [fe_13528, fe_13529, fe_13530, fe_13531]; omega)) mx_X12_readTest ml_X12_282 (by decide) rfl (cells1 := 0) (slots1 := 0) (by decide) (by decide) (Nat.le_of_ble_eq_true rfl) (Nat.le_of_ble_eq_true rfl) rfl (Nat.le_of_ble_eq_true rfl) dX12_watcher_91 (fun L_13533 f_13534 h_13535 => ?_)
                      obtain ⟨rfl, hW_13538, hF_13539, x_13536, x_13537⟩ := h_13535
                      have fe_13540 : fld (f_13437 a_0) 8 = (v_13456 : Int32).toInt := by rw [e_13451]; rfl
                      have fe_13541 : fld (f_13437 a_0) 12 = (v_13463 : Int32).toInt := by rw [e_13451]; rfl
                      obtain ⟨v_13543, v_13544, v_13545, v_13547, v_13549, v_13551, v_13553, v_13554, v_13555, v_13556, v_13557, e_13542, -, b_13546, b_13548, b_13550, b_13552, -, -⟩ := hW_13538.at m_1 t_2
                      have fe_13558 : fld (f_13534 a_0) 8 = (v_13547 : Int32).toInt := by rw [e_13542]; rfl
                      have fe_13559 : fld (f_13534 a_0) 9 = (v_13549 : Int32).toInt := by rw [e_13542]; rfl
                      have fe_13560 : fld (f_13534 a_0) 10 = (v_13551 : Int32).toInt := by rw [e_13542]; rfl
                      have fe_13561 : fld (f_13534 a_0) 12 = (v_13554 : Int32).toInt := by rw [e_13542]; rfl
                      rw [fe_13561, fe_13559] at x_13536
                      rw [fe_13561, fe_13541, fe_13540, fe_13558, fe_13559, fe_13560] at x_13537
                      clear fe_13540 fe_13541 fe_13558 fe_13559 fe_13560 fe_13561
                      obtain ⟨g_13562, e_13563, ok_13564, wc_13565, gs_13566⟩ := x_13536
                      have wc_13565_b := wc_13565.1
                      refine v_goto hC dX12_watcher_94 (tgt := 80) (by decide) ?_
                      refine v_pick [0] rfl ?_
                      have fe_13567 : fld (f_13534 a_0) 8 = (v_13547 : Int32).toInt := by rw [e_13542]; rfl
                      have fe_13568 : fld (f_13534 a_0) 9 = (v_13549 : Int32).toInt := by rw [e_13542]; rfl
                      have fe_13569 : fld (f_13534 a_0) 10 = (v_13551 : Int32).toInt := by rw [e_13542]; rfl
                      have fe_13570 : fld (f_13534 a_0) 12 = (v_13554 : Int32).toInt := by rw [e_13542]; rfl
                      have gb_13575 := gm_b (f_13534 a_0)
                      have fe_13576 : fld (f_13534 a_0) 8 = (v_13547 : Int32).toInt := by rw [e_13542]; rfl
                      have fe_13577 : fld (f_13534 a_0) 12 = (v_13554 : Int32).toInt := by rw [e_13542]; rfl
                      rw [fe_13576, fe_13577] at gb_13575
                      exact ih_13405 f_13534 hW_13538 (((hF_13401.tr hF_13443).tr hF_13539).mono rfl) ⟨_, e_13563, ok_13564, wc_13565, (by simp only [fe_13567, fe_13568, fe_13569, fe_13570]; by_cases q9 : (v_13554 : Int32).toInt = 0; have gp_13571 := gs_13566.resolve_left (fun h9 => h9 q9); clear gs_13566; have gp_13572 := x_13537.resolve_left (fun h9 => h9 q9); clear x_13537; have gz_13573 := x_13441.symm.trans gp_13572.1; have gp_13574 := lo_13411.resolve_left (fun h9 => h9 gz_13573); clear lo_13411; (right; omega); exact .inl q9)⟩ (by omega)
                refine v_pick [0] rfl ?_
                have fe_13578 : fld (f_12927 a_0) 8 = (v_12940 : Int32).toInt := by rw [e_12935]; rfl
                have fe_13579 : fld (f_12927 a_0) 9 = (v_12942 : Int32).toInt := by rw [e_12935]; rfl
                have fe_13580 : fld (f_12927 a_0) 10 = (v_12944 : Int32).toInt := by rw [e_12935]; rfl
                have fe_13581 : fld (f_12927 a_0) 12 = (v_12947 : Int32).toInt := by rw [e_12935]; rfl
                have gb_13584 := gm_b (f_12927 a_0)
                have fe_13585 : fld (f_12927 a_0) 8 = (v_12940 : Int32).toInt := by rw [e_12935]; rfl
                have fe_13586 : fld (f_12927 a_0) 12 = (v_12947 : Int32).toInt := by rw [e_12935]; rfl
                rw [fe_13585, fe_13586] at gb_13584
                exact lp_13403 700 f_12927 hW_12931 FR.rf ⟨_, e_12956, ok_12957, wc_12958, (by simp only [fe_13578, fe_13579, fe_13580, fe_13581]; by_cases q9 : (v_12947 : Int32).toInt = 0; have gp_13582 := gs_12959.resolve_left (fun h9 => h9 q9); clear gs_12959; have gp_13583 := x_12930.resolve_left (fun h9 => h9 q9); clear x_12930; (right; omega); exact .inl q9)⟩ (by omega)
            · simp only [Int32.lt_iff_toInt_lt, Int32.le_iff_toInt_le, Int32.reduceToInt, ← Int32.toInt_inj] at h_12210
              refine v_aload_n hC dX12_watcher_50 rfl ?_
              refine v_iconst hC dX12_watcher_51 (v := 3) (by decide) ?_
              refine v_vv hC (rest := []) m_1 e_10740 rfl mi_X12_errs ms_X12_errs (p_X12_errs hW_10728 k_0 (by decide)) mx_X12_errs ml_X12_162 (by decide) rfl (cells1 := 0) (slots1 := 0) (by decide) (by decide) (Nat.le_of_ble_eq_true rfl) (Nat.le_of_ble_eq_true rfl) rfl (Nat.le_of_ble_eq_true rfl) dX12_watcher_52 (fun L_13588 f_13589 h_13590 => ?_)
              obtain ⟨rfl, hW_13593, hF_13594, x_13591, x_13592, -, -, -⟩ := h_13590
              have fe_13595 : fld (f_10727 a_0) 8 = (v_10745 : Int32).toInt := by rw [e_10740]; rfl
              have hf_13596 := hF_13594.at e_10736 rfl
              obtain ⟨v_13598, v_13599, v_13600, v_13602, v_13604, v_13606, v_13608, v_13609, v_13610, v_13611, v_13612, e_13597, -, b_13601, b_13603, b_13605, b_13607, -, -⟩ := hW_13593.at m_1 t_2
              have fe_13613 : fld (f_13589 a_0) 8 = (v_13602 : Int32).toInt := by rw [e_13597]; rfl
              have fe_13614 : fld (f_13589 a_0) 12 = (v_13609 : Int32).toInt := by rw [e_13597]; rfl
              rw [fe_13614] at x_13591
              rw [fe_13613, fe_13595] at x_13592
              clear fe_13595 fe_13613 fe_13614
              refine v_aload_n hC dX12_watcher_55 rfl ?_
              refine v_ldcwS hC sr_X12_278 dX12_watcher_56 ?_
              refine v_vv hC (rest := []) m_1 e_13597 rfl mi_X12_needs ms_X12_needs (p_X12_needs hW_13593 k_0 (by decide)) mx_X12_needs ml_X12_166 (by decide) rfl (cells1 := 0) (slots1 := 0) (by decide) (by decide) (Nat.le_of_ble_eq_true rfl) (Nat.le_of_ble_eq_true rfl) rfl (Nat.le_of_ble_eq_true rfl) dX12_watcher_59 (fun L_13616 f_13617 h_13618 => ?_)
              obtain ⟨rfl, hW_13620, hF_13621, -, -, -, -, x_13619⟩ := h_13618
              have fe_13622 : fld (f_13589 a_0) 8 = (v_13602 : Int32).toInt := by rw [e_13597]; rfl
              have fe_13623 : fld (f_13589 a_0) 9 = (v_13604 : Int32).toInt := by rw [e_13597]; rfl
              have fe_13624 : fld (f_13589 a_0) 10 = (v_13606 : Int32).toInt := by rw [e_13597]; rfl
              have fe_13625 : fld (f_13589 a_0) 12 = (v_13609 : Int32).toInt := by rw [e_13597]; rfl
              have ib_13626 := iw_b (f_13589 a_0) (f_13589 (q 4)) 54
              have ln_13627 : ((bytStr.getD 54 []).length : Int) = 4 := by rfl
              rw [fe_13625, fe_13624, fe_13622, fe_13623] at ib_13626
              have hf_13628 := hF_13621.at hf_13596 rfl
              obtain ⟨v_13630, v_13631, v_13632, v_13634, v_13636, v_13638, v_13640, v_13641, v_13642, v_13643, v_13644, e_13629, -, b_13633, b_13635, b_13637, b_13639, -, -⟩ := hW_13620.at m_1 t_2
              have fe_13645 : fld (f_13617 a_0) 8 = (v_13634 : Int32).toInt := by rw [e_13629]; rfl
              have fe_13646 : fld (f_13617 a_0) 9 = (v_13636 : Int32).toInt := by rw [e_13629]; rfl
              have fe_13647 : fld (f_13617 a_0) 10 = (v_13638 : Int32).toInt := by rw [e_13629]; rfl
              have fe_13648 : fld (f_13617 a_0) 12 = (v_13641 : Int32).toInt := by rw [e_13629]; rfl
              rw [fe_13648, fe_13625, fe_13622, fe_13646, fe_13645, fe_13647] at x_13619
              have nb_13649 : ¬ (v_13641 : Int32).toInt = 0 := x_13619.elim id (fun h9 => absurd h9.1 x_13591)
              clear x_13619
              clear fe_13622 fe_13623 fe_13624 fe_13625 fe_13645 fe_13646 fe_13647 fe_13648
              refine v_aload_n hC dX12_watcher_62 rfl ?_
              refine v_ldcwS hC sr_X12_280 dX12_watcher_63 ?_
              refine v_vv hC (rest := []) m_1 e_13629 rfl mi_X12_needs ms_X12_needs (p_X12_needs hW_13620 k_0 (by decide)) mx_X12_needs ml_X12_166 (by decide) rfl (cells1 := 0) (slots1 := 0) (by decide) (by decide) (Nat.le_of_ble_eq_true rfl) (Nat.le_of_ble_eq_true rfl) rfl (Nat.le_of_ble_eq_true rfl) dX12_watcher_66 (fun L_13651 f_13652 h_13653 => ?_)
              obtain ⟨rfl, hW_13655, hF_13656, -, -, -, -, x_13654⟩ := h_13653
              have fe_13657 : fld (f_13617 a_0) 8 = (v_13634 : Int32).toInt := by rw [e_13629]; rfl
              have fe_13658 : fld (f_13617 a_0) 9 = (v_13636 : Int32).toInt := by rw [e_13629]; rfl
              have fe_13659 : fld (f_13617 a_0) 10 = (v_13638 : Int32).toInt := by rw [e_13629]; rfl
              have fe_13660 : fld (f_13617 a_0) 12 = (v_13641 : Int32).toInt := by rw [e_13629]; rfl
              have ib_13661 := iw_b (f_13617 a_0) (f_13617 (q 4)) 55
              have ln_13662 : ((bytStr.getD 55 []).length : Int) = 2 := by rfl
              rw [fe_13660, fe_13659, fe_13657, fe_13658] at ib_13661
              have hf_13663 := hF_13656.at hf_13628 rfl
              obtain ⟨v_13665, v_13666, v_13667, v_13669, v_13671, v_13673, v_13675, v_13676, v_13677, v_13678, v_13679, e_13664, -, b_13668, b_13670, b_13672, b_13674, -, -⟩ := hW_13655.at m_1 t_2
              have fe_13680 : fld (f_13652 a_0) 8 = (v_13669 : Int32).toInt := by rw [e_13664]; rfl
              have fe_13681 : fld (f_13652 a_0) 9 = (v_13671 : Int32).toInt := by rw [e_13664]; rfl
              have fe_13682 : fld (f_13652 a_0) 10 = (v_13673 : Int32).toInt := by rw [e_13664]; rfl
              have fe_13683 : fld (f_13652 a_0) 12 = (v_13676 : Int32).toInt := by rw [e_13664]; rfl
              rw [fe_13683, fe_13660, fe_13657, fe_13681, fe_13680, fe_13682] at x_13654
              have nb_13684 : ¬ (v_13676 : Int32).toInt = 0 := x_13654.elim id (fun h9 => absurd h9.1 nb_13649)
              clear x_13654
              clear fe_13657 fe_13658 fe_13659 fe_13660 fe_13680 fe_13681 fe_13682 fe_13683
              refine v_aload_n hC dX12_watcher_69 rfl ?_
              refine v_vi hC (rest := []) m_1 e_13664 rfl mi_X12_good ms_X12_good (p_X12_good hW_13655 k_0) mx_X12_good ml_X12_139 (by decide) rfl (cells1 := 0) (slots1 := 0) (by decide) (by decide) (Nat.le_of_ble_eq_true rfl) (Nat.le_of_ble_eq_true rfl) rfl (Nat.le_of_ble_eq_true rfl) dX12_watcher_70 (fun r_13685 L_13686 f_13687 h_13688 => ?_)
              obtain ⟨rfl, rfl, b_13689, x_13690⟩ := h_13688
              have fe_13693 : fld (f_13652 a_0) 12 = (v_13676 : Int32).toInt := by rw [e_13664]; rfl
              rw [fe_13693] at x_13690
              clear fe_13693
              try simp only [Int32.reduceToInt, Int64.reduceToInt] at x_13690
              refine v_if_eq_t hC dX12_watcher_73 (tgt := 80) (by decide) (gdb_z x_13690 nb_13684) ?_
              have lp_14137 : ∀ (n_14138 : Nat) (f_14133 : Nat → va_E) (hW_14134 : WT T L f_14133) (hF_14135 : FR [12, 2176] f_13652 f_14133)  (cv_14136 : ∃ g9 : Nat → Int32, (f_14133 (q 14)) = aI E 2076 g9 ∧ FOK g9 ∧ WC g9 ∧ (¬ fld (f_14133 a_0) 12 = 0 ∨ (4 * (g9 5).toInt ≤ fld (f_14133 a_0) 9 + 3 ∧ (fld (f_14133 a_0) 10 = 0 ∨ fld (f_14133 a_0) 9 < fld (f_14133 a_0) 8)))) (hm_14140 : gm (f_14133 a_0) < (n_14138 : Int)), V z E 1 0 0 L f_14133 80 [(0, .ref a_0)] [] := by
                intro n_14138
                induction n_14138 with
                | zero =>
                  intro f_14133 hW_14134 hF_14135 cv_14136 hm_14140
                  obtain ⟨g_14141, e_14142, ok_14143, wc_14144, lo_14145⟩ := cv_14136
                  have wc_14144_b := wc_14144.1
                  obtain ⟨v_14147, v_14148, v_14149, v_14151, v_14153, v_14155, v_14157, v_14158, v_14159, v_14160, v_14161, e_14146, -, b_14150, b_14152, b_14154, b_14156, -, -⟩ := hW_14134.at m_1 t_2
                  have fe_14162 : fld (f_14133 a_0) 8 = (v_14151 : Int32).toInt := by rw [e_14146]; rfl
                  have fe_14163 : fld (f_14133 a_0) 9 = (v_14153 : Int32).toInt := by rw [e_14146]; rfl
                  have fe_14164 : fld (f_14133 a_0) 10 = (v_14155 : Int32).toInt := by rw [e_14146]; rfl
                  have fe_14165 : fld (f_14133 a_0) 12 = (v_14158 : Int32).toInt := by rw [e_14146]; rfl
                  rw [fe_14162, fe_14163, fe_14164, fe_14165] at lo_14145
                  have gb_14166 := gm_b (f_14133 a_0)
                  have fe_14167 : fld (f_14133 a_0) 8 = (v_14151 : Int32).toInt := by rw [e_14146]; rfl
                  have fe_14168 : fld (f_14133 a_0) 12 = (v_14158 : Int32).toInt := by rw [e_14146]; rfl
                  rw [fe_14167, fe_14168] at gb_14166
                  exfalso; omega
                | succ n_14138 ih_14139 =>
                  intro f_14133 hW_14134 hF_14135 cv_14136 hm_14140
                  obtain ⟨g_14141, e_14142, ok_14143, wc_14144, lo_14145⟩ := cv_14136
                  have wc_14144_b := wc_14144.1
                  obtain ⟨v_14147, v_14148, v_14149, v_14151, v_14153, v_14155, v_14157, v_14158, v_14159, v_14160, v_14161, e_14146, -, b_14150, b_14152, b_14154, b_14156, -, -⟩ := hW_14134.at m_1 t_2
                  have fe_14162 : fld (f_14133 a_0) 8 = (v_14151 : Int32).toInt := by rw [e_14146]; rfl
                  have fe_14163 : fld (f_14133 a_0) 9 = (v_14153 : Int32).toInt := by rw [e_14146]; rfl
                  have fe_14164 : fld (f_14133 a_0) 10 = (v_14155 : Int32).toInt := by rw [e_14146]; rfl
                  have fe_14165 : fld (f_14133 a_0) 12 = (v_14158 : Int32).toInt := by rw [e_14146]; rfl
                  rw [fe_14162, fe_14163, fe_14164, fe_14165] at lo_14145
                  have gb_14166 := gm_b (f_14133 a_0)
                  have fe_14167 : fld (f_14133 a_0) 8 = (v_14151 : Int32).toInt := by rw [e_14146]; rfl
                  have fe_14168 : fld (f_14133 a_0) 12 = (v_14158 : Int32).toInt := by rw [e_14146]; rfl
                  rw [fe_14167, fe_14168] at gb_14166
                  refine v_aload_n hC dX12_watcher_80 rfl ?_
                  refine v_ldcwS hC sr_X12_285 dX12_watcher_81 ?_
                  refine v_vi hC (rest := []) m_1 e_14146 rfl mi_X12_takes ms_X12_takes (p_X12_takes hW_14134 k_0 (by decide)) mx_X12_takes ml_X12_159 (by decide) rfl (cells1 := 0) (slots1 := 0) (by decide) (by decide) (Nat.le_of_ble_eq_true rfl) (Nat.le_of_ble_eq_true rfl) rfl (Nat.le_of_ble_eq_true rfl) dX12_watcher_84 (fun r_14169 L_14170 f_14171 h_14172 => ?_)
                  obtain ⟨rfl, hW_14176, hF_14177, rfl, x_14173, x_14174, x_14175, -⟩ := h_14172
                  have fe_14178 : fld (f_14133 a_0) 8 = (v_14151 : Int32).toInt := by rw [e_14146]; rfl
                  have fe_14179 : fld (f_14133 a_0) 9 = (v_14153 : Int32).toInt := by rw [e_14146]; rfl
                  have fe_14180 : fld (f_14133 a_0) 10 = (v_14155 : Int32).toInt := by rw [e_14146]; rfl
                  have fe_14181 : fld (f_14133 a_0) 12 = (v_14158 : Int32).toInt := by rw [e_14146]; rfl
                  have ib_14182 := iw_b (f_14133 a_0) (f_14133 (q 4)) 70
                  have ln_14183 : ((bytStr.getD 70 []).length : Int) = 3 := by rfl
                  rw [fe_14181, fe_14180, fe_14178, fe_14179] at ib_14182
                  have hf_14184 := hF_14177.at e_14142 rfl
                  obtain ⟨v_14186, v_14187, v_14188, v_14190, v_14192, v_14194, v_14196, v_14197, v_14198, v_14199, v_14200, e_14185, -, b_14189, b_14191, b_14193, b_14195, -, -⟩ := hW_14176.at m_1 t_2
                  have fe_14201 : fld (f_14171 a_0) 8 = (v_14190 : Int32).toInt := by rw [e_14185]; rfl
                  have fe_14202 : fld (f_14171 a_0) 9 = (v_14192 : Int32).toInt := by rw [e_14185]; rfl
                  have fe_14203 : fld (f_14171 a_0) 10 = (v_14194 : Int32).toInt := by rw [e_14185]; rfl
                  have fe_14204 : fld (f_14171 a_0) 12 = (v_14197 : Int32).toInt := by rw [e_14185]; rfl
                  rw [fe_14178, fe_14202, fe_14201, fe_14203] at x_14173
                  rw [fe_14201, fe_14178, fe_14202, fe_14179, fe_14203, fe_14180] at x_14174
                  rw [fe_14204, fe_14181] at x_14175
                  clear fe_14178 fe_14179 fe_14180 fe_14181 fe_14201 fe_14202 fe_14203 fe_14204
                  try simp only [Int32.reduceToInt, Int64.reduceToInt] at x_14173
                  try simp only [Int32.reduceToInt, Int64.reduceToInt] at x_14174
                  try simp only [Int32.reduceToInt, Int64.reduceToInt] at x_14175
                  refine v_if_eq hC dX12_watcher_87 (tgt := 97) (by decide) (fun h_14205 => ?_) (fun h_14205 => ?_)
                  · simp only [Int32.lt_iff_toInt_lt, Int32.le_iff_toInt_le, Int32.reduceToInt, ← Int32.toInt_inj] at h_14205
                    refine v_aload_n hC dX12_watcher_97 rfl ?_
                    refine v_vv hC (rest := []) m_1 e_14185 rfl mi_X12_ends ms_X12_ends (p_X12_ends hW_14176 k_0) mx_X12_ends ml_X12_178 (by decide) rfl (cells1 := 0) (slots1 := 0) (by decide) (by decide) (Nat.le_of_ble_eq_true rfl) (Nat.le_of_ble_eq_true rfl) rfl (Nat.le_of_ble_eq_true rfl) dX12_watcher_98 (fun L_14207 f_14208 h_14209 => ?_)
                    obtain ⟨rfl, hW_14211, hF_14212, -, -, -, -, x_14210⟩ := h_14209
                    have fe_14213 : fld (f_14171 a_0) 8 = (v_14190 : Int32).toInt := by rw [e_14185]; rfl
                    have fe_14214 : fld (f_14171 a_0) 10 = (v_14194 : Int32).toInt := by rw [e_14185]; rfl
                    have fe_14215 : fld (f_14171 a_0) 12 = (v_14197 : Int32).toInt := by rw [e_14185]; rfl
                    have hf_14216 := hF_14212.at hf_14184 rfl
                    obtain ⟨v_14218, v_14219, v_14220, v_14222, v_14224, v_14226, v_14228, v_14229, v_14230, v_14231, v_14232, e_14217, -, b_14221, b_14223, b_14225, b_14227, -, -⟩ := hW_14211.at m_1 t_2
                    have fe_14233 : fld (f_14208 a_0) 8 = (v_14222 : Int32).toInt := by rw [e_14217]; rfl
                    have fe_14234 : fld (f_14208 a_0) 9 = (v_14224 : Int32).toInt := by rw [e_14217]; rfl
                    have fe_14235 : fld (f_14208 a_0) 10 = (v_14226 : Int32).toInt := by rw [e_14217]; rfl
                    have fe_14236 : fld (f_14208 a_0) 12 = (v_14229 : Int32).toInt := by rw [e_14217]; rfl
                    rw [fe_14236, fe_14215, fe_14214, fe_14213, fe_14234, fe_14233, fe_14235] at x_14210
                    clear fe_14213 fe_14214 fe_14215 fe_14233 fe_14234 fe_14235 fe_14236
                    refine v_aload_n hC dX12_watcher_101 rfl ?_
                    refine v_get hC fl_X12_34 m_1 e_14217 rfl dX12_watcher_102 ?_
                    refine v_iconst hC dX12_watcher_105 (v := 3) (by decide) ?_
                    refine v_dup2 hC dX12_watcher_106 rfl rfl ?_
                    refine v_iald hC m_71 hf_14216 (vp_in_iff.mpr (by decide)) (v := g_14141 3) rfl dX12_watcher_107 ?_
                    refine v_iconst hC dX12_watcher_108 (v := 1) (by decide) ?_
                    obtain ⟨v_14237, h_14238⟩ : ∃ v9 : Int32, (g_14141 3) + 1 = v9 := ⟨_, rfl⟩
                    refine v_iadd hC dX12_watcher_109 h_14238 ?_
                    refine v_iast hC m_71 hf_14216 (vp_in_iff.mpr (by decide)) dX12_watcher_110 (fun f_14240 hf_14241 hk_14242 => ?_)
                    have hW_14244 := hW_14211.up hf_14241 hk_14242 t_72 ⟨_, rfl, (ok_14143.up (i := 3) (by decide) (fun q1 q2 => absurd (And.intro q1 q2) (by decide)) (fun k9 q1 q2 q3 => by simp only [Int32.reduceToInt] at q3; omega))⟩
                    obtain ⟨g_14243, hf_14241, ok_14245, eg_14246⟩ : ∃ g9, f_14240 (q 14) = aI E 2076 g9 ∧ FOK g9 ∧ g9 = upd g_14141 (3 : Int32).toNatClampNeg v_14237 := ⟨_, hf_14241, (ok_14143.up (i := 3) (by decide) (fun q1 q2 => absurd (And.intro q1 q2) (by decide)) (fun k9 q1 q2 q3 => by simp only [Int32.reduceToInt] at q3; omega)), rfl⟩
                    have hf_14247 := (hk_14242 a_0 (ne_kd e_14217 hf_14216 rfl)).trans e_14217
                    have fr_14248 := FR.w hk_14242 hf_14216 (k := 2176) rfl
                    have wc_14249 := WC.n3 wc_14144 eg_14246
                    have wc_14249_t := wc_14249.2
                    refine v_goto hC dX12_watcher_111 (tgt := 15) (by decide) ?_
                    refine v_pick [0] rfl ?_
                    have fe_14250 : fld (f_14240 a_0) 8 = (v_14222 : Int32).toInt := by rw [hf_14247]; rfl
                    have fe_14251 : fld (f_14240 a_0) 9 = (v_14224 : Int32).toInt := by rw [hf_14247]; rfl
                    have fe_14252 : fld (f_14240 a_0) 10 = (v_14226 : Int32).toInt := by rw [hf_14247]; rfl
                    have fe_14253 : fld (f_14240 a_0) 12 = (v_14229 : Int32).toInt := by rw [hf_14247]; rfl
                    have gb_14257 := gm_b (f_14240 a_0)
                    have fe_14258 : fld (f_14240 a_0) 8 = (v_14222 : Int32).toInt := by rw [hf_14247]; rfl
                    have fe_14259 : fld (f_14240 a_0) 12 = (v_14229 : Int32).toInt := by rw [hf_14247]; rfl
                    rw [fe_14258, fe_14259] at gb_14257
                    exact ih_10733 f_14240 hW_14244 ((((((((hF_10729.tr hF_13594).tr hF_13621).tr hF_13656).tr hF_14135).tr hF_14177).tr hF_14212).tr fr_14248).mono rfl) ⟨_, hf_14241, ok_14245, wc_14249.1, (by simp only [fe_14250, fe_14251, fe_14252, fe_14253]; by_cases q9 : (v_14229 : Int32).toInt = 0; have gp_14254 := x_14210.resolve_left (fun h9 => h9 q9); clear x_14210; have gz_14255 := x_14175.symm.trans gp_14254.1; have gp_14256 := lo_14145.resolve_left (fun h9 => h9 gz_14255); clear lo_14145; (right; omega); exact .inl q9)⟩ (by omega)
                  · simp only [Int32.lt_iff_toInt_lt, Int32.le_iff_toInt_le, Int32.reduceToInt, ← Int32.toInt_inj] at h_14205
                    refine v_aload_n hC dX12_watcher_90 rfl ?_
                    have fe_14260 : fld (f_14171 a_0) 9 = (v_14192 : Int32).toInt := by rw [e_14185]; rfl
                    have fe_14261 : fld (f_14171 a_0) 12 = (v_14197 : Int32).toInt := by rw [e_14185]; rfl
                    have fe_14262 : fld (f_14171 a_0) 8 = (v_14190 : Int32).toInt := by rw [e_14185]; rfl
                    have fe_14263 : fld (f_14171 a_0) 9 = (v_14192 : Int32).toInt := by rw [e_14185]; rfl
                    have fe_14264 : fld (f_14171 a_0) 10 = (v_14194 : Int32).toInt := by rw [e_14185]; rfl
                    have fe_14265 : fld (f_14171 a_0) 12 = (v_14197 : Int32).toInt := by rw [e_14185]; rfl
                    refine v_vv hC (rest := []) m_1 e_14185 rfl mi_X12_readTest ms_X12_readTest (p_X12_readTest hW_14176 k_0 hf_14184 ok_14143 wc_14144 (by simp only [fe_14260, fe_14261]; omega) (by simp only [fe_14262, fe_14263, fe_14264, fe_14265]; omega)) mx_X12_readTest ml_X12_282 (by decide) rfl (cells1 := 0) (slots1 := 0) (by decide) (by decide) (Nat.le_of_ble_eq_true rfl) (Nat.le_of_ble_eq_true rfl) rfl (Nat.le_of_ble_eq_true rfl) dX12_watcher_91 (fun L_14267 f_14268 h_14269 => ?_)
                    obtain ⟨rfl, hW_14272, hF_14273, x_14270, x_14271⟩ := h_14269
                    have fe_14274 : fld (f_14171 a_0) 8 = (v_14190 : Int32).toInt := by rw [e_14185]; rfl
                    have fe_14275 : fld (f_14171 a_0) 12 = (v_14197 : Int32).toInt := by rw [e_14185]; rfl
                    obtain ⟨v_14277, v_14278, v_14279, v_14281, v_14283, v_14285, v_14287, v_14288, v_14289, v_14290, v_14291, e_14276, -, b_14280, b_14282, b_14284, b_14286, -, -⟩ := hW_14272.at m_1 t_2
                    have fe_14292 : fld (f_14268 a_0) 8 = (v_14281 : Int32).toInt := by rw [e_14276]; rfl
                    have fe_14293 : fld (f_14268 a_0) 9 = (v_14283 : Int32).toInt := by rw [e_14276]; rfl
                    have fe_14294 : fld (f_14268 a_0) 10 = (v_14285 : Int32).toInt := by rw [e_14276]; rfl
                    have fe_14295 : fld (f_14268 a_0) 12 = (v_14288 : Int32).toInt := by rw [e_14276]; rfl
                    rw [fe_14295, fe_14293] at x_14270
                    rw [fe_14295, fe_14275, fe_14274, fe_14292, fe_14293, fe_14294] at x_14271
                    clear fe_14274 fe_14275 fe_14292 fe_14293 fe_14294 fe_14295
                    obtain ⟨g_14296, e_14297, ok_14298, wc_14299, gs_14300⟩ := x_14270
                    have wc_14299_b := wc_14299.1
                    refine v_goto hC dX12_watcher_94 (tgt := 80) (by decide) ?_
                    refine v_pick [0] rfl ?_
                    have fe_14301 : fld (f_14268 a_0) 8 = (v_14281 : Int32).toInt := by rw [e_14276]; rfl
                    have fe_14302 : fld (f_14268 a_0) 9 = (v_14283 : Int32).toInt := by rw [e_14276]; rfl
                    have fe_14303 : fld (f_14268 a_0) 10 = (v_14285 : Int32).toInt := by rw [e_14276]; rfl
                    have fe_14304 : fld (f_14268 a_0) 12 = (v_14288 : Int32).toInt := by rw [e_14276]; rfl
                    have gb_14309 := gm_b (f_14268 a_0)
                    have fe_14310 : fld (f_14268 a_0) 8 = (v_14281 : Int32).toInt := by rw [e_14276]; rfl
                    have fe_14311 : fld (f_14268 a_0) 12 = (v_14288 : Int32).toInt := by rw [e_14276]; rfl
                    rw [fe_14310, fe_14311] at gb_14309
                    exact ih_14139 f_14268 hW_14272 (((hF_14135.tr hF_14177).tr hF_14273).mono rfl) ⟨_, e_14297, ok_14298, wc_14299, (by simp only [fe_14301, fe_14302, fe_14303, fe_14304]; by_cases q9 : (v_14288 : Int32).toInt = 0; have gp_14305 := gs_14300.resolve_left (fun h9 => h9 q9); clear gs_14300; have gp_14306 := x_14271.resolve_left (fun h9 => h9 q9); clear x_14271; have gz_14307 := x_14175.symm.trans gp_14306.1; have gp_14308 := lo_14145.resolve_left (fun h9 => h9 gz_14307); clear lo_14145; (right; omega); exact .inl q9)⟩ (by omega)
              refine v_pick [0] rfl ?_
              have fe_14312 : fld (f_13652 a_0) 8 = (v_13669 : Int32).toInt := by rw [e_13664]; rfl
              have fe_14313 : fld (f_13652 a_0) 9 = (v_13671 : Int32).toInt := by rw [e_13664]; rfl
              have fe_14314 : fld (f_13652 a_0) 10 = (v_13673 : Int32).toInt := by rw [e_13664]; rfl
              have fe_14315 : fld (f_13652 a_0) 12 = (v_13676 : Int32).toInt := by rw [e_13664]; rfl
              have gb_14316 := gm_b (f_13652 a_0)
              have fe_14317 : fld (f_13652 a_0) 8 = (v_13669 : Int32).toInt := by rw [e_13664]; rfl
              have fe_14318 : fld (f_13652 a_0) 12 = (v_13676 : Int32).toInt := by rw [e_13664]; rfl
              rw [fe_14317, fe_14318] at gb_14316
              exact lp_14137 700 f_13652 hW_13655 FR.rf ⟨_, hf_13663, ok_10737, wc_10738, (by simp only [fe_14312, fe_14313, fe_14314, fe_14315]; exact .inl nb_13684)⟩ (by omega)
  refine v_pick [0] rfl ?_
  have fe_14319 : fld (f_93 a_0) 8 = (v_109 : Int32).toInt := by rw [e_104]; rfl
  have fe_14320 : fld (f_93 a_0) 9 = (v_111 : Int32).toInt := by rw [e_104]; rfl
  have fe_14321 : fld (f_93 a_0) 10 = (v_113 : Int32).toInt := by rw [e_104]; rfl
  have fe_14322 : fld (f_93 a_0) 12 = (v_116 : Int32).toInt := by rw [e_104]; rfl
  have gb_14324 := gm_b (f_93 a_0)
  have fe_14325 : fld (f_93 a_0) 8 = (v_109 : Int32).toInt := by rw [e_104]; rfl
  have fe_14326 : fld (f_93 a_0) 12 = (v_116 : Int32).toInt := by rw [e_104]; rfl
  rw [fe_14325, fe_14326] at gb_14324
  exact lp_10731 700 f_93 hW_98 FR.rf ⟨_, hf_103, ok_85, wc_90, (by simp only [fe_14319, fe_14320, fe_14321, fe_14322]; by_cases q9 : (v_116 : Int32).toInt = 0; have gz_14323 := x_97.symm.trans q9; (right; omega); exact .inl q9)⟩ (by omega)
