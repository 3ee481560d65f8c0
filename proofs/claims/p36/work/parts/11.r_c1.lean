set_option maxRecDepth 100000 in
set_option maxHeartbeats 8000000 in
theorem p_X12_isFree {l : Launch} {E : Ez} {L : List Nat} {f : Nat → va_E} {T : Nat → va_E → Prop} {a_0 : Nat} {a_1 : Int32} {q : Nat → Nat} {g_w : Nat → Int32} (hW : WT T L f) (k_0 : isM T L E a_0 q) (g_1 : (0 ≤ a_1.toInt)) (e_w : f (q 1) = aI E 2076 g_w) (o_w : WOK g_w) (hpt : 1 ≤ (g_w 0).toInt) : CI l yX12_isFree cX12_isFree 2 .boolean 2 0 0 E [.ref a_0, .int a_1] L f (fun r L1 f1 => L = L1 ∧ f = f1 ∧ (0 ≤ r.toInt ∧ r.toInt ≤ 1)) := by
  refine ci_of (by decide) (Nat.le_of_ble_eq_true rfl) (fun z hz hnm hC hR => ?_)
  have hC : Cx z E cX12_isFree RX12 2 2 0 0 := hC
  subst hz
  show V z E 2 0 0 L f 0 [(0, .ref a_0), (1, .int a_1)] []
  obtain ⟨m_1, t_2, nq_21, k_3, k_4, k_5, k_6, k_7, k_8, k_9, k_10, k_11, k_12, k_13, k_14, k_15, k_16, k_17, k_18, k_19, k_20⟩ := id k_0
  obtain ⟨m_22, t_23⟩ := id k_3
  have b_24 := o_w.r0
  have b_25 := o_w.w0
  refine v_aload_n hC dX12_isFree_0 rfl ?_
  refine v_iload_n hC dX12_isFree_1 rfl ?_
  obtain ⟨v_27, v_28, v_30, v_32, v_34, v_36, v_38, v_39, v_40, v_41, v_43, e_26, b_29, b_31, b_33, b_35, b_37, b_42, b_44⟩ := hW.at m_1 t_2
  refine v_vi hC (rest := []) m_1 e_26 rfl mi_X12_sortOf ms_X12_sortOf (p_X12_sortOf hW k_0 (by first | omega | (simp only [Int32.lt_iff_toInt_lt, Int32.le_iff_toInt_le, Int32.reduceToInt, ← Int32.toInt_inj, true_and, and_true, or_true, true_or, false_or, or_false, false_and, and_false, not_true_eq_false, not_false_eq_true] <;> omega)) e_w o_w (by first | omega | (simp only [Int32.lt_iff_toInt_lt, Int32.le_iff_toInt_le, Int32.reduceToInt, ← Int32.toInt_inj, true_and, and_true, or_true, true_or, false_or, or_false, false_and, and_false, not_true_eq_false, not_false_eq_true] <;> omega))) mx_X12_sortOf ml_X12_98 (by decide) rfl (cells1 := 0) (slots1 := 0) (by decide) (by decide) (Nat.le_of_ble_eq_true rfl) (Nat.le_of_ble_eq_true rfl) rfl (Nat.le_of_ble_eq_true rfl) dX12_isFree_2 (fun r_45 L_46 f_47 h_48 => ?_)
  obtain ⟨rfl, rfl, b_49⟩ := h_48
  refine v_iconst hC dX12_isFree_5 (v := 1) (by decide) ?_
  refine v_icmp_le hC dX12_isFree_6 (tgt := 13) (by decide) (fun h_52 => ?_) (fun h_52 => ?_)
  · simp only [Int32.lt_iff_toInt_lt, Int32.le_iff_toInt_le, Int32.reduceToInt, ← Int32.toInt_inj] at h_52
    refine v_iconst hC dX12_isFree_13 (v := 0) (by decide) ?_
    exact hR _ _ _ _ _ _ _ dX12_isFree_14 rfl (Nat.le_of_ble_eq_true rfl) (Nat.le_of_ble_eq_true rfl) ⟨rfl, rfl, (by decide)⟩
  · simp only [Int32.lt_iff_toInt_lt, Int32.le_iff_toInt_le, Int32.reduceToInt, ← Int32.toInt_inj] at h_52
    refine v_iconst hC dX12_isFree_9 (v := 1) (by decide) ?_
    refine v_goto hC dX12_isFree_10 (tgt := 14) (by decide) ?_
    exact hR _ _ _ _ _ _ _ dX12_isFree_14 rfl (Nat.le_of_ble_eq_true rfl) (Nat.le_of_ble_eq_true rfl) ⟨rfl, rfl, (by decide)⟩
set_option maxRecDepth 100000 in
set_option maxHeartbeats 8000000 in
theorem p_X12_frees {l : Launch} {E : Ez} {L : List Nat} {f : Nat → va_E} {T : Nat → va_E → Prop} {a_0 : Nat} {q : Nat → Nat} {g_w : Nat → Int32} (hW : WT T L f) (k_0 : isM T L E a_0 q) (e_w : f (q 1) = aI E 2076 g_w) (o_w : WOK g_w) : CI l yX12_frees cX12_frees 3 .int 3 0 0 E [.ref a_0] L f (fun r L1 f1 => L = L1 ∧ f = f1) := by
  refine ci_of (by decide) (Nat.le_of_ble_eq_true rfl) (fun z hz hnm hC hR => ?_)
  have hC : Cx z E cX12_frees RX12 3 3 0 0 := hC
  subst hz
  show V z E 3 0 0 L f 0 [(0, .ref a_0)] []
  obtain ⟨m_1, t_2, nq_21, k_3, k_4, k_5, k_6, k_7, k_8, k_9, k_10, k_11, k_12, k_13, k_14, k_15, k_16, k_17, k_18, k_19, k_20⟩ := id k_0
  obtain ⟨m_22, t_23⟩ := id k_3
  have b_24 := o_w.r0
  have b_25 := o_w.w0
  refine v_iconst hC dX12_frees_0 (v := 0) (by decide) ?_
  refine v_istore_n hC dX12_frees_1 (by decide) (lv' := [(1, .int 0), (0, .ref a_0)]) rfl ?_
  refine v_iconst hC dX12_frees_2 (v := 0) (by decide) ?_
  refine v_istore_n hC dX12_frees_3 (by decide) (lv' := [(2, .int 0), (1, .int 0), (0, .ref a_0)]) rfl ?_
  have lp_500 : ∀ (n_501 : Nat) (i_497 : Int32) (b_499 : (0 ≤ i_497.toInt ∧ i_497.toInt ≤ 256)) (i_498 : Int32) (hm_503 : 256 - i_497.toInt < (n_501 : Int)), V z E 3 0 0 L f 4 [(2, .int i_497), (1, .int i_498), (0, .ref a_0)] [] := by
    intro n_501
    induction n_501 with
    | zero =>
      intro i_497 b_499 i_498 hm_503
      exfalso; omega
    | succ n_501 ih_502 =>
      intro i_497 b_499 i_498 hm_503
      refine v_iload_n hC dX12_frees_4 rfl ?_
      refine v_aload_n hC dX12_frees_5 rfl ?_
      obtain ⟨v_505, v_506, v_508, v_510, v_512, v_514, v_516, v_517, v_518, v_519, v_521, e_504, b_507, b_509, b_511, b_513, b_515, b_520, b_522⟩ := hW.at m_1 t_2
      refine v_vi hC (rest := [.int i_497]) m_1 e_504 rfl mi_X12_area ms_X12_area (p_X12_area hW k_0 e_w o_w) mx_X12_area ml_X12_203 (by decide) rfl (cells1 := 0) (slots1 := 0) (by decide) (by decide) (Nat.le_of_ble_eq_true rfl) (Nat.le_of_ble_eq_true rfl) rfl (Nat.le_of_ble_eq_true rfl) dX12_frees_6 (fun r_523 L_524 f_525 h_526 => ?_)
      obtain ⟨rfl, rfl, rfl⟩ := h_526
      have ar_529 := area_v o_w
      refine v_icmp_ge hC dX12_frees_9 (tgt := 34) (by decide) (fun h_530 => ?_) (fun h_530 => ?_)
      · simp only [Int32.lt_iff_toInt_lt, Int32.le_iff_toInt_le, Int32.reduceToInt, ← Int32.toInt_inj] at h_530
        refine v_iload_n hC dX12_frees_34 rfl ?_
        exact hR _ _ _ _ _ _ _ dX12_frees_35 rfl (Nat.le_of_ble_eq_true rfl) (Nat.le_of_ble_eq_true rfl) ⟨rfl, rfl⟩
      · simp only [Int32.lt_iff_toInt_lt, Int32.le_iff_toInt_le, Int32.reduceToInt, ← Int32.toInt_inj] at h_530
        refine v_iload_n hC dX12_frees_12 rfl ?_
        refine v_aload_n hC dX12_frees_13 rfl ?_
        refine v_iload_n hC dX12_frees_14 rfl ?_
        refine v_vi hC (rest := [.int i_498]) m_1 e_504 rfl mi_X12_isFree ms_X12_isFree (p_X12_isFree hW k_0 (by first | omega | (simp only [Int32.lt_iff_toInt_lt, Int32.le_iff_toInt_le, Int32.reduceToInt, ← Int32.toInt_inj, true_and, and_true, or_true, true_or, false_or, or_false, false_and, and_false, not_true_eq_false, not_false_eq_true] <;> omega)) e_w o_w (by first | omega | (simp only [Int32.lt_iff_toInt_lt, Int32.le_iff_toInt_le, Int32.reduceToInt, ← Int32.toInt_inj, true_and, and_true, or_true, true_or, false_or, or_false, false_and, and_false, not_true_eq_false, not_false_eq_true] <;> omega))) mx_X12_isFree ml_X12_206 (by decide) rfl (cells1 := 0) (slots1 := 0) (by decide) (by decide) (Nat.le_of_ble_eq_true rfl) (Nat.le_of_ble_eq_true rfl) rfl (Nat.le_of_ble_eq_true rfl) dX12_frees_15 (fun r_531 L_532 f_533 h_534 => ?_)
        obtain ⟨rfl, rfl, b_535⟩ := h_534
        refine v_if_eq hC dX12_frees_18 (tgt := 25) (by decide) (fun h_538 => ?_) (fun h_538 => ?_)
        · simp only [Int32.lt_iff_toInt_lt, Int32.le_iff_toInt_le, Int32.reduceToInt, ← Int32.toInt_inj] at h_538
          refine v_iconst hC dX12_frees_25 (v := 0) (by decide) ?_
          obtain ⟨v_539, h_540⟩ : ∃ v9 : Int32, i_498 + 0 = v9 := ⟨_, rfl⟩
          refine v_iadd hC dX12_frees_26 h_540 ?_
          have rg_542 := Int32.toInt_lt i_498
          have rg_543 := Int32.le_toInt i_498
          have h_541 := add_v h_540 (by first | omega | (simp only [Int32.lt_iff_toInt_lt, Int32.le_iff_toInt_le, Int32.reduceToInt, ← Int32.toInt_inj, true_and, and_true, or_true, true_or, false_or, or_false, false_and, and_false, not_true_eq_false, not_false_eq_true] <;> omega)) (by first | omega | (simp only [Int32.lt_iff_toInt_lt, Int32.le_iff_toInt_le, Int32.reduceToInt, ← Int32.toInt_inj, true_and, and_true, or_true, true_or, false_or, or_false, false_and, and_false, not_true_eq_false, not_false_eq_true] <;> omega))
          try simp only [Int32.reduceToInt] at h_541
          refine v_istore_n hC dX12_frees_27 (by decide) (lv' := [(1, .int v_539), (2, .int i_497), (0, .ref a_0)]) rfl ?_
          obtain ⟨v_544, h_545⟩ : ∃ v9 : Int32, i_497 + Int32.ofInt 1 = v9 := ⟨_, rfl⟩
          have h_546 := add_v (b := 1) h_545 (by first | omega | (simp only [Int32.lt_iff_toInt_lt, Int32.le_iff_toInt_le, Int32.reduceToInt, ← Int32.toInt_inj, true_and, and_true, or_true, true_or, false_or, or_false, false_and, and_false, not_true_eq_false, not_false_eq_true] <;> omega)) (by first | omega | (simp only [Int32.lt_iff_toInt_lt, Int32.le_iff_toInt_le, Int32.reduceToInt, ← Int32.toInt_inj, true_and, and_true, or_true, true_or, false_or, or_false, false_and, and_false, not_true_eq_false, not_false_eq_true] <;> omega))
          simp only [Int32.reduceToInt] at h_546
          refine v_iinc hC dX12_frees_28 (k := 1) rfl (v := v_544) h_545 (by decide) (lv' := [(2, .int v_544), (1, .int v_539), (0, .ref a_0)]) rfl ?_
          refine v_goto hC dX12_frees_31 (tgt := 4) (by decide) ?_
          refine v_pick [0, 1, 2] rfl ?_
          exact ih_502 v_544 (by first | omega | (simp only [Int32.lt_iff_toInt_lt, Int32.le_iff_toInt_le, Int32.reduceToInt, ← Int32.toInt_inj, true_and, and_true, or_true, true_or, false_or, or_false, false_and, and_false, not_true_eq_false, not_false_eq_true] <;> omega)) v_539 (by first | omega | (simp only [Int32.lt_iff_toInt_lt, Int32.le_iff_toInt_le, Int32.reduceToInt, ← Int32.toInt_inj, true_and, and_true, or_true, true_or, false_or, or_false, false_and, and_false, not_true_eq_false, not_false_eq_true] <;> omega))
        · simp only [Int32.lt_iff_toInt_lt, Int32.le_iff_toInt_le, Int32.reduceToInt, ← Int32.toInt_inj] at h_538
          refine v_iconst hC dX12_frees_21 (v := 1) (by decide) ?_
          refine v_goto hC dX12_frees_22 (tgt := 26) (by decide) ?_
          obtain ⟨v_547, h_548⟩ : ∃ v9 : Int32, i_498 + 1 = v9 := ⟨_, rfl⟩
          refine v_iadd hC dX12_frees_26 h_548 ?_
          refine v_istore_n hC dX12_frees_27 (by decide) (lv' := [(1, .int v_547), (2, .int i_497), (0, .ref a_0)]) rfl ?_
          obtain ⟨v_550, h_551⟩ : ∃ v9 : Int32, i_497 + Int32.ofInt 1 = v9 := ⟨_, rfl⟩
          have h_552 := add_v (b := 1) h_551 (by first | omega | (simp only [Int32.lt_iff_toInt_lt, Int32.le_iff_toInt_le, Int32.reduceToInt, ← Int32.toInt_inj, true_and, and_true, or_true, true_or, false_or, or_false, false_and, and_false, not_true_eq_false, not_false_eq_true] <;> omega)) (by first | omega | (simp only [Int32.lt_iff_toInt_lt, Int32.le_iff_toInt_le, Int32.reduceToInt, ← Int32.toInt_inj, true_and, and_true, or_true, true_or, false_or, or_false, false_and, and_false, not_true_eq_false, not_false_eq_true] <;> omega))
          simp only [Int32.reduceToInt] at h_552
          refine v_iinc hC dX12_frees_28 (k := 1) rfl (v := v_550) h_551 (by decide) (lv' := [(2, .int v_550), (1, .int v_547), (0, .ref a_0)]) rfl ?_
          refine v_goto hC dX12_frees_31 (tgt := 4) (by decide) ?_
          refine v_pick [0, 1, 2] rfl ?_
          exact ih_502 v_550 (by first | omega | (simp only [Int32.lt_iff_toInt_lt, Int32.le_iff_toInt_le, Int32.reduceToInt, ← Int32.toInt_inj, true_and, and_true, or_true, true_or, false_or, or_false, false_and, and_false, not_true_eq_false, not_false_eq_true] <;> omega)) v_547 (by first | omega | (simp only [Int32.lt_iff_toInt_lt, Int32.le_iff_toInt_le, Int32.reduceToInt, ← Int32.toInt_inj, true_and, and_true, or_true, true_or, false_or, or_false, false_and, and_false, not_true_eq_false, not_false_eq_true] <;> omega))
  refine v_pick [0, 1, 2] rfl ?_
  exact lp_500 258 0 (by decide) 0 (by decide)
set_option maxRecDepth 100000 in
set_option maxHeartbeats 8000000 in
theorem p_X12_pattern {l : Launch} {E : Ez} {L : List Nat} {f : Nat → va_E} {T : Nat → va_E → Prop} {a_0 : Nat} {q : Nat → Nat} (hW : WT T L f) (k_0 : isM T L E a_0 q) : CI l yX12_pattern cX12_pattern 2 .int 8 0 0 E [.ref a_0] L f (fun r L1 f1 => L = L1 ∧ WT T L f1 ∧ FR [12, 2176] f f1) := by
  refine ci_of (by decide) (Nat.le_of_ble_eq_true rfl) (fun z hz hnm hC hR => ?_)
  have hC : Cx z E cX12_pattern RX12 2 8 0 0 := hC
  subst hz
  show V z E 2 0 0 L f 0 [(0, .ref a_0)] []
  obtain ⟨m_1, t_2, nq_21, k_3, k_4, k_5, k_6, k_7, k_8, k_9, k_10, k_11, k_12, k_13, k_14, k_15, k_16, k_17, k_18, k_19, k_20⟩ := id k_0
  refine v_aload_n hC dX12_pattern_0 rfl ?_
  obtain ⟨v_23, v_24, v_26, v_28, v_30, v_32, v_34, v_35, v_36, v_37, v_39, e_22, b_25, b_27, b_29, b_31, b_33, b_38, b_40⟩ := hW.at m_1 t_2
  refine v_vv hC (rest := []) m_1 e_22 rfl mi_X12_begin ms_X12_begin (p_X12_begin hW k_0) mx_X12_begin ml_X12_181 (by decide) rfl (cells1 := 0) (slots1 := 0) (by decide) (by decide) (Nat.le_of_ble_eq_true rfl) (Nat.le_of_ble_eq_true rfl) rfl (Nat.le_of_ble_eq_true rfl) dX12_pattern_1 (fun L_42 f_43 h_44 => ?_)
  obtain ⟨rfl, hW_48, hF_49, x_45, x_46, x_47⟩ := h_44
  have fe_50 : fld (f a_0) 20 = (v_39 : Int32).toInt := by rw [e_22]; rfl
  obtain ⟨v_52, v_53, v_55, v_57, v_59, v_61, v_63, v_64, v_65, v_66, v_68, e_51, b_54, b_56, b_58, b_60, b_62, b_67, b_69⟩ := hW_48.at m_1 t_2
  have fe_70 : fld (f_43 a_0) 8 = (v_57 : Int32).toInt := by rw [e_51]; rfl
  have fe_71 : fld (f_43 a_0) 12 = (v_64 : Int32).toInt := by rw [e_51]; rfl
  have fe_72 : fld (f_43 a_0) 20 = (v_68 : Int32).toInt := by rw [e_51]; rfl
  rw [fe_71] at x_45
  rw [fe_70] at x_46
  rw [fe_72, fe_50] at x_47
  clear fe_50 fe_70 fe_71 fe_72
  refine v_aload_n hC dX12_pattern_4 rfl ?_
  refine v_iconst hC dX12_pattern_5 (v := 0) (by decide) ?_
  refine v_bipush hC dX12_pattern_6 (v := 120) (by decide) ?_
  obtain ⟨m_73, t_74⟩ := id k_3
  obtain ⟨g_76, e_75, ok_77⟩ := hW_48.at m_73 t_74
  have b_78 := ok_77.r0
  have b_79 := ok_77.w0
  obtain ⟨m_80, t_81⟩ := id k_8
  obtain ⟨g_83, e_82, ok_84⟩ := hW_48.at m_80 t_81
  refine v_vv hC (rest := []) m_1 e_51 rfl mi_X12_clears ms_X12_clears (p_X12_clears k_0 e_51 e_82 (by decide)) mx_X12_clears ml_X12_184 (by decide) rfl (cells1 := 0) (slots1 := 0) (by decide) (by decide) (Nat.le_of_ble_eq_true rfl) (Nat.le_of_ble_eq_true rfl) rfl (Nat.le_of_ble_eq_true rfl) dX12_pattern_8 (fun L_86 f_87 h_88 => ?_)
  obtain ⟨rfl, hf_89, hk_90⟩ := h_88
  have hf_91 := (hk_90 a_0 (ne_kd e_51 e_82 rfl)).trans e_51
  have hf_92 := (hk_90 (q 1) nq_21).trans e_75
  obtain ⟨g_95, e_96, ok_94, eg_97⟩ : ∃ g9, f_87 (q 14) = aI E 2076 g9 ∧ FOK g9 ∧ g9 = (va_cpy (fun _ => 0) g_83 (0 : Int32).toNatClampNeg (0 : Int32).toNatClampNeg ((120 : Int32).toNatClampNeg - (0 : Int32).toNatClampNeg)) := ⟨_, hf_89, (ok_84.clr _ _), rfl⟩
  have hW_93 := hW_48.up e_96 hk_90 t_81 ⟨_, rfl, ok_94⟩
  have fr_98 := FR.w hk_90 e_82 (k := 2176) rfl
  have gz_99 : g_95 2 = 0 := by rw [eg_97]; rfl
  refine v_aload_n hC dX12_pattern_11 rfl ?_
  refine v_vv hC (rest := []) m_1 hf_91 rfl mi_X12_advance ms_X12_advance (p_X12_advance hW_93 k_0) mx_X12_advance ml_X12_156 (by decide) rfl (cells1 := 0) (slots1 := 0) (by decide) (by decide) (Nat.le_of_ble_eq_true rfl) (Nat.le_of_ble_eq_true rfl) rfl (Nat.le_of_ble_eq_true rfl) dX12_pattern_12 (fun L_101 f_102 h_103 => ?_)
  obtain ⟨rfl, hW_108, hF_109, x_104, x_105, x_106, x_107⟩ := h_103
  have fe_110 : fld (f_87 a_0) 8 = (v_57 : Int32).toInt := by rw [hf_91]; rfl
  have fe_111 : fld (f_87 a_0) 12 = (v_64 : Int32).toInt := by rw [hf_91]; rfl
  have fe_112 : fld (f_87 a_0) 20 = (v_68 : Int32).toInt := by rw [hf_91]; rfl
  have hf_113 := hF_109.at hf_92 rfl
  have hf_114 := hF_109.at e_96 rfl
  obtain ⟨v_116, v_117, v_119, v_121, v_123, v_125, v_127, v_128, v_129, v_130, v_132, e_115, b_118, b_120, b_122, b_124, b_126, b_131, b_133⟩ := hW_108.at m_1 t_2
  have fe_134 : fld (f_102 a_0) 8 = (v_121 : Int32).toInt := by rw [e_115]; rfl
  have fe_135 : fld (f_102 a_0) 9 = (v_123 : Int32).toInt := by rw [e_115]; rfl
  have fe_136 : fld (f_102 a_0) 10 = (v_125 : Int32).toInt := by rw [e_115]; rfl
  have fe_137 : fld (f_102 a_0) 12 = (v_128 : Int32).toInt := by rw [e_115]; rfl
  have fe_138 : fld (f_102 a_0) 20 = (v_132 : Int32).toInt := by rw [e_115]; rfl
  rw [fe_110, fe_135, fe_134] at x_104
  rw [fe_136, fe_135, fe_134] at x_105
  rw [fe_137, fe_111] at x_106
  rw [fe_138, fe_112] at x_107
  clear fe_110 fe_111 fe_112 fe_134 fe_135 fe_136 fe_137 fe_138
  refine v_aload_n hC dX12_pattern_15 rfl ?_
  refine v_get hC fl_X12_34 m_1 e_115 rfl dX12_pattern_16 ?_
  refine v_iconst hC dX12_pattern_19 (v := 1) (by decide) ?_
  refine v_aload_n hC dX12_pattern_20 rfl ?_
  refine v_ldcS hC sr_X12_188 dX12_pattern_21 ?_
  refine v_iconst hC dX12_pattern_23 (v := 1) (by decide) ?_
  refine v_bipush hC dX12_pattern_24 (v := 16) (by decide) ?_
  refine v_vi hC (rest := [.int 1, .ref (q 14)]) m_1 e_115 rfl mi_X12_told ms_X12_told (p_X12_told hW_108 k_0 (by decide)) mx_X12_told ml_X12_189 (by decide) rfl (cells1 := 0) (slots1 := 0) (by decide) (by decide) (Nat.le_of_ble_eq_true rfl) (Nat.le_of_ble_eq_true rfl) rfl (Nat.le_of_ble_eq_true rfl) dX12_pattern_26 (fun r_139 L_140 f_141 h_142 => ?_)
  obtain ⟨rfl, hW_148, hF_149, x_143, x_144, x_145, x_146, x_147, -⟩ := h_142
  have fe_150 : fld (f_102 a_0) 8 = (v_121 : Int32).toInt := by rw [e_115]; rfl
  have fe_151 : fld (f_102 a_0) 9 = (v_123 : Int32).toInt := by rw [e_115]; rfl
  have fe_152 : fld (f_102 a_0) 10 = (v_125 : Int32).toInt := by rw [e_115]; rfl
  have fe_153 : fld (f_102 a_0) 12 = (v_128 : Int32).toInt := by rw [e_115]; rfl
  have fe_154 : fld (f_102 a_0) 20 = (v_132 : Int32).toInt := by rw [e_115]; rfl
  have ib_155 := iw_b (f_102 a_0) (f_102 (q 4)) 40
  have ln_156 : ((bytStr.getD 40 []).length : Int) = 4 := by rfl
  rw [fe_153, fe_152, fe_150, fe_151] at ib_155
  have hf_157 := hF_149.at hf_113 rfl
  have hf_158 := hF_149.at hf_114 rfl
  obtain ⟨v_160, v_161, v_163, v_165, v_167, v_169, v_171, v_172, v_173, v_174, v_176, e_159, b_162, b_164, b_166, b_168, b_170, b_175, b_177⟩ := hW_148.at m_1 t_2
  have fe_178 : fld (f_141 a_0) 8 = (v_165 : Int32).toInt := by rw [e_159]; rfl
  have fe_179 : fld (f_141 a_0) 9 = (v_167 : Int32).toInt := by rw [e_159]; rfl
  have fe_180 : fld (f_141 a_0) 10 = (v_169 : Int32).toInt := by rw [e_159]; rfl
  have fe_181 : fld (f_141 a_0) 12 = (v_172 : Int32).toInt := by rw [e_159]; rfl
  have fe_182 : fld (f_141 a_0) 20 = (v_176 : Int32).toInt := by rw [e_159]; rfl
  rw [fe_181, fe_153] at x_143
  rw [fe_181, fe_150, fe_179, fe_178] at x_144
  rw [fe_181, fe_180, fe_179, fe_178] at x_145
  rw [fe_181] at x_146
  rw [fe_182, fe_154] at x_147
  clear fe_150 fe_151 fe_152 fe_153 fe_154 fe_178 fe_179 fe_180 fe_181 fe_182
  try simp only [Int32.reduceToInt, Int64.reduceToInt] at x_143
  try simp only [Int32.reduceToInt, Int64.reduceToInt] at x_144
  try simp only [Int32.reduceToInt, Int64.reduceToInt] at x_145
  try simp only [Int32.reduceToInt, Int64.reduceToInt] at x_146
  try simp only [Int32.reduceToInt, Int64.reduceToInt] at x_147
  refine v_iast hC m_80 hf_158 (vp_in_iff.mpr (by decide)) dX12_pattern_29 (fun f_183 hf_184 hk_185 => ?_)
  have hW_187 := hW_148.up hf_184 hk_185 t_81 ⟨_, rfl, (ok_94.up (i := 1) (by decide) (fun q1 q2 => absurd (And.intro q1 q2) (by decide)) (fun k9 q1 q2 q3 => by simp only [Int32.reduceToInt] at q3; omega))⟩
  obtain ⟨g_186, hf_184, ok_188, eg_189⟩ : ∃ g9, f_183 (q 14) = aI E 2076 g9 ∧ FOK g9 ∧ g9 = upd g_95 (1 : Int32).toNatClampNeg r_139 := ⟨_, hf_184, (ok_94.up (i := 1) (by decide) (fun q1 q2 => absurd (And.intro q1 q2) (by decide)) (fun k9 q1 q2 q3 => by simp only [Int32.reduceToInt] at q3; omega)), rfl⟩
  have hf_190 := (hk_185 a_0 (ne_kd e_159 hf_158 rfl)).trans e_159
  have fr_191 := FR.w hk_185 hf_158 (k := 2176) rfl
  have gz_192 : g_186 2 = 0 := by rw [eg_189]; exact gz_99
  have co_193 : g_186 1 = r_139 := by rw [eg_189]; rfl
  refine v_aload_n hC dX12_pattern_30 rfl ?_
  refine v_get hC fl_X12_34 m_1 hf_190 rfl dX12_pattern_31 ?_
  refine v_iconst hC dX12_pattern_34 (v := 0) (by decide) ?_
  refine v_aload_n hC dX12_pattern_35 rfl ?_
  refine v_ldcS hC sr_X12_193 dX12_pattern_36 ?_
  refine v_iconst hC dX12_pattern_38 (v := 1) (by decide) ?_
  refine v_bipush hC dX12_pattern_39 (v := 16) (by decide) ?_
  refine v_vi hC (rest := [.int 0, .ref (q 14)]) m_1 hf_190 rfl mi_X12_told ms_X12_told (p_X12_told hW_187 k_0 (by decide)) mx_X12_told ml_X12_189 (by decide) rfl (cells1 := 0) (slots1 := 0) (by decide) (by decide) (Nat.le_of_ble_eq_true rfl) (Nat.le_of_ble_eq_true rfl) rfl (Nat.le_of_ble_eq_true rfl) dX12_pattern_41 (fun r_194 L_195 f_196 h_197 => ?_)
  obtain ⟨rfl, hW_203, hF_204, x_198, x_199, x_200, x_201, x_202, -⟩ := h_197
  have fe_205 : fld (f_183 a_0) 8 = (v_165 : Int32).toInt := by rw [hf_190]; rfl
  have fe_206 : fld (f_183 a_0) 9 = (v_167 : Int32).toInt := by rw [hf_190]; rfl
  have fe_207 : fld (f_183 a_0) 10 = (v_169 : Int32).toInt := by rw [hf_190]; rfl
  have fe_208 : fld (f_183 a_0) 12 = (v_172 : Int32).toInt := by rw [hf_190]; rfl
  have fe_209 : fld (f_183 a_0) 20 = (v_176 : Int32).toInt := by rw [hf_190]; rfl
  have ib_210 := iw_b (f_183 a_0) (f_183 (q 4)) 41
  have ln_211 : ((bytStr.getD 41 []).length : Int) = 4 := by rfl
  rw [fe_208, fe_207, fe_205, fe_206] at ib_210
  have hf_212 := hF_204.at hf_184 rfl
  obtain ⟨v_214, v_215, v_217, v_219, v_221, v_223, v_225, v_226, v_227, v_228, v_230, e_213, b_216, b_218, b_220, b_222, b_224, b_229, b_231⟩ := hW_203.at m_1 t_2
  have fe_232 : fld (f_196 a_0) 8 = (v_219 : Int32).toInt := by rw [e_213]; rfl
  have fe_233 : fld (f_196 a_0) 9 = (v_221 : Int32).toInt := by rw [e_213]; rfl
  have fe_234 : fld (f_196 a_0) 10 = (v_223 : Int32).toInt := by rw [e_213]; rfl
  have fe_235 : fld (f_196 a_0) 12 = (v_226 : Int32).toInt := by rw [e_213]; rfl
  have fe_236 : fld (f_196 a_0) 20 = (v_230 : Int32).toInt := by rw [e_213]; rfl
  rw [fe_235, fe_208] at x_198
  rw [fe_235, fe_205, fe_233, fe_232] at x_199
  rw [fe_235, fe_234, fe_233, fe_232] at x_200
  rw [fe_235] at x_201
  rw [fe_236, fe_209] at x_202
  clear fe_205 fe_206 fe_207 fe_208 fe_209 fe_232 fe_233 fe_234 fe_235 fe_236
  try simp only [Int32.reduceToInt, Int64.reduceToInt] at x_198
  try simp only [Int32.reduceToInt, Int64.reduceToInt] at x_199
  try simp only [Int32.reduceToInt, Int64.reduceToInt] at x_200
  try simp only [Int32.reduceToInt, Int64.reduceToInt] at x_201
  try simp only [Int32.reduceToInt, Int64.reduceToInt] at x_202
  refine v_iast hC m_80 hf_212 (vp_in_iff.mpr (by decide)) dX12_pattern_44 (fun f_237 hf_238 hk_239 => ?_)
  have hW_241 := hW_203.up hf_238 hk_239 t_81 ⟨_, rfl, (ok_188.up (i := 0) (by decide) (fun q1 q2 => absurd (And.intro q1 q2) (by decide)) (fun k9 q1 q2 q3 => by simp only [Int32.reduceToInt] at q3; omega))⟩
  obtain ⟨g_240, hf_238, ok_242, eg_243⟩ : ∃ g9, f_237 (q 14) = aI E 2076 g9 ∧ FOK g9 ∧ g9 = upd g_186 (0 : Int32).toNatClampNeg r_194 := ⟨_, hf_238, (ok_188.up (i := 0) (by decide) (fun q1 q2 => absurd (And.intro q1 q2) (by decide)) (fun k9 q1 q2 q3 => by simp only [Int32.reduceToInt] at q3; omega)), rfl⟩
  have hf_244 := (hk_239 a_0 (ne_kd e_213 hf_212 rfl)).trans e_213
  have fr_245 := FR.w hk_239 hf_212 (k := 2176) rfl
  have gz_246 : g_240 2 = 0 := by rw [eg_243]; exact gz_192
  have cz_247 : g_240 0 = r_194 := by rw [eg_243]; rfl
  have co_248 : g_240 1 = r_139 := by rw [eg_243]; exact co_193
  refine v_aload_n hC dX12_pattern_45 rfl ?_
  refine v_vv hC (rest := []) m_1 hf_244 rfl mi_X12_ends ms_X12_ends (p_X12_ends hW_241 k_0) mx_X12_ends ml_X12_178 (by decide) rfl (cells1 := 0) (slots1 := 0) (by decide) (by decide) (Nat.le_of_ble_eq_true rfl) (Nat.le_of_ble_eq_true rfl) rfl (Nat.le_of_ble_eq_true rfl) dX12_pattern_46 (fun L_250 f_251 h_252 => ?_)
  obtain ⟨rfl, hW_257, hF_258, x_253, x_254, x_255, x_256, -⟩ := h_252
  have fe_259 : fld (f_237 a_0) 8 = (v_219 : Int32).toInt := by rw [hf_244]; rfl
  have fe_260 : fld (f_237 a_0) 10 = (v_223 : Int32).toInt := by rw [hf_244]; rfl
  have fe_261 : fld (f_237 a_0) 12 = (v_226 : Int32).toInt := by rw [hf_244]; rfl
  have fe_262 : fld (f_237 a_0) 20 = (v_230 : Int32).toInt := by rw [hf_244]; rfl
  have hf_263 := hF_258.at hf_238 rfl
  obtain ⟨v_265, v_266, v_268, v_270, v_272, v_274, v_276, v_277, v_278, v_279, v_281, e_264, b_267, b_269, b_271, b_273, b_275, b_280, b_282⟩ := hW_257.at m_1 t_2
  have fe_283 : fld (f_251 a_0) 8 = (v_270 : Int32).toInt := by rw [e_264]; rfl
  have fe_284 : fld (f_251 a_0) 9 = (v_272 : Int32).toInt := by rw [e_264]; rfl
  have fe_285 : fld (f_251 a_0) 10 = (v_274 : Int32).toInt := by rw [e_264]; rfl
  have fe_286 : fld (f_251 a_0) 12 = (v_277 : Int32).toInt := by rw [e_264]; rfl
  have fe_287 : fld (f_251 a_0) 20 = (v_281 : Int32).toInt := by rw [e_264]; rfl
  rw [fe_286, fe_261] at x_253
  rw [fe_286, fe_260, fe_259, fe_284, fe_283] at x_254
  rw [fe_286, fe_285, fe_284, fe_283] at x_255
  rw [fe_287, fe_262] at x_256
  clear fe_259 fe_260 fe_261 fe_262 fe_283 fe_284 fe_285 fe_286 fe_287
  have lp_1008 : ∀ (n_1009 : Nat) (f_1003 : Nat → va_E) (hW_1004 : WT T L f_1003) (hF_1005 : FR [12, 2176] f_251 f_1003)  (nv_1007 : (¬ fld (f_1003 a_0) 12 = 0 ∨ (1 ≤ r_194.toInt ∧ r_194.toInt ≤ 16 ∧ 1 ≤ r_139.toInt ∧ r_139.toInt ≤ 16))) (cv_1006 : ∃ g9 : Nat → Int32, (f_1003 (q 14)) = aI E 2076 g9 ∧ FOK g9 ∧ PR g9 ∧ g9 0 = r_194 ∧ g9 1 = r_139) (hm_1011 : 600 - fld (f_1003 a_0) 8 < (n_1009 : Int)), V z E 2 0 0 L f_1003 49 [(0, .ref a_0)] [] := by
    intro n_1009
    induction n_1009 with
    | zero =>
      intro f_1003 hW_1004 hF_1005 nv_1007 cv_1006 hm_1011
      obtain ⟨v_1013, v_1014, v_1016, v_1018, v_1020, v_1022, v_1024, v_1025, v_1026, v_1027, v_1029, e_1012, b_1015, b_1017, b_1019, b_1021, b_1023, b_1028, b_1030⟩ := hW_1004.at m_1 t_2
      have fe_1031 : fld (f_1003 a_0) 12 = (v_1025 : Int32).toInt := by rw [e_1012]; rfl
      rw [fe_1031] at nv_1007
      obtain ⟨g_1032, e_1033, ok_1034, pr_1035, cz_1036, co_1037⟩ := cv_1006
      have h_1038 : fld (f_1003 a_0) 8 = (v_1018 : Int32).toInt := by rw [e_1012]; rfl
      rw [h_1038] at hm_1011
      exfalso; omega
    | succ n_1009 ih_1010 =>
      intro f_1003 hW_1004 hF_1005 nv_1007 cv_1006 hm_1011
      obtain ⟨v_1013, v_1014, v_1016, v_1018, v_1020, v_1022, v_1024, v_1025, v_1026, v_1027, v_1029, e_1012, b_1015, b_1017, b_1019, b_1021, b_1023, b_1028, b_1030⟩ := hW_1004.at m_1 t_2
      have fe_1031 : fld (f_1003 a_0) 12 = (v_1025 : Int32).toInt := by rw [e_1012]; rfl
      rw [fe_1031] at nv_1007
      obtain ⟨g_1032, e_1033, ok_1034, pr_1035, cz_1036, co_1037⟩ := cv_1006
      have h_1038 : fld (f_1003 a_0) 8 = (v_1018 : Int32).toInt := by rw [e_1012]; rfl
      rw [h_1038] at hm_1011
      refine v_aload_n hC dX12_pattern_49 rfl ?_
      refine v_vv hC (rest := []) m_1 e_1012 rfl mi_X12_readRow ms_X12_readRow (p_X12_readRow hW_1004 k_0 e_1033 ok_1034 pr_1035) mx_X12_readRow ml_X12_194 (by decide) rfl (cells1 := 0) (slots1 := 0) (by decide) (by decide) (Nat.le_of_ble_eq_true rfl) (Nat.le_of_ble_eq_true rfl) rfl (Nat.le_of_ble_eq_true rfl) dX12_pattern_50 (fun L_1040 f_1041 h_1042 => ?_)
      obtain ⟨rfl, hW_1046, hF_1047, x_1043, x_1044, x_1045⟩ := h_1042
      have fe_1048 : fld (f_1003 a_0) 8 = (v_1018 : Int32).toInt := by rw [e_1012]; rfl
      have fe_1049 : fld (f_1003 a_0) 12 = (v_1025 : Int32).toInt := by rw [e_1012]; rfl
      have fe_1050 : fld (f_1003 a_0) 20 = (v_1029 : Int32).toInt := by rw [e_1012]; rfl
      obtain ⟨v_1052, v_1053, v_1055, v_1057, v_1059, v_1061, v_1063, v_1064, v_1065, v_1066, v_1068, e_1051, b_1054, b_1056, b_1058, b_1060, b_1062, b_1067, b_1069⟩ := hW_1046.at m_1 t_2
      have fe_1070 : fld (f_1041 a_0) 8 = (v_1057 : Int32).toInt := by rw [e_1051]; rfl
      have fe_1071 : fld (f_1041 a_0) 12 = (v_1064 : Int32).toInt := by rw [e_1051]; rfl
      have fe_1072 : fld (f_1041 a_0) 20 = (v_1068 : Int32).toInt := by rw [e_1051]; rfl
      rw [fe_1071] at x_1043
      rw [fe_1071, fe_1049, fe_1048, fe_1070] at x_1044
      rw [fe_1072, fe_1050] at x_1045
      clear fe_1048 fe_1049 fe_1050 fe_1070 fe_1071 fe_1072
      obtain ⟨g_1073, e_1074, ok_1075, pr_1076, cz_1077, co_1078, gd_1079⟩ := x_1043
      refine v_aload_n hC dX12_pattern_53 rfl ?_
      refine v_vi hC (rest := []) m_1 e_1051 rfl mi_X12_good ms_X12_good (p_X12_good hW_1046 k_0) mx_X12_good ml_X12_139 (by decide) rfl (cells1 := 0) (slots1 := 0) (by decide) (by decide) (Nat.le_of_ble_eq_true rfl) (Nat.le_of_ble_eq_true rfl) rfl (Nat.le_of_ble_eq_true rfl) dX12_pattern_54 (fun r_1080 L_1081 f_1082 h_1083 => ?_)
      obtain ⟨rfl, rfl, b_1084, x_1085⟩ := h_1083
      have fe_1088 : fld (f_1041 a_0) 12 = (v_1064 : Int32).toInt := by rw [e_1051]; rfl
      rw [fe_1088] at x_1085
      clear fe_1088
      try simp only [Int32.reduceToInt, Int64.reduceToInt] at x_1085
      refine v_if_eq hC dX12_pattern_57 (tgt := 67) (by decide) (fun h_1089 => ?_) (fun h_1089 => ?_)
      · simp only [Int32.lt_iff_toInt_lt, Int32.le_iff_toInt_le, Int32.reduceToInt, ← Int32.toInt_inj] at h_1089
        refine v_aload_n hC dX12_pattern_67 rfl ?_
        refine v_vi hC (rest := []) m_1 e_1051 rfl mi_X12_good ms_X12_good (p_X12_good hW_1046 k_0) mx_X12_good ml_X12_139 (by decide) rfl (cells1 := 0) (slots1 := 0) (by decide) (by decide) (Nat.le_of_ble_eq_true rfl) (Nat.le_of_ble_eq_true rfl) rfl (Nat.le_of_ble_eq_true rfl) dX12_pattern_68 (fun r_1090 L_1091 f_1092 h_1093 => ?_)
        obtain ⟨rfl, rfl, b_1094, x_1095⟩ := h_1093
        have fe_1098 : fld (f_1041 a_0) 12 = (v_1064 : Int32).toInt := by rw [e_1051]; rfl
        rw [fe_1098] at x_1095
        clear fe_1098
        try simp only [Int32.reduceToInt, Int64.reduceToInt] at x_1095
        refine v_if_ne hC dX12_pattern_71 (tgt := 77) (by decide) (fun h_1099 => ?_) (fun h_1099 => ?_)
        · simp only [Int32.lt_iff_toInt_lt, Int32.le_iff_toInt_le, Int32.reduceToInt, ← Int32.toInt_inj] at h_1099
          obtain ⟨g_1101, e_1100, ok_1102⟩ := hW_1046.at m_73 t_74
          have b_1103 := ok_1102.r0
          have b_1104 := ok_1102.w0
          refine v_iconst hC dX12_pattern_77 (v := 0) (by decide) ?_
          refine v_istore_n hC dX12_pattern_78 (by decide) (lv' := [(1, .int 0), (0, .ref a_0)]) rfl ?_
          refine v_iload_n hC dX12_pattern_79 rfl ?_
          refine v_iconst hC dX12_pattern_80 (v := 3) (by decide) ?_
          refine v_icmp_ge_f hC dX12_pattern_81 (tgt := 102) (by decide) (by decide) ?_
          refine v_aload_n hC dX12_pattern_84 rfl ?_
          refine v_get hC fl_X12_13 m_1 e_1051 rfl dX12_pattern_85 ?_
          refine v_iload_n hC dX12_pattern_88 rfl ?_
          refine v_aload_n hC dX12_pattern_89 rfl ?_
          refine v_get hC fl_X12_34 m_1 e_1051 rfl dX12_pattern_90 ?_
          refine v_iload_n hC dX12_pattern_93 rfl ?_
          refine v_iald hC m_80 e_1074 (vp_in_iff.mpr (by decide)) (v := g_1073 0) rfl dX12_pattern_94 ?_
          refine v_iast hC m_73 e_1100 (vp_in_iff.mpr (by decide)) dX12_pattern_95 (fun f_1105 hf_1106 hk_1107 => ?_)
          have hf_1108 := (hk_1107 a_0 (ne_kd e_1051 e_1100 rfl)).trans e_1051
          have hf_1109 := (hk_1107 (q 14) nq_21.symm).trans e_1074
          refine v_iinc hC dX12_pattern_96 (k := 0) rfl (v := 1) (by decide) (by decide) (lv' := [(1, .int 1), (0, .ref a_0)]) rfl ?_
          refine v_goto hC dX12_pattern_99 (tgt := 79) (by decide) ?_
          refine v_iload_n hC dX12_pattern_79 rfl ?_
          refine v_iconst hC dX12_pattern_80 (v := 3) (by decide) ?_
          refine v_icmp_ge_f hC dX12_pattern_81 (tgt := 102) (by decide) (by decide) ?_
          refine v_aload_n hC dX12_pattern_84 rfl ?_
          refine v_get hC fl_X12_13 m_1 hf_1108 rfl dX12_pattern_85 ?_
          refine v_iload_n hC dX12_pattern_88 rfl ?_
          refine v_aload_n hC dX12_pattern_89 rfl ?_
          refine v_get hC fl_X12_34 m_1 hf_1108 rfl dX12_pattern_90 ?_
          refine v_iload_n hC dX12_pattern_93 rfl ?_
          refine v_iald hC m_80 hf_1109 (vp_in_iff.mpr (by decide)) (v := g_1073 1) rfl dX12_pattern_94 ?_
          refine v_iast hC m_73 hf_1106 (vp_in_iff.mpr (by decide)) dX12_pattern_95 (fun f_1110 hf_1111 hk_1112 => ?_)
          have hf_1113 := (hk_1112 a_0 (ne_kd hf_1108 hf_1106 rfl)).trans hf_1108
          have hf_1114 := (hk_1112 (q 14) nq_21.symm).trans hf_1109
          have kr_1115 : ∀ x9, x9 ≠ (q 1) → f_1110 x9 = f_1041 x9 := fun x9 hx9 => (hk_1112 x9 hx9).trans (hk_1107 x9 hx9)
          refine v_iinc hC dX12_pattern_96 (k := 0) rfl (v := 2) (by decide) (by decide) (lv' := [(1, .int 2), (0, .ref a_0)]) rfl ?_
          refine v_goto hC dX12_pattern_99 (tgt := 79) (by decide) ?_
          refine v_iload_n hC dX12_pattern_79 rfl ?_
          refine v_iconst hC dX12_pattern_80 (v := 3) (by decide) ?_
          refine v_icmp_ge_f hC dX12_pattern_81 (tgt := 102) (by decide) (by decide) ?_
          refine v_aload_n hC dX12_pattern_84 rfl ?_
          refine v_get hC fl_X12_13 m_1 hf_1113 rfl dX12_pattern_85 ?_
          refine v_iload_n hC dX12_pattern_88 rfl ?_
          refine v_aload_n hC dX12_pattern_89 rfl ?_
          refine v_get hC fl_X12_34 m_1 hf_1113 rfl dX12_pattern_90 ?_
          refine v_iload_n hC dX12_pattern_93 rfl ?_
          refine v_iald hC m_80 hf_1114 (vp_in_iff.mpr (by decide)) (v := g_1073 2) rfl dX12_pattern_94 ?_
          refine v_iast hC m_73 hf_1111 (vp_in_iff.mpr (by decide)) dX12_pattern_95 (fun f_1116 hf_1117 hk_1118 => ?_)
          have hf_1119 := (hk_1118 a_0 (ne_kd hf_1113 hf_1111 rfl)).trans hf_1113
          have hf_1120 := (hk_1118 (q 14) nq_21.symm).trans hf_1114
          have kr_1121 : ∀ x9, x9 ≠ (q 1) → f_1116 x9 = f_1041 x9 := fun x9 hx9 => (hk_1118 x9 hx9).trans (kr_1115 x9 hx9)
          refine v_iinc hC dX12_pattern_96 (k := 0) rfl (v := 3) (by decide) (by decide) (lv' := [(1, .int 3), (0, .ref a_0)]) rfl ?_
          refine v_goto hC dX12_pattern_99 (tgt := 79) (by decide) ?_
          refine v_iload_n hC dX12_pattern_79 rfl ?_
          refine v_iconst hC dX12_pattern_80 (v := 3) (by decide) ?_
          refine v_icmp_ge_t hC dX12_pattern_81 (tgt := 102) (by decide) (by decide) ?_
          refine v_aload_n hC dX12_pattern_102 rfl ?_
          refine v_bipush hC dX12_pattern_103 (v := 16) (by decide) ?_
          refine v_bipush hC dX12_pattern_105 (v := 120) (by decide) ?_
          refine v_vv hC (rest := []) m_1 hf_1119 rfl mi_X12_keeps ms_X12_keeps (p_X12_keeps k_0 hf_1119 hf_1117 hf_1120 (by decide)) mx_X12_keeps ml_X12_197 (by decide) rfl (cells1 := 0) (slots1 := 0) (by decide) (by decide) (Nat.le_of_ble_eq_true rfl) (Nat.le_of_ble_eq_true rfl) rfl (Nat.le_of_ble_eq_true rfl) dX12_pattern_107 (fun L_1123 f_1124 h_1125 => ?_)
          obtain ⟨rfl, hf_1126, hk_1127⟩ := h_1125
          have hf_1128 := (hk_1127 a_0 (ne_kd hf_1119 hf_1117 rfl)).trans hf_1119
          have hf_1129 := (hk_1127 (q 14) nq_21.symm).trans hf_1120
          have kr_1130 : ∀ x9, x9 ≠ (q 1) → f_1124 x9 = f_1041 x9 := fun x9 hx9 => (hk_1127 x9 hx9).trans (kr_1121 x9 hx9)
          refine v_iconst hC dX12_pattern_110 (v := 0) (by decide) ?_
          refine v_istore_n hC dX12_pattern_111 (by decide) (lv' := [(1, .int 0), (0, .ref a_0)]) rfl ?_
          refine v_iload_n hC dX12_pattern_112 rfl ?_
          refine v_iconst hC dX12_pattern_113 (v := 4) (by decide) ?_
          refine v_icmp_ge_f hC dX12_pattern_114 (tgt := 138) (by decide) (by decide) ?_
          refine v_aload_n hC dX12_pattern_117 rfl ?_
          refine v_get hC fl_X12_13 m_1 hf_1128 rfl dX12_pattern_118 ?_
          refine v_sipush hC dX12_pattern_121 (v := 1048) (by decide) ?_
          refine v_sipush hC dX12_pattern_124 (v := 257) (by decide) ?_
          refine v_iload_n hC dX12_pattern_127 rfl ?_
          refine v_imul hC dX12_pattern_128 (v := 0) (by decide) ?_
          refine v_iadd hC dX12_pattern_129 (v := 1048) (by decide) ?_
          refine v_iconst hC dX12_pattern_130 (v := 0) (by decide) ?_
          refine v_iast hC m_73 hf_1126 (vp_in_iff.mpr (by decide)) dX12_pattern_131 (fun f_1131 hf_1132 hk_1133 => ?_)
          have hf_1134 := (hk_1133 a_0 (ne_kd hf_1128 hf_1126 rfl)).trans hf_1128
          have hf_1135 := (hk_1133 (q 14) nq_21.symm).trans hf_1129
          have kr_1136 : ∀ x9, x9 ≠ (q 1) → f_1131 x9 = f_1041 x9 := fun x9 hx9 => (hk_1133 x9 hx9).trans (kr_1130 x9 hx9)
          refine v_iinc hC dX12_pattern_132 (k := 0) rfl (v := 1) (by decide) (by decide) (lv' := [(1, .int 1), (0, .ref a_0)]) rfl ?_
          refine v_goto hC dX12_pattern_135 (tgt := 112) (by decide) ?_
          refine v_iload_n hC dX12_pattern_112 rfl ?_
          refine v_iconst hC dX12_pattern_113 (v := 4) (by decide) ?_
          refine v_icmp_ge_f hC dX12_pattern_114 (tgt := 138) (by decide) (by decide) ?_
          refine v_aload_n hC dX12_pattern_117 rfl ?_
          refine v_get hC fl_X12_13 m_1 hf_1134 rfl dX12_pattern_118 ?_
          refine v_sipush hC dX12_pattern_121 (v := 1048) (by decide) ?_
          refine v_sipush hC dX12_pattern_124 (v := 257) (by decide) ?_
          refine v_iload_n hC dX12_pattern_127 rfl ?_
          refine v_imul hC dX12_pattern_128 (v := 257) (by decide) ?_
          refine v_iadd hC dX12_pattern_129 (v := 1305) (by decide) ?_
          refine v_iconst hC dX12_pattern_130 (v := 0) (by decide) ?_
          refine v_iast hC m_73 hf_1132 (vp_in_iff.mpr (by decide)) dX12_pattern_131 (fun f_1137 hf_1138 hk_1139 => ?_)
          have hf_1140 := (hk_1139 a_0 (ne_kd hf_1134 hf_1132 rfl)).trans hf_1134
          have hf_1141 := (hk_1139 (q 14) nq_21.symm).trans hf_1135
          have kr_1142 : ∀ x9, x9 ≠ (q 1) → f_1137 x9 = f_1041 x9 := fun x9 hx9 => (hk_1139 x9 hx9).trans (kr_1136 x9 hx9)
          refine v_iinc hC dX12_pattern_132 (k := 0) rfl (v := 2) (by decide) (by decide) (lv' := [(1, .int 2), (0, .ref a_0)]) rfl ?_
          refine v_goto hC dX12_pattern_135 (tgt := 112) (by decide) ?_
          refine v_iload_n hC dX12_pattern_112 rfl ?_
          refine v_iconst hC dX12_pattern_113 (v := 4) (by decide) ?_
          refine v_icmp_ge_f hC dX12_pattern_114 (tgt := 138) (by decide) (by decide) ?_
          refine v_aload_n hC dX12_pattern_117 rfl ?_
          refine v_get hC fl_X12_13 m_1 hf_1140 rfl dX12_pattern_118 ?_
          refine v_sipush hC dX12_pattern_121 (v := 1048) (by decide) ?_
          refine v_sipush hC dX12_pattern_124 (v := 257) (by decide) ?_
          refine v_iload_n hC dX12_pattern_127 rfl ?_
          refine v_imul hC dX12_pattern_128 (v := 514) (by decide) ?_
          refine v_iadd hC dX12_pattern_129 (v := 1562) (by decide) ?_
          refine v_iconst hC dX12_pattern_130 (v := 0) (by decide) ?_
          refine v_iast hC m_73 hf_1138 (vp_in_iff.mpr (by decide)) dX12_pattern_131 (fun f_1143 hf_1144 hk_1145 => ?_)
          have hf_1146 := (hk_1145 a_0 (ne_kd hf_1140 hf_1138 rfl)).trans hf_1140
          have hf_1147 := (hk_1145 (q 14) nq_21.symm).trans hf_1141
          have kr_1148 : ∀ x9, x9 ≠ (q 1) → f_1143 x9 = f_1041 x9 := fun x9 hx9 => (hk_1145 x9 hx9).trans (kr_1142 x9 hx9)
          refine v_iinc hC dX12_pattern_132 (k := 0) rfl (v := 3) (by decide) (by decide) (lv' := [(1, .int 3), (0, .ref a_0)]) rfl ?_
          refine v_goto hC dX12_pattern_135 (tgt := 112) (by decide) ?_
          refine v_iload_n hC dX12_pattern_112 rfl ?_
          refine v_iconst hC dX12_pattern_113 (v := 4) (by decide) ?_
          refine v_icmp_ge_f hC dX12_pattern_114 (tgt := 138) (by decide) (by decide) ?_
          refine v_aload_n hC dX12_pattern_117 rfl ?_
          refine v_get hC fl_X12_13 m_1 hf_1146 rfl dX12_pattern_118 ?_
          refine v_sipush hC dX12_pattern_121 (v := 1048) (by decide) ?_
          refine v_sipush hC dX12_pattern_124 (v := 257) (by decide) ?_
          refine v_iload_n hC dX12_pattern_127 rfl ?_
          refine v_imul hC dX12_pattern_128 (v := 771) (by decide) ?_
          refine v_iadd hC dX12_pattern_129 (v := 1819) (by decide) ?_
          refine v_iconst hC dX12_pattern_130 (v := 0) (by decide) ?_
          refine v_iast hC m_73 hf_1144 (vp_in_iff.mpr (by decide)) dX12_pattern_131 (fun f_1149 hf_1150 hk_1151 => ?_)
          have hf_1152 := (hk_1151 a_0 (ne_kd hf_1146 hf_1144 rfl)).trans hf_1146
          have hf_1153 := (hk_1151 (q 14) nq_21.symm).trans hf_1147
          have kr_1154 : ∀ x9, x9 ≠ (q 1) → f_1149 x9 = f_1041 x9 := fun x9 hx9 => (hk_1151 x9 hx9).trans (kr_1148 x9 hx9)
          refine v_iinc hC dX12_pattern_132 (k := 0) rfl (v := 4) (by decide) (by decide) (lv' := [(1, .int 4), (0, .ref a_0)]) rfl ?_
          refine v_goto hC dX12_pattern_135 (tgt := 112) (by decide) ?_
          refine v_iload_n hC dX12_pattern_112 rfl ?_
          refine v_iconst hC dX12_pattern_113 (v := 4) (by decide) ?_
          refine v_icmp_ge_t hC dX12_pattern_114 (tgt := 138) (by decide) (by decide) ?_
          have cx_1155 : (g_1073 0).toInt = r_194.toInt := congrArg Int32.toInt (cz_1077.trans cz_1036)
          have cx_1156 : (g_1073 1).toInt = r_139.toInt := congrArg Int32.toInt (co_1078.trans co_1037)
          obtain ⟨g_1159, e_1160, ok_1158, eg_1161⟩ : ∃ g9, f_1149 (q 1) = aI E 2076 g9 ∧ WOK g9 ∧ g9 = (upd (upd (upd (upd (va_cpy g_1073 (upd (upd (upd g_1101 0 (g_1073 0)) 1 (g_1073 1)) 2 (g_1073 2)) (16 : Int32).toNatClampNeg (16 : Int32).toNatClampNeg ((120 : Int32).toNatClampNeg - (16 : Int32).toNatClampNeg)) 1048 0) 1305 0) 1562 0) 1819 0) := ⟨_, hf_1150, (ok_1102.patf ok_1075 pr_1076 (by omega) (by omega) (by omega)), rfl⟩
          have hW_1157 := hW_1046.up e_1160 kr_1154 t_74 ⟨_, rfl, ok_1158⟩
          have fr_1162 := FR.w kr_1154 e_1100 (k := 2176) rfl
          have b_1163 := ok_1158.r0
          have b_1164 := ok_1158.w0
          refine v_aload_n hC dX12_pattern_138 rfl ?_
          refine v_vi hC (rest := []) m_1 hf_1152 rfl mi_X12_frees ms_X12_frees (p_X12_frees hW_1157 k_0 e_1160 ok_1158) mx_X12_frees ml_X12_200 (by decide) rfl (cells1 := 0) (slots1 := 0) (by decide) (by decide) (Nat.le_of_ble_eq_true rfl) (Nat.le_of_ble_eq_true rfl) rfl (Nat.le_of_ble_eq_true rfl) dX12_pattern_139 (fun r_1165 L_1166 f_1167 h_1168 => ?_)
          obtain ⟨rfl, rfl⟩ := h_1168
          exact hR _ _ _ _ _ _ _ dX12_pattern_142 rfl (Nat.le_of_ble_eq_true rfl) (Nat.le_of_ble_eq_true rfl) ⟨rfl, hW_1157, (((((((((((hF_49.tr fr_98).tr hF_109).tr hF_149).tr fr_191).tr hF_204).tr fr_245).tr hF_258).tr hF_1005).tr hF_1047).tr fr_1162).mono rfl)⟩
        · simp only [Int32.lt_iff_toInt_lt, Int32.le_iff_toInt_le, Int32.reduceToInt, ← Int32.toInt_inj] at h_1099
          refine v_bipush hC dX12_pattern_74 (v := (-4)) (by decide) ?_
          exact hR _ _ _ _ _ _ _ dX12_pattern_76 rfl (Nat.le_of_ble_eq_true rfl) (Nat.le_of_ble_eq_true rfl) ⟨rfl, hW_1046, ((((((((((hF_49.tr fr_98).tr hF_109).tr hF_149).tr fr_191).tr hF_204).tr fr_245).tr hF_258).tr hF_1005).tr hF_1047).mono rfl)⟩
      · simp only [Int32.lt_iff_toInt_lt, Int32.le_iff_toInt_le, Int32.reduceToInt, ← Int32.toInt_inj] at h_1089
        refine v_aload_n hC dX12_pattern_60 rfl ?_
        refine v_get hC fl_X12_120 m_1 e_1051 rfl dX12_pattern_61 ?_
        refine v_if_ne hC dX12_pattern_64 (tgt := 49) (by decide) (fun h_1171 => ?_) (fun h_1171 => ?_)
        · simp only [Int32.lt_iff_toInt_lt, Int32.le_iff_toInt_le, Int32.reduceToInt, ← Int32.toInt_inj] at h_1171
          refine v_pick [0] rfl ?_
          have fe_1172 : fld (f_1041 a_0) 12 = (v_1064 : Int32).toInt := by rw [e_1051]; rfl
          have h_1173 : fld (f_1041 a_0) 8 = (v_1057 : Int32).toInt := by rw [e_1051]; rfl
          exact ih_1010 f_1041 hW_1046 ((hF_1005.tr hF_1047).mono rfl) (by rw [fe_1172] <;> first | omega | (simp only [Int32.lt_iff_toInt_lt, Int32.le_iff_toInt_le, Int32.reduceToInt, ← Int32.toInt_inj, true_and, and_true, or_true, true_or, false_or, or_false, false_and, and_false, not_true_eq_false, not_false_eq_true] <;> omega)) ⟨_, e_1074, ok_1075, pr_1076, (cz_1077.trans cz_1036), (co_1078.trans co_1037)⟩ (by rw [h_1173]; omega)
        · simp only [Int32.lt_iff_toInt_lt, Int32.le_iff_toInt_le, Int32.reduceToInt, ← Int32.toInt_inj] at h_1171
          refine v_aload_n hC dX12_pattern_67 rfl ?_
          refine v_vi hC (rest := []) m_1 e_1051 rfl mi_X12_good ms_X12_good (p_X12_good hW_1046 k_0) mx_X12_good ml_X12_139 (by decide) rfl (cells1 := 0) (slots1 := 0) (by decide) (by decide) (Nat.le_of_ble_eq_true rfl) (Nat.le_of_ble_eq_true rfl) rfl (Nat.le_of_ble_eq_true rfl) dX12_pattern_68 (fun r_1174 L_1175 f_1176 h_1177 => ?_)
          obtain ⟨rfl, rfl, b_1178, x_1179⟩ := h_1177
          have fe_1182 : fld (f_1041 a_0) 12 = (v_1064 : Int32).toInt := by rw [e_1051]; rfl
          rw [fe_1182] at x_1179
          clear fe_1182
          try simp only [Int32.reduceToInt, Int64.reduceToInt] at x_1179
          refine v_if_ne hC dX12_pattern_71 (tgt := 77) (by decide) (fun h_1183 => ?_) (fun h_1183 => ?_)
          · simp only [Int32.lt_iff_toInt_lt, Int32.le_iff_toInt_le, Int32.reduceToInt, ← Int32.toInt_inj] at h_1183
            obtain ⟨g_1185, e_1184, ok_1186⟩ := hW_1046.at m_73 t_74
            have b_1187 := ok_1186.r0
            have b_1188 := ok_1186.w0
            refine v_iconst hC dX12_pattern_77 (v := 0) (by decide) ?_
            refine v_istore_n hC dX12_pattern_78 (by decide) (lv' := [(1, .int 0), (0, .ref a_0)]) rfl ?_
            refine v_iload_n hC dX12_pattern_79 rfl ?_
            refine v_iconst hC dX12_pattern_80 (v := 3) (by decide) ?_
            refine v_icmp_ge_f hC dX12_pattern_81 (tgt := 102) (by decide) (by decide) ?_
            refine v_aload_n hC dX12_pattern_84 rfl ?_
            refine v_get hC fl_X12_13 m_1 e_1051 rfl dX12_pattern_85 ?_
            refine v_iload_n hC dX12_pattern_88 rfl ?_
            refine v_aload_n hC dX12_pattern_89 rfl ?_
            refine v_get hC fl_X12_34 m_1 e_1051 rfl dX12_pattern_90 ?_
            refine v_iload_n hC dX12_pattern_93 rfl ?_
            refine v_iald hC m_80 e_1074 (vp_in_iff.mpr (by decide)) (v := g_1073 0) rfl dX12_pattern_94 ?_
            refine v_iast hC m_73 e_1184 (vp_in_iff.mpr (by decide)) dX12_pattern_95 (fun f_1189 hf_1190 hk_1191 => ?_)
            have hf_1192 := (hk_1191 a_0 (ne_kd e_1051 e_1184 rfl)).trans e_1051
            have hf_1193 := (hk_1191 (q 14) nq_21.symm).trans e_1074
            refine v_iinc hC dX12_pattern_96 (k := 0) rfl (v := 1) (by decide) (by decide) (lv' := [(1, .int 1), (0, .ref a_0)]) rfl ?_
            refine v_goto hC dX12_pattern_99 (tgt := 79) (by decide) ?_
            refine v_iload_n hC dX12_pattern_79 rfl ?_
            refine v_iconst hC dX12_pattern_80 (v := 3) (by decide) ?_
            refine v_icmp_ge_f hC dX12_pattern_81 (tgt := 102) (by decide) (by decide) ?_
            refine v_aload_n hC dX12_pattern_84 rfl ?_
            refine v_get hC fl_X12_13 m_1 hf_1192 rfl dX12_pattern_85 ?_
            refine v_iload_n hC dX12_pattern_88 rfl ?_
            refine v_aload_n hC dX12_pattern_89 rfl ?_
            refine v_get hC fl_X12_34 m_1 hf_1192 rfl dX12_pattern_90 ?_
            refine v_iload_n hC dX12_pattern_93 rfl ?_
            refine v_iald hC m_80 hf_1193 (vp_in_iff.mpr (by decide)) (v := g_1073 1) rfl dX12_pattern_94 ?_
            refine v_iast hC m_73 hf_1190 (vp_in_iff.mpr (by decide)) dX12_pattern_95 (fun f_1194 hf_1195 hk_1196 => ?_)
            have hf_1197 := (hk_1196 a_0 (ne_kd hf_1192 hf_1190 rfl)).trans hf_1192
            have hf_1198 := (hk_1196 (q 14) nq_21.symm).trans hf_1193
            have kr_1199 : ∀ x9, x9 ≠ (q 1) → f_1194 x9 = f_1041 x9 := fun x9 hx9 => (hk_1196 x9 hx9).trans (hk_1191 x9 hx9)
            refine v_iinc hC dX12_pattern_96 (k := 0) rfl (v := 2) (by decide) (by decide) (lv' := [(1, .int 2), (0, .ref a_0)]) rfl ?_
            refine v_goto hC dX12_pattern_99 (tgt := 79) (by decide) ?_
            refine v_iload_n hC dX12_pattern_79 rfl ?_
            refine v_iconst hC dX12_pattern_80 (v := 3) (by decide) ?_
            refine v_icmp_ge_f hC dX12_pattern_81 (tgt := 102) (by decide) (by decide) ?_
            refine v_aload_n hC dX12_pattern_84 rfl ?_
            refine v_get hC fl_X12_13 m_1 hf_1197 rfl dX12_pattern_85 ?_
            refine v_iload_n hC dX12_pattern_88 rfl ?_
            refine v_aload_n hC dX12_pattern_89 rfl ?_
            refine v_get hC fl_X12_34 m_1 hf_1197 rfl dX12_pattern_90 ?_
            refine v_iload_n hC dX12_pattern_93 rfl ?_
            refine v_iald hC m_80 hf_1198 (vp_in_iff.mpr (by decide)) (v := g_1073 2) rfl dX12_pattern_94 ?_
            refine v_iast hC m_73 hf_1195 (vp_in_iff.mpr (by decide)) dX12_pattern_95 (fun f_1200 hf_1201 hk_1202 => ?_)
            have hf_1203 := (hk_1202 a_0 (ne_kd hf_1197 hf_1195 rfl)).trans hf_1197
            have hf_1204 := (hk_1202 (q 14) nq_21.symm).trans hf_1198
            have kr_1205 : ∀ x9, x9 ≠ (q 1) → f_1200 x9 = f_1041 x9 := fun x9 hx9 => (hk_1202 x9 hx9).trans (kr_1199 x9 hx9)
            refine v_iinc hC dX12_pattern_96 (k := 0) rfl (v := 3) (by decide) (by decide) (lv' := [(1, .int 3), (0, .ref a_0)]) rfl ?_
            refine v_goto hC dX12_pattern_99 (tgt := 79) (by decide) ?_
            refine v_iload_n hC dX12_pattern_79 rfl ?_
            refine v_iconst hC dX12_pattern_80 (v := 3) (by decide) ?_
            refine v_icmp_ge_t hC dX12_pattern_81 (tgt := 102) (by decide) (by decide) ?_
            refine v_aload_n hC dX12_pattern_102 rfl ?_
            refine v_bipush hC dX12_pattern_103 (v := 16) (by decide) ?_
            refine v_bipush hC dX12_pattern_105 (v := 120) (by decide) ?_
            refine v_vv hC (rest := []) m_1 hf_1203 rfl mi_X12_keeps ms_X12_keeps (p_X12_keeps k_0 hf_1203 hf_1201 hf_1204 (by decide)) mx_X12_keeps ml_X12_197 (by decide) rfl (cells1 := 0) (slots1 := 0) (by decide) (by decide) (Nat.le_of_ble_eq_true rfl) (Nat.le_of_ble_eq_true rfl) rfl (Nat.le_of_ble_eq_true rfl) dX12_pattern_107 (fun L_1207 f_1208 h_1209 => ?_)
            obtain ⟨rfl, hf_1210, hk_1211⟩ := h_1209
            have hf_1212 := (hk_1211 a_0 (ne_kd hf_1203 hf_1201 rfl)).trans hf_1203
            have hf_1213 := (hk_1211 (q 14) nq_21.symm).trans hf_1204
            have kr_1214 : ∀ x9, x9 ≠ (q 1) → f_1208 x9 = f_1041 x9 := fun x9 hx9 => (hk_1211 x9 hx9).trans (kr_1205 x9 hx9)
            refine v_iconst hC dX12_pattern_110 (v := 0) (by decide) ?_
            refine v_istore_n hC dX12_pattern_111 (by decide) (lv' := [(1, .int 0), (0, .ref a_0)]) rfl ?_
            refine v_iload_n hC dX12_pattern_112 rfl ?_
            refine v_iconst hC dX12_pattern_113 (v := 4) (by decide) ?_
            refine v_icmp_ge_f hC dX12_pattern_114 (tgt := 138) (by decide) (by decide) ?_
            refine v_aload_n hC dX12_pattern_117 rfl ?_
            refine v_get hC fl_X12_13 m_1 hf_1212 rfl dX12_pattern_118 ?_
            refine v_sipush hC dX12_pattern_121 (v := 1048) (by decide) ?_
            refine v_sipush hC dX12_pattern_124 (v := 257) (by decide) ?_
            refine v_iload_n hC dX12_pattern_127 rfl ?_
            refine v_imul hC dX12_pattern_128 (v := 0) (by decide) ?_
            refine v_iadd hC dX12_pattern_129 (v := 1048) (by decide) ?_
            refine v_iconst hC dX12_pattern_130 (v := 0) (by decide) ?_
            refine v_iast hC m_73 hf_1210 (vp_in_iff.mpr (by decide)) dX12_pattern_131 (fun f_1215 hf_1216 hk_1217 => ?_)
            have hf_1218 := (hk_1217 a_0 (ne_kd hf_1212 hf_1210 rfl)).trans hf_1212
            have hf_1219 := (hk_1217 (q 14) nq_21.symm).trans hf_1213
            have kr_1220 : ∀ x9, x9 ≠ (q 1) → f_1215 x9 = f_1041 x9 := fun x9 hx9 => (hk_1217 x9 hx9).trans (kr_1214 x9 hx9)
            refine v_iinc hC dX12_pattern_132 (k := 0) rfl (v := 1) (by decide) (by decide) (lv' := [(1, .int 1), (0, .ref a_0)]) rfl ?_
            refine v_goto hC dX12_pattern_135 (tgt := 112) (by decide) ?_
            refine v_iload_n hC dX12_pattern_112 rfl ?_
            refine v_iconst hC dX12_pattern_113 (v := 4) (by decide) ?_
            refine v_icmp_ge_f hC dX12_pattern_114 (tgt := 138) (by decide) (by decide) ?_
            refine v_aload_n hC dX12_pattern_117 rfl ?_
            refine v_get hC fl_X12_13 m_1 hf_1218 rfl dX12_pattern_118 ?_
            refine v_sipush hC dX12_pattern_121 (v := 1048) (by decide) ?_
            refine v_sipush hC dX12_pattern_124 (v := 257) (by decide) ?_
            refine v_iload_n hC dX12_pattern_127 rfl ?_
            refine v_imul hC dX12_pattern_128 (v := 257) (by decide) ?_
            refine v_iadd hC dX12_pattern_129 (v := 1305) (by decide) ?_
            refine v_iconst hC dX12_pattern_130 (v := 0) (by decide) ?_
            refine v_iast hC m_73 hf_1216 (vp_in_iff.mpr (by decide)) dX12_pattern_131 (fun f_1221 hf_1222 hk_1223 => ?_)
            have hf_1224 := (hk_1223 a_0 (ne_kd hf_1218 hf_1216 rfl)).trans hf_1218
            have hf_1225 := (hk_1223 (q 14) nq_21.symm).trans hf_1219
            have kr_1226 : ∀ x9, x9 ≠ (q 1) → f_1221 x9 = f_1041 x9 := fun x9 hx9 => (hk_1223 x9 hx9).trans (kr_1220 x9 hx9)
            refine v_iinc hC dX12_pattern_132 (k := 0) rfl (v := 2) (by decide) (by decide) (lv' := [(1, .int 2), (0, .ref a_0)]) rfl ?_
            refine v_goto hC dX12_pattern_135 (tgt := 112) (by decide) ?_
            refine v_iload_n hC dX12_pattern_112 rfl ?_
            refine v_iconst hC dX12_pattern_113 (v := 4) (by decide) ?_
            refine v_icmp_ge_f hC dX12_pattern_114 (tgt := 138) (by decide) (by decide) ?_
            refine v_aload_n hC dX12_pattern_117 rfl ?_
            refine v_get hC fl_X12_13 m_1 hf_1224 rfl dX12_pattern_118 ?_
            refine v_sipush hC dX12_pattern_121 (v := 1048) (by decide) ?_
            refine v_sipush hC dX12_pattern_124 (v := 257) (by decide) ?_
            refine v_iload_n hC dX12_pattern_127 rfl ?_
            refine v_imul hC dX12_pattern_128 (v := 514) (by decide) ?_
            refine v_iadd hC dX12_pattern_129 (v := 1562) (by decide) ?_
            refine v_iconst hC dX12_pattern_130 (v := 0) (by decide) ?_
            refine v_iast hC m_73 hf_1222 (vp_in_iff.mpr (by decide)) dX12_pattern_131 (fun f_1227 hf_1228 hk_1229 => ?_)
            have hf_1230 := (hk_1229 a_0 (ne_kd hf_1224 hf_1222 rfl)).trans hf_1224
            have hf_1231 := (hk_1229 (q 14) nq_21.symm).trans hf_1225
            have kr_1232 : ∀ x9, x9 ≠ (q 1) → f_1227 x9 = f_1041 x9 := fun x9 hx9 => (hk_1229 x9 hx9).trans (kr_1226 x9 hx9)
            refine v_iinc hC dX12_pattern_132 (k := 0) rfl (v := 3) (by decide) (by decide) (lv' := [(1, .int 3), (0, .ref a_0)]) rfl ?_
            refine v_goto hC dX12_pattern_135 (tgt := 112) (by decide) ?_
            refine v_iload_n hC dX12_pattern_112 rfl ?_
            refine v_iconst hC dX12_pattern_113 (v := 4) (by decide) ?_
            refine v_icmp_ge_f hC dX12_pattern_114 (tgt := 138) (by decide) (by decide) ?_
            refine v_aload_n hC dX12_pattern_117 rfl ?_
            refine v_get hC fl_X12_13 m_1 hf_1230 rfl dX12_pattern_118 ?_
            refine v_sipush hC dX12_pattern_121 (v := 1048) (by decide) ?_
            refine v_sipush hC dX12_pattern_124 (v := 257) (by decide) ?_
            refine v_iload_n hC dX12_pattern_127 rfl ?_
            refine v_imul hC dX12_pattern_128 (v := 771) (by decide) ?_
            refine v_iadd hC dX12_pattern_129 (v := 1819) (by decide) ?_
            refine v_iconst hC dX12_pattern_130 (v := 0) (by decide) ?_
            refine v_iast hC m_73 hf_1228 (vp_in_iff.mpr (by decide)) dX12_pattern_131 (fun f_1233 hf_1234 hk_1235 => ?_)
            have hf_1236 := (hk_1235 a_0 (ne_kd hf_1230 hf_1228 rfl)).trans hf_1230
            have hf_1237 := (hk_1235 (q 14) nq_21.symm).trans hf_1231
            have kr_1238 : ∀ x9, x9 ≠ (q 1) → f_1233 x9 = f_1041 x9 := fun x9 hx9 => (hk_1235 x9 hx9).trans (kr_1232 x9 hx9)
            refine v_iinc hC dX12_pattern_132 (k := 0) rfl (v := 4) (by decide) (by decide) (lv' := [(1, .int 4), (0, .ref a_0)]) rfl ?_
            refine v_goto hC dX12_pattern_135 (tgt := 112) (by decide) ?_
            refine v_iload_n hC dX12_pattern_112 rfl ?_
            refine v_iconst hC dX12_pattern_113 (v := 4) (by decide) ?_
            refine v_icmp_ge_t hC dX12_pattern_114 (tgt := 138) (by decide) (by decide) ?_
            have cx_1239 : (g_1073 0).toInt = r_194.toInt := congrArg Int32.toInt (cz_1077.trans cz_1036)
            have cx_1240 : (g_1073 1).toInt = r_139.toInt := congrArg Int32.toInt (co_1078.trans co_1037)
            obtain ⟨g_1243, e_1244, ok_1242, eg_1245⟩ : ∃ g9, f_1233 (q 1) = aI E 2076 g9 ∧ WOK g9 ∧ g9 = (upd (upd (upd (upd (va_cpy g_1073 (upd (upd (upd g_1185 0 (g_1073 0)) 1 (g_1073 1)) 2 (g_1073 2)) (16 : Int32).toNatClampNeg (16 : Int32).toNatClampNeg ((120 : Int32).toNatClampNeg - (16 : Int32).toNatClampNeg)) 1048 0) 1305 0) 1562 0) 1819 0) := ⟨_, hf_1234, (ok_1186.patf ok_1075 pr_1076 (by omega) (by omega) (by omega)), rfl⟩
            have hW_1241 := hW_1046.up e_1244 kr_1238 t_74 ⟨_, rfl, ok_1242⟩
            have fr_1246 := FR.w kr_1238 e_1184 (k := 2176) rfl
            have b_1247 := ok_1242.r0
            have b_1248 := ok_1242.w0
            refine v_aload_n hC dX12_pattern_138 rfl ?_
            refine v_vi hC (rest := []) m_1 hf_1236 rfl mi_X12_frees ms_X12_frees (p_X12_frees hW_1241 k_0 e_1244 ok_1242) mx_X12_frees ml_X12_200 (by decide) rfl (cells1 := 0) (slots1 := 0) (by decide) (by decide) (Nat.le_of_ble_eq_true rfl) (Nat.le_of_ble_eq_true rfl) rfl (Nat.le_of_ble_eq_true rfl) dX12_pattern_139 (fun r_1249 L_1250 f_1251 h_1252 => ?_)
            obtain ⟨rfl, rfl⟩ := h_1252
            exact hR _ _ _ _ _ _ _ dX12_pattern_142 rfl (Nat.le_of_ble_eq_true rfl) (Nat.le_of_ble_eq_true rfl) ⟨rfl, hW_1241, (((((((((((hF_49.tr fr_98).tr hF_109).tr hF_149).tr fr_191).tr hF_204).tr fr_245).tr hF_258).tr hF_1005).tr hF_1047).tr fr_1246).mono rfl)⟩
          · simp only [Int32.lt_iff_toInt_lt, Int32.le_iff_toInt_le, Int32.reduceToInt, ← Int32.toInt_inj] at h_1183
            refine v_bipush hC dX12_pattern_74 (v := (-4)) (by decide) ?_
            exact hR _ _ _ _ _ _ _ dX12_pattern_76 rfl (Nat.le_of_ble_eq_true rfl) (Nat.le_of_ble_eq_true rfl) ⟨rfl, hW_1046, ((((((((((hF_49.tr fr_98).tr hF_109).tr hF_149).tr fr_191).tr hF_204).tr fr_245).tr hF_258).tr hF_1005).tr hF_1047).mono rfl)⟩
  refine v_pick [0] rfl ?_
  have fe_1255 : fld (f_251 a_0) 12 = (v_277 : Int32).toInt := by rw [e_264]; rfl
  have h_1256 : fld (f_251 a_0) 8 = (v_270 : Int32).toInt := by rw [e_264]; rfl
  exact lp_1008 602 f_251 hW_257 FR.rf (by rw [fe_1255] <;> first | omega | (simp only [Int32.lt_iff_toInt_lt, Int32.le_iff_toInt_le, Int32.reduceToInt, ← Int32.toInt_inj, true_and, and_true, or_true, true_or, false_or, or_false, false_and, and_false, not_true_eq_false, not_false_eq_true] <;> omega)) ⟨_, hf_263, ok_242, (PR.zero gz_246), cz_247, co_248⟩ (by rw [h_1256]; omega)
