set_option maxRecDepth 100000 in
set_option maxHeartbeats 8000000 in
theorem p_X12_holds {l : Launch} {E : Ez} {L : List Nat} {f : Nat → va_E} {T : Nat → va_E → Prop} {a_0 : Nat} {a_1 : Int32} {q : Nat → Nat} {g_w : Nat → Int32} (hW : WT T L f) (k_0 : isM T L E a_0 q) (g_1 : (0 ≤ a_1.toInt ∧ a_1.toInt ≤ 99)) (e_w : f (q 1) = aI E 2076 g_w) (o_w : WOK g_w) (hts : a_1.toInt < (g_w 4).toInt) : CI l yX12_holds cX12_holds 11 .boolean 1 0 0 E [.ref a_0, .int a_1] L f (fun r L1 f1 => L = L1 ∧ f = f1 ∧ (0 ≤ r.toInt ∧ r.toInt ≤ 1)) := by
  refine ci_of (by decide) (Nat.le_of_ble_eq_true rfl) (fun z hz hnm hC hR => ?_)
  have hC : Cx z E cX12_holds RX12 11 1 0 0 := hC
  subst hz
  show V z E 11 0 0 L f 0 [(0, .ref a_0), (1, .int a_1)] []
  obtain ⟨m_1, t_2, nq_21, k_3, k_4, k_5, k_6, k_7, k_8, k_9, k_10, k_11, k_12, k_13, k_14, k_15, k_16, k_17, k_18, k_19, k_20⟩ := id k_0
  obtain ⟨m_22, t_23⟩ := id k_3
  have b_24 := o_w.r0
  have b_25 := o_w.w0
  refine v_aload_n hC dX12_holds_0 rfl ?_
  obtain ⟨v_27, v_28, v_30, v_32, v_34, v_36, v_38, v_39, v_40, v_41, v_43, e_26, b_29, b_31, b_33, b_35, b_37, b_42, b_44⟩ := hW.at m_1 t_2
  refine v_get hC fl_X12_13 m_1 e_26 rfl dX12_holds_1 ?_
  refine v_sipush hC dX12_holds_4 (v := 162) (by decide) ?_
  refine v_iconst hC dX12_holds_7 (v := 4) (by decide) ?_
  refine v_iload_n hC dX12_holds_8 rfl ?_
  obtain ⟨v_45, h_46⟩ : ∃ v9 : Int32, (4 : Int32) * a_1 = v9 := ⟨_, rfl⟩
  refine v_imul hC dX12_holds_9 h_46 ?_
  have h_47 := mul_v 4 99 396 h_46 (by decide) (by first | omega | (simp only [Int32.lt_iff_toInt_lt, Int32.le_iff_toInt_le, Int32.reduceToInt, ← Int32.toInt_inj, true_and, and_true, or_true, true_or, false_or, or_false, false_and, and_false, not_true_eq_false, not_false_eq_true] <;> omega)) (by decide) (by decide)
  try simp only [Int32.reduceToInt] at h_47
  obtain ⟨v_48, h_49⟩ : ∃ v9 : Int32, (162 : Int32) + v_45 = v9 := ⟨_, rfl⟩
  refine v_iadd hC dX12_holds_10 h_49 ?_
  have h_50 := add_v h_49 (by first | omega | (simp only [Int32.lt_iff_toInt_lt, Int32.le_iff_toInt_le, Int32.reduceToInt, ← Int32.toInt_inj, true_and, and_true, or_true, true_or, false_or, or_false, false_and, and_false, not_true_eq_false, not_false_eq_true] <;> omega)) (by first | omega | (simp only [Int32.lt_iff_toInt_lt, Int32.le_iff_toInt_le, Int32.reduceToInt, ← Int32.toInt_inj, true_and, and_true, or_true, true_or, false_or, or_false, false_and, and_false, not_true_eq_false, not_false_eq_true] <;> omega))
  try simp only [Int32.reduceToInt] at h_50
  refine v_iconst hC dX12_holds_11 (v := 1) (by decide) ?_
  obtain ⟨v_51, h_52⟩ : ∃ v9 : Int32, v_48 + 1 = v9 := ⟨_, rfl⟩
  refine v_iadd hC dX12_holds_12 h_52 ?_
  have h_53 := add_v h_52 (by first | omega | (simp only [Int32.lt_iff_toInt_lt, Int32.le_iff_toInt_le, Int32.reduceToInt, ← Int32.toInt_inj, true_and, and_true, or_true, true_or, false_or, or_false, false_and, and_false, not_true_eq_false, not_false_eq_true] <;> omega)) (by first | omega | (simp only [Int32.lt_iff_toInt_lt, Int32.le_iff_toInt_le, Int32.reduceToInt, ← Int32.toInt_inj, true_and, and_true, or_true, true_or, false_or, or_false, false_and, and_false, not_true_eq_false, not_false_eq_true] <;> omega))
  try simp only [Int32.reduceToInt] at h_53
  obtain ⟨v_54, h_55⟩ : ∃ v9 : Int32, g_w (v_51 : Int32).toNatClampNeg = v9 := ⟨_, rfl⟩
  refine v_iald hC m_22 e_w (vp_in_iff.mpr (by first | omega | (simp only [Int32.lt_iff_toInt_lt, Int32.le_iff_toInt_le, Int32.reduceToInt, ← Int32.toInt_inj, true_and, and_true, or_true, true_or, false_or, or_false, false_and, and_false, not_true_eq_false, not_false_eq_true] <;> omega))) h_55 dX12_holds_13 ?_
  refine v_istore_n hC dX12_holds_14 (by decide) (lv' := [(2, .int v_54), (0, .ref a_0), (1, .int a_1)]) rfl ?_
  refine v_iload_n hC dX12_holds_15 rfl ?_
  refine v_aload_n hC dX12_holds_16 rfl ?_
  refine v_get hC fl_X12_13 m_1 e_26 rfl dX12_holds_17 ?_
  refine v_sipush hC dX12_holds_20 (v := 162) (by decide) ?_
  refine v_iconst hC dX12_holds_23 (v := 4) (by decide) ?_
  refine v_iload_n hC dX12_holds_24 rfl ?_
  obtain ⟨v_56, h_57⟩ : ∃ v9 : Int32, (4 : Int32) * a_1 = v9 := ⟨_, rfl⟩
  refine v_imul hC dX12_holds_25 h_57 ?_
  have h_58 := mul_v 4 99 396 h_57 (by decide) (by first | omega | (simp only [Int32.lt_iff_toInt_lt, Int32.le_iff_toInt_le, Int32.reduceToInt, ← Int32.toInt_inj, true_and, and_true, or_true, true_or, false_or, or_false, false_and, and_false, not_true_eq_false, not_false_eq_true] <;> omega)) (by decide) (by decide)
  try simp only [Int32.reduceToInt] at h_58
  obtain ⟨v_59, h_60⟩ : ∃ v9 : Int32, (162 : Int32) + v_56 = v9 := ⟨_, rfl⟩
  refine v_iadd hC dX12_holds_26 h_60 ?_
  have h_61 := add_v h_60 (by first | omega | (simp only [Int32.lt_iff_toInt_lt, Int32.le_iff_toInt_le, Int32.reduceToInt, ← Int32.toInt_inj, true_and, and_true, or_true, true_or, false_or, or_false, false_and, and_false, not_true_eq_false, not_false_eq_true] <;> omega)) (by first | omega | (simp only [Int32.lt_iff_toInt_lt, Int32.le_iff_toInt_le, Int32.reduceToInt, ← Int32.toInt_inj, true_and, and_true, or_true, true_or, false_or, or_false, false_and, and_false, not_true_eq_false, not_false_eq_true] <;> omega))
  try simp only [Int32.reduceToInt] at h_61
  refine v_iconst hC dX12_holds_27 (v := 2) (by decide) ?_
  obtain ⟨v_62, h_63⟩ : ∃ v9 : Int32, v_59 + 2 = v9 := ⟨_, rfl⟩
  refine v_iadd hC dX12_holds_28 h_63 ?_
  have h_64 := add_v h_63 (by first | omega | (simp only [Int32.lt_iff_toInt_lt, Int32.le_iff_toInt_le, Int32.reduceToInt, ← Int32.toInt_inj, true_and, and_true, or_true, true_or, false_or, or_false, false_and, and_false, not_true_eq_false, not_false_eq_true] <;> omega)) (by first | omega | (simp only [Int32.lt_iff_toInt_lt, Int32.le_iff_toInt_le, Int32.reduceToInt, ← Int32.toInt_inj, true_and, and_true, or_true, true_or, false_or, or_false, false_and, and_false, not_true_eq_false, not_false_eq_true] <;> omega))
  try simp only [Int32.reduceToInt] at h_64
  obtain ⟨v_65, h_66⟩ : ∃ v9 : Int32, g_w (v_62 : Int32).toNatClampNeg = v9 := ⟨_, rfl⟩
  refine v_iald hC m_22 e_w (vp_in_iff.mpr (by first | omega | (simp only [Int32.lt_iff_toInt_lt, Int32.le_iff_toInt_le, Int32.reduceToInt, ← Int32.toInt_inj, true_and, and_true, or_true, true_or, false_or, or_false, false_and, and_false, not_true_eq_false, not_false_eq_true] <;> omega))) h_66 dX12_holds_29 ?_
  have b_67 := tst_at o_w (i := v_51) (i2 := v_62) (t := a_1) (by omega) hts (by omega) (by omega)
  rw [h_55, h_66] at b_67
  obtain ⟨v_68, h_69⟩ : ∃ v9 : Int32, v_54 + v_65 = v9 := ⟨_, rfl⟩
  refine v_iadd hC dX12_holds_30 h_69 ?_
  have h_70 := add_v h_69 (by first | omega | (simp only [Int32.lt_iff_toInt_lt, Int32.le_iff_toInt_le, Int32.reduceToInt, ← Int32.toInt_inj, true_and, and_true, or_true, true_or, false_or, or_false, false_and, and_false, not_true_eq_false, not_false_eq_true] <;> omega)) (by first | omega | (simp only [Int32.lt_iff_toInt_lt, Int32.le_iff_toInt_le, Int32.reduceToInt, ← Int32.toInt_inj, true_and, and_true, or_true, true_or, false_or, or_false, false_and, and_false, not_true_eq_false, not_false_eq_true] <;> omega))
  have b_71 : ((-150) ≤ v_68.toInt ∧ v_68.toInt ≤ 150) := (by first | omega | (simp only [Int32.lt_iff_toInt_lt, Int32.le_iff_toInt_le, Int32.reduceToInt, ← Int32.toInt_inj, true_and, and_true, or_true, true_or, false_or, or_false, false_and, and_false, not_true_eq_false, not_false_eq_true] <;> omega))
  refine v_istore_n hC dX12_holds_31 (by decide) (lv' := [(3, .int v_68), (2, .int v_54), (0, .ref a_0), (1, .int a_1)]) rfl ?_
  refine v_lconst hC dX12_holds_32 (v := 0) (by decide) ?_
  refine v_lstore hC dX12_holds_33 (by decide) (lv' := [(4, .long 0), (3, .int v_68), (2, .int v_54), (0, .ref a_0), (1, .int a_1)]) rfl ?_
  refine v_lconst hC dX12_holds_35 (v := 0) (by decide) ?_
  refine v_lstore hC dX12_holds_36 (by decide) (lv' := [(6, .long 0), (4, .long 0), (3, .int v_68), (2, .int v_54), (0, .ref a_0), (1, .int a_1)]) rfl ?_
  have lp_727 : ∀ (n_728 : Nat) (i_723 : Int64) (i_724 : Int64) (i_725 : Int32) (b_726 : (0 ≤ i_725.toInt ∧ i_725.toInt ≤ 150)) (hm_730 : 150 - i_725.toInt < (n_728 : Int)), V z E 11 0 0 L f 38 [(6, .long i_723), (4, .long i_724), (3, .int v_68), (2, .int i_725), (0, .ref a_0), (1, .int a_1)] [] := by
    intro n_728
    induction n_728 with
    | zero =>
      intro i_723 i_724 i_725 b_726 hm_730
      exfalso; omega
    | succ n_728 ih_729 =>
      intro i_723 i_724 i_725 b_726 hm_730
      refine v_iload_n hC dX12_holds_38 rfl ?_
      refine v_iload_n hC dX12_holds_39 rfl ?_
      refine v_icmp_ge hC dX12_holds_40 (tgt := 173) (by decide) (fun h_731 => ?_) (fun h_731 => ?_)
      · simp only [Int32.lt_iff_toInt_lt, Int32.le_iff_toInt_le, Int32.reduceToInt, ← Int32.toInt_inj] at h_731
        refine v_aload_n hC dX12_holds_173 rfl ?_
        refine v_get hC fl_X12_13 m_1 e_26 rfl dX12_holds_174 ?_
        refine v_sipush hC dX12_holds_177 (v := 162) (by decide) ?_
        refine v_iconst hC dX12_holds_180 (v := 4) (by decide) ?_
        refine v_iload_n hC dX12_holds_181 rfl ?_
        obtain ⟨v_732, h_733⟩ : ∃ v9 : Int32, (4 : Int32) * a_1 = v9 := ⟨_, rfl⟩
        refine v_imul hC dX12_holds_182 h_733 ?_
        have h_734 := mul_v 4 99 396 h_733 (by decide) (by first | omega | (simp only [Int32.lt_iff_toInt_lt, Int32.le_iff_toInt_le, Int32.reduceToInt, ← Int32.toInt_inj, true_and, and_true, or_true, true_or, false_or, or_false, false_and, and_false, not_true_eq_false, not_false_eq_true] <;> omega)) (by decide) (by decide)
        try simp only [Int32.reduceToInt] at h_734
        obtain ⟨v_735, h_736⟩ : ∃ v9 : Int32, (162 : Int32) + v_732 = v9 := ⟨_, rfl⟩
        refine v_iadd hC dX12_holds_183 h_736 ?_
        have h_737 := add_v h_736 (by first | omega | (simp only [Int32.lt_iff_toInt_lt, Int32.le_iff_toInt_le, Int32.reduceToInt, ← Int32.toInt_inj, true_and, and_true, or_true, true_or, false_or, or_false, false_and, and_false, not_true_eq_false, not_false_eq_true] <;> omega)) (by first | omega | (simp only [Int32.lt_iff_toInt_lt, Int32.le_iff_toInt_le, Int32.reduceToInt, ← Int32.toInt_inj, true_and, and_true, or_true, true_or, false_or, or_false, false_and, and_false, not_true_eq_false, not_false_eq_true] <;> omega))
        try simp only [Int32.reduceToInt] at h_737
        refine v_iconst hC dX12_holds_184 (v := 3) (by decide) ?_
        obtain ⟨v_738, h_739⟩ : ∃ v9 : Int32, v_735 + 3 = v9 := ⟨_, rfl⟩
        refine v_iadd hC dX12_holds_185 h_739 ?_
        have h_740 := add_v h_739 (by first | omega | (simp only [Int32.lt_iff_toInt_lt, Int32.le_iff_toInt_le, Int32.reduceToInt, ← Int32.toInt_inj, true_and, and_true, or_true, true_or, false_or, or_false, false_and, and_false, not_true_eq_false, not_false_eq_true] <;> omega)) (by first | omega | (simp only [Int32.lt_iff_toInt_lt, Int32.le_iff_toInt_le, Int32.reduceToInt, ← Int32.toInt_inj, true_and, and_true, or_true, true_or, false_or, or_false, false_and, and_false, not_true_eq_false, not_false_eq_true] <;> omega))
        try simp only [Int32.reduceToInt] at h_740
        obtain ⟨v_741, h_742⟩ : ∃ v9 : Int32, g_w (v_738 : Int32).toNatClampNeg = v9 := ⟨_, rfl⟩
        refine v_iald hC m_22 e_w (vp_in_iff.mpr (by first | omega | (simp only [Int32.lt_iff_toInt_lt, Int32.le_iff_toInt_le, Int32.reduceToInt, ← Int32.toInt_inj, true_and, and_true, or_true, true_or, false_or, or_false, false_and, and_false, not_true_eq_false, not_false_eq_true] <;> omega))) h_742 dX12_holds_186 ?_
        refine v_istore hC dX12_holds_187 (by decide) (lv' := [(8, .int v_741), (6, .long i_723), (4, .long i_724), (3, .int v_68), (2, .int i_725), (0, .ref a_0), (1, .int a_1)]) rfl ?_
        refine v_iload hC dX12_holds_189 rfl ?_
        refine v_if_ne hC dX12_holds_191 (tgt := 210) (by decide) (fun h_743 => ?_) (fun h_743 => ?_)
        · simp only [Int32.lt_iff_toInt_lt, Int32.le_iff_toInt_le, Int32.reduceToInt, ← Int32.toInt_inj] at h_743
          refine v_iload hC dX12_holds_210 rfl ?_
          refine v_iconst hC dX12_holds_212 (v := 1) (by decide) ?_
          refine v_icmp_ne hC dX12_holds_213 (tgt := 232) (by decide) (fun h_744 => ?_) (fun h_744 => ?_)
          · simp only [Int32.lt_iff_toInt_lt, Int32.le_iff_toInt_le, Int32.reduceToInt, ← Int32.toInt_inj] at h_744
            refine v_lload hC dX12_holds_232 rfl ?_
            refine v_lload hC dX12_holds_234 rfl ?_
            obtain ⟨v_745, h_746⟩ : ∃ v9 : Int32, lg_cmp (i_724 : Int64) i_723 = v9 := ⟨_, rfl⟩
            refine v_lcmp hC dX12_holds_236 h_746 ?_
            refine v_if_ne hC dX12_holds_237 (tgt := 244) (by decide) (fun h_747 => ?_) (fun h_747 => ?_)
            · have h_748 := h_747
              refine v_iconst hC dX12_holds_244 (v := 0) (by decide) ?_
              exact hR _ _ _ _ _ _ _ dX12_holds_245 rfl (Nat.le_of_ble_eq_true rfl) (Nat.le_of_ble_eq_true rfl) ⟨rfl, rfl, (by decide)⟩
            · have h_749 := h_747
              refine v_iconst hC dX12_holds_240 (v := 1) (by decide) ?_
              refine v_goto hC dX12_holds_241 (tgt := 245) (by decide) ?_
              exact hR _ _ _ _ _ _ _ dX12_holds_245 rfl (Nat.le_of_ble_eq_true rfl) (Nat.le_of_ble_eq_true rfl) ⟨rfl, rfl, (by decide)⟩
          · simp only [Int32.lt_iff_toInt_lt, Int32.le_iff_toInt_le, Int32.reduceToInt, ← Int32.toInt_inj] at h_744
            refine v_lload hC dX12_holds_216 rfl ?_
            refine v_lload hC dX12_holds_218 rfl ?_
            obtain ⟨v_750, h_751⟩ : ∃ v9 : Int32, lg_cmp (i_724 : Int64) i_723 = v9 := ⟨_, rfl⟩
            refine v_lcmp hC dX12_holds_220 h_751 ?_
            refine v_if_ge hC dX12_holds_221 (tgt := 228) (by decide) (fun h_752 => ?_) (fun h_752 => ?_)
            · rw [← h_751] at h_752
              have h_753 := (lgc_ge.mp h_752)
              simp only [Int64.lt_iff_toInt_lt, Int64.le_iff_toInt_le] at h_753
              refine v_iconst hC dX12_holds_228 (v := 0) (by decide) ?_
              refine v_goto hC dX12_holds_229 (tgt := 245) (by decide) ?_
              exact hR _ _ _ _ _ _ _ dX12_holds_245 rfl (Nat.le_of_ble_eq_true rfl) (Nat.le_of_ble_eq_true rfl) ⟨rfl, rfl, (by decide)⟩
            · rw [← h_751] at h_752
              have h_754 := (mt lgc_ge.mpr h_752)
              simp only [Int64.lt_iff_toInt_lt, Int64.le_iff_toInt_le] at h_754
              refine v_iconst hC dX12_holds_224 (v := 1) (by decide) ?_
              refine v_goto hC dX12_holds_225 (tgt := 245) (by decide) ?_
              exact hR _ _ _ _ _ _ _ dX12_holds_245 rfl (Nat.le_of_ble_eq_true rfl) (Nat.le_of_ble_eq_true rfl) ⟨rfl, rfl, (by decide)⟩
        · simp only [Int32.lt_iff_toInt_lt, Int32.le_iff_toInt_le, Int32.reduceToInt, ← Int32.toInt_inj] at h_743
          refine v_lload hC dX12_holds_194 rfl ?_
          refine v_lload hC dX12_holds_196 rfl ?_
          obtain ⟨v_755, h_756⟩ : ∃ v9 : Int32, lg_cmp (i_724 : Int64) i_723 = v9 := ⟨_, rfl⟩
          refine v_lcmp hC dX12_holds_198 h_756 ?_
          refine v_if_le hC dX12_holds_199 (tgt := 206) (by decide) (fun h_757 => ?_) (fun h_757 => ?_)
          · rw [← h_756] at h_757
            have h_758 := (lgc_le.mp h_757)
            simp only [Int64.lt_iff_toInt_lt, Int64.le_iff_toInt_le] at h_758
            refine v_iconst hC dX12_holds_206 (v := 0) (by decide) ?_
            refine v_goto hC dX12_holds_207 (tgt := 245) (by decide) ?_
            exact hR _ _ _ _ _ _ _ dX12_holds_245 rfl (Nat.le_of_ble_eq_true rfl) (Nat.le_of_ble_eq_true rfl) ⟨rfl, rfl, (by decide)⟩
          · rw [← h_756] at h_757
            have h_759 := (mt lgc_le.mpr h_757)
            simp only [Int64.lt_iff_toInt_lt, Int64.le_iff_toInt_le] at h_759
            refine v_iconst hC dX12_holds_202 (v := 1) (by decide) ?_
            refine v_goto hC dX12_holds_203 (tgt := 245) (by decide) ?_
            exact hR _ _ _ _ _ _ _ dX12_holds_245 rfl (Nat.le_of_ble_eq_true rfl) (Nat.le_of_ble_eq_true rfl) ⟨rfl, rfl, (by decide)⟩
      · simp only [Int32.lt_iff_toInt_lt, Int32.le_iff_toInt_le, Int32.reduceToInt, ← Int32.toInt_inj] at h_731
        refine v_aload_n hC dX12_holds_43 rfl ?_
        refine v_get hC fl_X12_13 m_1 e_26 rfl dX12_holds_44 ?_
        refine v_sipush hC dX12_holds_47 (v := 562) (by decide) ?_
        refine v_iconst hC dX12_holds_50 (v := 3) (by decide) ?_
        refine v_iload_n hC dX12_holds_51 rfl ?_
        obtain ⟨v_760, h_761⟩ : ∃ v9 : Int32, (3 : Int32) * i_725 = v9 := ⟨_, rfl⟩
        refine v_imul hC dX12_holds_52 h_761 ?_
        have h_762 := mul_v 3 149 447 h_761 (by decide) (by first | omega | (simp only [Int32.lt_iff_toInt_lt, Int32.le_iff_toInt_le, Int32.reduceToInt, ← Int32.toInt_inj, true_and, and_true, or_true, true_or, false_or, or_false, false_and, and_false, not_true_eq_false, not_false_eq_true] <;> omega)) (by decide) (by decide)
        try simp only [Int32.reduceToInt] at h_762
        obtain ⟨v_763, h_764⟩ : ∃ v9 : Int32, (562 : Int32) + v_760 = v9 := ⟨_, rfl⟩
        refine v_iadd hC dX12_holds_53 h_764 ?_
        have h_765 := add_v h_764 (by first | omega | (simp only [Int32.lt_iff_toInt_lt, Int32.le_iff_toInt_le, Int32.reduceToInt, ← Int32.toInt_inj, true_and, and_true, or_true, true_or, false_or, or_false, false_and, and_false, not_true_eq_false, not_false_eq_true] <;> omega)) (by first | omega | (simp only [Int32.lt_iff_toInt_lt, Int32.le_iff_toInt_le, Int32.reduceToInt, ← Int32.toInt_inj, true_and, and_true, or_true, true_or, false_or, or_false, false_and, and_false, not_true_eq_false, not_false_eq_true] <;> omega))
        try simp only [Int32.reduceToInt] at h_765
        obtain ⟨v_766, h_767⟩ : ∃ v9 : Int32, g_w (v_763 : Int32).toNatClampNeg = v9 := ⟨_, rfl⟩
        refine v_iald hC m_22 e_w (vp_in_iff.mpr (by first | omega | (simp only [Int32.lt_iff_toInt_lt, Int32.le_iff_toInt_le, Int32.reduceToInt, ← Int32.toInt_inj, true_and, and_true, or_true, true_or, false_or, or_false, false_and, and_false, not_true_eq_false, not_false_eq_true] <;> omega))) h_767 dX12_holds_54 ?_
        refine v_istore hC dX12_holds_55 (by decide) (lv' := [(8, .int v_766), (6, .long i_723), (4, .long i_724), (3, .int v_68), (2, .int i_725), (0, .ref a_0), (1, .int a_1)]) rfl ?_
        refine v_aload_n hC dX12_holds_57 rfl ?_
        refine v_iload_n hC dX12_holds_58 rfl ?_
        refine v_vj hC (rest := []) m_1 e_26 rfl mi_X12_partOf ms_X12_partOf (p_X12_partOf hW k_0 (by first | omega | (simp only [Int32.lt_iff_toInt_lt, Int32.le_iff_toInt_le, Int32.reduceToInt, ← Int32.toInt_inj, true_and, and_true, or_true, true_or, false_or, or_false, false_and, and_false, not_true_eq_false, not_false_eq_true] <;> omega)) e_w o_w) mx_X12_partOf ml_X12_394 (by decide) rfl (cells1 := 0) (slots1 := 0) (by decide) (by decide) (Nat.le_of_ble_eq_true rfl) (Nat.le_of_ble_eq_true rfl) rfl (Nat.le_of_ble_eq_true rfl) dX12_holds_59 (fun r_768 L_769 f_770 h_771 => ?_)
        obtain ⟨rfl, rfl⟩ := h_771
        refine v_lstore hC dX12_holds_62 (by decide) (lv' := [(9, .long r_768), (8, .int v_766), (6, .long i_723), (4, .long i_724), (3, .int v_68), (2, .int i_725), (0, .ref a_0), (1, .int a_1)]) rfl ?_
        obtain ⟨v_774, h_775⟩ : ∃ v9 : Int32, i_725 + Int32.ofInt 1 = v9 := ⟨_, rfl⟩
        have h_776 := add_v (b := 1) h_775 (by first | omega | (simp only [Int32.lt_iff_toInt_lt, Int32.le_iff_toInt_le, Int32.reduceToInt, ← Int32.toInt_inj, true_and, and_true, or_true, true_or, false_or, or_false, false_and, and_false, not_true_eq_false, not_false_eq_true] <;> omega)) (by first | omega | (simp only [Int32.lt_iff_toInt_lt, Int32.le_iff_toInt_le, Int32.reduceToInt, ← Int32.toInt_inj, true_and, and_true, or_true, true_or, false_or, or_false, false_and, and_false, not_true_eq_false, not_false_eq_true] <;> omega))
        simp only [Int32.reduceToInt] at h_776
        refine v_iinc hC dX12_holds_64 (k := 5) rfl (v := v_774) h_775 (by decide) (lv' := [(2, .int v_774), (9, .long r_768), (8, .int v_766), (6, .long i_723), (4, .long i_724), (3, .int v_68), (0, .ref a_0), (1, .int a_1)]) rfl ?_
        have lp_962 : ∀ (n_963 : Nat) (i_958 : Int32) (b_960 : (0 ≤ i_958.toInt ∧ i_958.toInt ≤ 150)) (i_959 : Int64) (nv_961 : v_774.toInt ≤ i_958.toInt) (hm_965 : 150 - i_958.toInt < (n_963 : Int)), V z E 11 0 0 L f 67 [(2, .int i_958), (9, .long i_959), (8, .int v_766), (6, .long i_723), (4, .long i_724), (3, .int v_68), (0, .ref a_0), (1, .int a_1)] [] := by
          intro n_963
          induction n_963 with
          | zero =>
            intro i_958 b_960 i_959 nv_961 hm_965
            exfalso; omega
          | succ n_963 ih_964 =>
            intro i_958 b_960 i_959 nv_961 hm_965
            refine v_iload_n hC dX12_holds_67 rfl ?_
            refine v_iload_n hC dX12_holds_68 rfl ?_
            refine v_icmp_ge hC dX12_holds_69 (tgt := 120) (by decide) (fun h_966 => ?_) (fun h_966 => ?_)
            · simp only [Int32.lt_iff_toInt_lt, Int32.le_iff_toInt_le, Int32.reduceToInt, ← Int32.toInt_inj] at h_966
              refine v_iload hC dX12_holds_120 rfl ?_
              refine v_iconst hC dX12_holds_122 (v := 4) (by decide) ?_
              have jn_968 : ∀ (v_969 : Int64) (v_970 : Int64), V z E 11 0 0 L f 133 [(2, .int i_958), (9, .long i_959), (8, .int v_766), (6, .long v_969), (4, .long v_970), (3, .int v_68), (0, .ref a_0), (1, .int a_1)] [] := by
                intro v_969 v_970
                refine v_iload hC dX12_holds_133 rfl ?_
                refine v_iconst hC dX12_holds_135 (v := 2) (by decide) ?_
                refine v_icmp_ne hC dX12_holds_136 (tgt := 147) (by decide) (fun h_971 => ?_) (fun h_971 => ?_)
                · simp only [Int32.lt_iff_toInt_lt, Int32.le_iff_toInt_le, Int32.reduceToInt, ← Int32.toInt_inj] at h_971
                  refine v_lload hC dX12_holds_147 rfl ?_
                  refine v_lload hC dX12_holds_149 rfl ?_
                  obtain ⟨v_972, h_973⟩ : ∃ v9 : Int64, v_969 + i_959 = v9 := ⟨_, rfl⟩
                  refine v_ladd hC dX12_holds_151 h_973 ?_
                  refine v_lstore hC dX12_holds_152 (by decide) (lv' := [(6, .long v_972), (2, .int i_958), (9, .long i_959), (8, .int v_766), (4, .long v_970), (3, .int v_68), (0, .ref a_0), (1, .int a_1)]) rfl ?_
                  refine v_lload hC dX12_holds_154 rfl ?_
                  refine v_ldc2 hC kl_X12_398 dX12_holds_156 ?_
                  refine v_ldc2 hC kl_X12_400 dX12_holds_159 ?_
                  refine v_si hC (rest := []) mt_X12_in (p_X12_in hW) mx_X12_in ml_X12_79 (by decide) rfl (cells1 := 0) (slots1 := 0) (by decide) (by decide) (Nat.le_of_ble_eq_true rfl) (Nat.le_of_ble_eq_true rfl) rfl (Nat.le_of_ble_eq_true rfl) dX12_holds_162 (fun r_974 L_975 f_976 h_977 => ?_)
                  obtain ⟨rfl, rfl, b_978, x_979⟩ := h_977
                  try simp only [Int32.reduceToInt, Int64.reduceToInt] at x_979
                  refine v_if_ne hC dX12_holds_165 (tgt := 170) (by decide) (fun h_982 => ?_) (fun h_982 => ?_)
                  · simp only [Int32.lt_iff_toInt_lt, Int32.le_iff_toInt_le, Int32.reduceToInt, ← Int32.toInt_inj] at h_982
                    refine v_goto hC dX12_holds_170 (tgt := 38) (by decide) ?_
                    refine v_pick [0, 4, 5, 1, 6, 7] rfl ?_
                    exact ih_729 v_972 v_970 i_958 (by first | omega | (simp only [Int32.lt_iff_toInt_lt, Int32.le_iff_toInt_le, Int32.reduceToInt, ← Int32.toInt_inj, true_and, and_true, or_true, true_or, false_or, or_false, false_and, and_false, not_true_eq_false, not_false_eq_true] <;> omega)) (by first | omega | (simp only [Int32.lt_iff_toInt_lt, Int32.le_iff_toInt_le, Int32.reduceToInt, ← Int32.toInt_inj, true_and, and_true, or_true, true_or, false_or, or_false, false_and, and_false, not_true_eq_false, not_false_eq_true] <;> omega))
                  · simp only [Int32.lt_iff_toInt_lt, Int32.le_iff_toInt_le, Int32.reduceToInt, ← Int32.toInt_inj] at h_982
                    refine v_iconst hC dX12_holds_168 (v := 0) (by decide) ?_
                    exact hR _ _ _ _ _ _ _ dX12_holds_169 rfl (Nat.le_of_ble_eq_true rfl) (Nat.le_of_ble_eq_true rfl) ⟨rfl, rfl, (by decide)⟩
                · simp only [Int32.lt_iff_toInt_lt, Int32.le_iff_toInt_le, Int32.reduceToInt, ← Int32.toInt_inj] at h_971
                  refine v_lload hC dX12_holds_139 rfl ?_
                  refine v_lload hC dX12_holds_141 rfl ?_
                  obtain ⟨v_983, h_984⟩ : ∃ v9 : Int64, v_969 - i_959 = v9 := ⟨_, rfl⟩
                  refine v_lsub hC dX12_holds_143 h_984 ?_
                  refine v_goto hC dX12_holds_144 (tgt := 152) (by decide) ?_
                  refine v_lstore hC dX12_holds_152 (by decide) (lv' := [(6, .long v_983), (2, .int i_958), (9, .long i_959), (8, .int v_766), (4, .long v_970), (3, .int v_68), (0, .ref a_0), (1, .int a_1)]) rfl ?_
                  refine v_lload hC dX12_holds_154 rfl ?_
                  refine v_ldc2 hC kl_X12_398 dX12_holds_156 ?_
                  refine v_ldc2 hC kl_X12_400 dX12_holds_159 ?_
                  refine v_si hC (rest := []) mt_X12_in (p_X12_in hW) mx_X12_in ml_X12_79 (by decide) rfl (cells1 := 0) (slots1 := 0) (by decide) (by decide) (Nat.le_of_ble_eq_true rfl) (Nat.le_of_ble_eq_true rfl) rfl (Nat.le_of_ble_eq_true rfl) dX12_holds_162 (fun r_985 L_986 f_987 h_988 => ?_)
                  obtain ⟨rfl, rfl, b_989, x_990⟩ := h_988
                  try simp only [Int32.reduceToInt, Int64.reduceToInt] at x_990
                  refine v_if_ne hC dX12_holds_165 (tgt := 170) (by decide) (fun h_993 => ?_) (fun h_993 => ?_)
                  · simp only [Int32.lt_iff_toInt_lt, Int32.le_iff_toInt_le, Int32.reduceToInt, ← Int32.toInt_inj] at h_993
                    refine v_goto hC dX12_holds_170 (tgt := 38) (by decide) ?_
                    refine v_pick [0, 4, 5, 1, 6, 7] rfl ?_
                    exact ih_729 v_983 v_970 i_958 (by first | omega | (simp only [Int32.lt_iff_toInt_lt, Int32.le_iff_toInt_le, Int32.reduceToInt, ← Int32.toInt_inj, true_and, and_true, or_true, true_or, false_or, or_false, false_and, and_false, not_true_eq_false, not_false_eq_true] <;> omega)) (by first | omega | (simp only [Int32.lt_iff_toInt_lt, Int32.le_iff_toInt_le, Int32.reduceToInt, ← Int32.toInt_inj, true_and, and_true, or_true, true_or, false_or, or_false, false_and, and_false, not_true_eq_false, not_false_eq_true] <;> omega))
                  · simp only [Int32.lt_iff_toInt_lt, Int32.le_iff_toInt_le, Int32.reduceToInt, ← Int32.toInt_inj] at h_993
                    refine v_iconst hC dX12_holds_168 (v := 0) (by decide) ?_
                    exact hR _ _ _ _ _ _ _ dX12_holds_169 rfl (Nat.le_of_ble_eq_true rfl) (Nat.le_of_ble_eq_true rfl) ⟨rfl, rfl, (by decide)⟩
              refine v_icmp_ne hC dX12_holds_123 (tgt := 133) (by decide) (fun h_967 => ?_) (fun h_967 => ?_)
              · simp only [Int32.lt_iff_toInt_lt, Int32.le_iff_toInt_le, Int32.reduceToInt, ← Int32.toInt_inj] at h_967
                refine v_pick [0, 1, 2, 3, 4, 5, 6, 7] rfl ?_
                exact jn_968 i_723 i_724
              · simp only [Int32.lt_iff_toInt_lt, Int32.le_iff_toInt_le, Int32.reduceToInt, ← Int32.toInt_inj] at h_967
                refine v_lload hC dX12_holds_126 rfl ?_
                refine v_lstore hC dX12_holds_128 (by decide) (lv' := [(4, .long i_723), (2, .int i_958), (9, .long i_959), (8, .int v_766), (6, .long i_723), (3, .int v_68), (0, .ref a_0), (1, .int a_1)]) rfl ?_
                refine v_lconst hC dX12_holds_130 (v := 0) (by decide) ?_
                refine v_lstore hC dX12_holds_131 (by decide) (lv' := [(6, .long 0), (4, .long i_723), (2, .int i_958), (9, .long i_959), (8, .int v_766), (3, .int v_68), (0, .ref a_0), (1, .int a_1)]) rfl ?_
                refine v_pick [2, 3, 4, 0, 1, 5, 6, 7] rfl ?_
                exact jn_968 0 i_723
            · simp only [Int32.lt_iff_toInt_lt, Int32.le_iff_toInt_le, Int32.reduceToInt, ← Int32.toInt_inj] at h_966
              refine v_aload_n hC dX12_holds_72 rfl ?_
              refine v_get hC fl_X12_13 m_1 e_26 rfl dX12_holds_73 ?_
              refine v_sipush hC dX12_holds_76 (v := 562) (by decide) ?_
              refine v_iconst hC dX12_holds_79 (v := 3) (by decide) ?_
              refine v_iload_n hC dX12_holds_80 rfl ?_
              obtain ⟨v_994, h_995⟩ : ∃ v9 : Int32, (3 : Int32) * i_958 = v9 := ⟨_, rfl⟩
              refine v_imul hC dX12_holds_81 h_995 ?_
              have h_996 := mul_v 3 149 447 h_995 (by decide) (by first | omega | (simp only [Int32.lt_iff_toInt_lt, Int32.le_iff_toInt_le, Int32.reduceToInt, ← Int32.toInt_inj, true_and, and_true, or_true, true_or, false_or, or_false, false_and, and_false, not_true_eq_false, not_false_eq_true] <;> omega)) (by decide) (by decide)
              try simp only [Int32.reduceToInt] at h_996
              obtain ⟨v_997, h_998⟩ : ∃ v9 : Int32, (562 : Int32) + v_994 = v9 := ⟨_, rfl⟩
              refine v_iadd hC dX12_holds_82 h_998 ?_
              have h_999 := add_v h_998 (by first | omega | (simp only [Int32.lt_iff_toInt_lt, Int32.le_iff_toInt_le, Int32.reduceToInt, ← Int32.toInt_inj, true_and, and_true, or_true, true_or, false_or, or_false, false_and, and_false, not_true_eq_false, not_false_eq_true] <;> omega)) (by first | omega | (simp only [Int32.lt_iff_toInt_lt, Int32.le_iff_toInt_le, Int32.reduceToInt, ← Int32.toInt_inj, true_and, and_true, or_true, true_or, false_or, or_false, false_and, and_false, not_true_eq_false, not_false_eq_true] <;> omega))
              try simp only [Int32.reduceToInt] at h_999
              obtain ⟨v_1000, h_1001⟩ : ∃ v9 : Int32, g_w (v_997 : Int32).toNatClampNeg = v9 := ⟨_, rfl⟩
              refine v_iald hC m_22 e_w (vp_in_iff.mpr (by first | omega | (simp only [Int32.lt_iff_toInt_lt, Int32.le_iff_toInt_le, Int32.reduceToInt, ← Int32.toInt_inj, true_and, and_true, or_true, true_or, false_or, or_false, false_and, and_false, not_true_eq_false, not_false_eq_true] <;> omega))) h_1001 dX12_holds_83 ?_
              refine v_iconst hC dX12_holds_84 (v := 3) (by decide) ?_
              refine v_icmp_ne hC dX12_holds_85 (tgt := 120) (by decide) (fun h_1002 => ?_) (fun h_1002 => ?_)
              · simp only [Int32.lt_iff_toInt_lt, Int32.le_iff_toInt_le, Int32.reduceToInt, ← Int32.toInt_inj] at h_1002
                refine v_iload hC dX12_holds_120 rfl ?_
                refine v_iconst hC dX12_holds_122 (v := 4) (by decide) ?_
                have jn_1004 : ∀ (v_1005 : Int64) (v_1006 : Int64), V z E 11 0 0 L f 133 [(2, .int i_958), (9, .long i_959), (8, .int v_766), (6, .long v_1005), (4, .long v_1006), (3, .int v_68), (0, .ref a_0), (1, .int a_1)] [] := by
                  intro v_1005 v_1006
                  refine v_iload hC dX12_holds_133 rfl ?_
                  refine v_iconst hC dX12_holds_135 (v := 2) (by decide) ?_
                  refine v_icmp_ne hC dX12_holds_136 (tgt := 147) (by decide) (fun h_1007 => ?_) (fun h_1007 => ?_)
                  · simp only [Int32.lt_iff_toInt_lt, Int32.le_iff_toInt_le, Int32.reduceToInt, ← Int32.toInt_inj] at h_1007
                    refine v_lload hC dX12_holds_147 rfl ?_
                    refine v_lload hC dX12_holds_149 rfl ?_
                    obtain ⟨v_1008, h_1009⟩ : ∃ v9 : Int64, v_1005 + i_959 = v9 := ⟨_, rfl⟩
                    refine v_ladd hC dX12_holds_151 h_1009 ?_
                    refine v_lstore hC dX12_holds_152 (by decide) (lv' := [(6, .long v_1008), (2, .int i_958), (9, .long i_959), (8, .int v_766), (4, .long v_1006), (3, .int v_68), (0, .ref a_0), (1, .int a_1)]) rfl ?_
                    refine v_lload hC dX12_holds_154 rfl ?_
                    refine v_ldc2 hC kl_X12_398 dX12_holds_156 ?_
                    refine v_ldc2 hC kl_X12_400 dX12_holds_159 ?_
                    refine v_si hC (rest := []) mt_X12_in (p_X12_in hW) mx_X12_in ml_X12_79 (by decide) rfl (cells1 := 0) (slots1 := 0) (by decide) (by decide) (Nat.le_of_ble_eq_true rfl) (Nat.le_of_ble_eq_true rfl) rfl (Nat.le_of_ble_eq_true rfl) dX12_holds_162 (fun r_1010 L_1011 f_1012 h_1013 => ?_)
                    obtain ⟨rfl, rfl, b_1014, x_1015⟩ := h_1013
                    try simp only [Int32.reduceToInt, Int64.reduceToInt] at x_1015
                    refine v_if_ne hC dX12_holds_165 (tgt := 170) (by decide) (fun h_1018 => ?_) (fun h_1018 => ?_)
                    · simp only [Int32.lt_iff_toInt_lt, Int32.le_iff_toInt_le, Int32.reduceToInt, ← Int32.toInt_inj] at h_1018
                      refine v_goto hC dX12_holds_170 (tgt := 38) (by decide) ?_
                      refine v_pick [0, 4, 5, 1, 6, 7] rfl ?_
                      exact ih_729 v_1008 v_1006 i_958 (by first | omega | (simp only [Int32.lt_iff_toInt_lt, Int32.le_iff_toInt_le, Int32.reduceToInt, ← Int32.toInt_inj, true_and, and_true, or_true, true_or, false_or, or_false, false_and, and_false, not_true_eq_false, not_false_eq_true] <;> omega)) (by first | omega | (simp only [Int32.lt_iff_toInt_lt, Int32.le_iff_toInt_le, Int32.reduceToInt, ← Int32.toInt_inj, true_and, and_true, or_true, true_or, false_or, or_false, false_and, and_false, not_true_eq_false, not_false_eq_true] <;> omega))
                    · simp only [Int32.lt_iff_toInt_lt, Int32.le_iff_toInt_le, Int32.reduceToInt, ← Int32.toInt_inj] at h_1018
                      refine v_iconst hC dX12_holds_168 (v := 0) (by decide) ?_
                      exact hR _ _ _ _ _ _ _ dX12_holds_169 rfl (Nat.le_of_ble_eq_true rfl) (Nat.le_of_ble_eq_true rfl) ⟨rfl, rfl, (by decide)⟩
                  · simp only [Int32.lt_iff_toInt_lt, Int32.le_iff_toInt_le, Int32.reduceToInt, ← Int32.toInt_inj] at h_1007
                    refine v_lload hC dX12_holds_139 rfl ?_
                    refine v_lload hC dX12_holds_141 rfl ?_
                    obtain ⟨v_1019, h_1020⟩ : ∃ v9 : Int64, v_1005 - i_959 = v9 := ⟨_, rfl⟩
                    refine v_lsub hC dX12_holds_143 h_1020 ?_
                    refine v_goto hC dX12_holds_144 (tgt := 152) (by decide) ?_
                    refine v_lstore hC dX12_holds_152 (by decide) (lv' := [(6, .long v_1019), (2, .int i_958), (9, .long i_959), (8, .int v_766), (4, .long v_1006), (3, .int v_68), (0, .ref a_0), (1, .int a_1)]) rfl ?_
                    refine v_lload hC dX12_holds_154 rfl ?_
                    refine v_ldc2 hC kl_X12_398 dX12_holds_156 ?_
                    refine v_ldc2 hC kl_X12_400 dX12_holds_159 ?_
                    refine v_si hC (rest := []) mt_X12_in (p_X12_in hW) mx_X12_in ml_X12_79 (by decide) rfl (cells1 := 0) (slots1 := 0) (by decide) (by decide) (Nat.le_of_ble_eq_true rfl) (Nat.le_of_ble_eq_true rfl) rfl (Nat.le_of_ble_eq_true rfl) dX12_holds_162 (fun r_1021 L_1022 f_1023 h_1024 => ?_)
                    obtain ⟨rfl, rfl, b_1025, x_1026⟩ := h_1024
                    try simp only [Int32.reduceToInt, Int64.reduceToInt] at x_1026
                    refine v_if_ne hC dX12_holds_165 (tgt := 170) (by decide) (fun h_1029 => ?_) (fun h_1029 => ?_)
                    · simp only [Int32.lt_iff_toInt_lt, Int32.le_iff_toInt_le, Int32.reduceToInt, ← Int32.toInt_inj] at h_1029
                      refine v_goto hC dX12_holds_170 (tgt := 38) (by decide) ?_
                      refine v_pick [0, 4, 5, 1, 6, 7] rfl ?_
                      exact ih_729 v_1019 v_1006 i_958 (by first | omega | (simp only [Int32.lt_iff_toInt_lt, Int32.le_iff_toInt_le, Int32.reduceToInt, ← Int32.toInt_inj, true_and, and_true, or_true, true_or, false_or, or_false, false_and, and_false, not_true_eq_false, not_false_eq_true] <;> omega)) (by first | omega | (simp only [Int32.lt_iff_toInt_lt, Int32.le_iff_toInt_le, Int32.reduceToInt, ← Int32.toInt_inj, true_and, and_true, or_true, true_or, false_or, or_false, false_and, and_false, not_true_eq_false, not_false_eq_true] <;> omega))
                    · simp only [Int32.lt_iff_toInt_lt, Int32.le_iff_toInt_le, Int32.reduceToInt, ← Int32.toInt_inj] at h_1029
                      refine v_iconst hC dX12_holds_168 (v := 0) (by decide) ?_
                      exact hR _ _ _ _ _ _ _ dX12_holds_169 rfl (Nat.le_of_ble_eq_true rfl) (Nat.le_of_ble_eq_true rfl) ⟨rfl, rfl, (by decide)⟩
                refine v_icmp_ne hC dX12_holds_123 (tgt := 133) (by decide) (fun h_1003 => ?_) (fun h_1003 => ?_)
                · simp only [Int32.lt_iff_toInt_lt, Int32.le_iff_toInt_le, Int32.reduceToInt, ← Int32.toInt_inj] at h_1003
                  refine v_pick [0, 1, 2, 3, 4, 5, 6, 7] rfl ?_
                  exact jn_1004 i_723 i_724
                · simp only [Int32.lt_iff_toInt_lt, Int32.le_iff_toInt_le, Int32.reduceToInt, ← Int32.toInt_inj] at h_1003
                  refine v_lload hC dX12_holds_126 rfl ?_
                  refine v_lstore hC dX12_holds_128 (by decide) (lv' := [(4, .long i_723), (2, .int i_958), (9, .long i_959), (8, .int v_766), (6, .long i_723), (3, .int v_68), (0, .ref a_0), (1, .int a_1)]) rfl ?_
                  refine v_lconst hC dX12_holds_130 (v := 0) (by decide) ?_
                  refine v_lstore hC dX12_holds_131 (by decide) (lv' := [(6, .long 0), (4, .long i_723), (2, .int i_958), (9, .long i_959), (8, .int v_766), (3, .int v_68), (0, .ref a_0), (1, .int a_1)]) rfl ?_
                  refine v_pick [2, 3, 4, 0, 1, 5, 6, 7] rfl ?_
                  exact jn_1004 0 i_723
              · simp only [Int32.lt_iff_toInt_lt, Int32.le_iff_toInt_le, Int32.reduceToInt, ← Int32.toInt_inj] at h_1002
                refine v_lload hC dX12_holds_88 rfl ?_
                refine v_aload_n hC dX12_holds_90 rfl ?_
                refine v_iload_n hC dX12_holds_91 rfl ?_
                refine v_vj hC (rest := [.long i_959]) m_1 e_26 rfl mi_X12_partOf ms_X12_partOf (p_X12_partOf hW k_0 (by first | omega | (simp only [Int32.lt_iff_toInt_lt, Int32.le_iff_toInt_le, Int32.reduceToInt, ← Int32.toInt_inj, true_and, and_true, or_true, true_or, false_or, or_false, false_and, and_false, not_true_eq_false, not_false_eq_true] <;> omega)) e_w o_w) mx_X12_partOf ml_X12_394 (by decide) rfl (cells1 := 0) (slots1 := 0) (by decide) (by decide) (Nat.le_of_ble_eq_true rfl) (Nat.le_of_ble_eq_true rfl) rfl (Nat.le_of_ble_eq_true rfl) dX12_holds_92 (fun r_1030 L_1031 f_1032 h_1033 => ?_)
                obtain ⟨rfl, rfl⟩ := h_1033
                obtain ⟨v_1036, h_1037⟩ : ∃ v9 : Int64, i_959 * r_1030 = v9 := ⟨_, rfl⟩
                refine v_lmul hC dX12_holds_95 h_1037 ?_
                refine v_lstore hC dX12_holds_96 (by decide) (lv' := [(9, .long v_1036), (2, .int i_958), (8, .int v_766), (6, .long i_723), (4, .long i_724), (3, .int v_68), (0, .ref a_0), (1, .int a_1)]) rfl ?_
                refine v_lload hC dX12_holds_98 rfl ?_
                refine v_ldc2 hC kl_X12_398 dX12_holds_100 ?_
                refine v_ldc2 hC kl_X12_400 dX12_holds_103 ?_
                refine v_si hC (rest := []) mt_X12_in (p_X12_in hW) mx_X12_in ml_X12_79 (by decide) rfl (cells1 := 0) (slots1 := 0) (by decide) (by decide) (Nat.le_of_ble_eq_true rfl) (Nat.le_of_ble_eq_true rfl) rfl (Nat.le_of_ble_eq_true rfl) dX12_holds_106 (fun r_1038 L_1039 f_1040 h_1041 => ?_)
                obtain ⟨rfl, rfl, b_1042, x_1043⟩ := h_1041
                try simp only [Int32.reduceToInt, Int64.reduceToInt] at x_1043
                refine v_if_ne hC dX12_holds_109 (tgt := 114) (by decide) (fun h_1046 => ?_) (fun h_1046 => ?_)
                · simp only [Int32.lt_iff_toInt_lt, Int32.le_iff_toInt_le, Int32.reduceToInt, ← Int32.toInt_inj] at h_1046
                  obtain ⟨v_1047, h_1048⟩ : ∃ v9 : Int32, i_958 + Int32.ofInt 1 = v9 := ⟨_, rfl⟩
                  have h_1049 := add_v (b := 1) h_1048 (by first | omega | (simp only [Int32.lt_iff_toInt_lt, Int32.le_iff_toInt_le, Int32.reduceToInt, ← Int32.toInt_inj, true_and, and_true, or_true, true_or, false_or, or_false, false_and, and_false, not_true_eq_false, not_false_eq_true] <;> omega)) (by first | omega | (simp only [Int32.lt_iff_toInt_lt, Int32.le_iff_toInt_le, Int32.reduceToInt, ← Int32.toInt_inj, true_and, and_true, or_true, true_or, false_or, or_false, false_and, and_false, not_true_eq_false, not_false_eq_true] <;> omega))
                  simp only [Int32.reduceToInt] at h_1049
                  refine v_iinc hC dX12_holds_114 (k := 1) rfl (v := v_1047) h_1048 (by decide) (lv' := [(2, .int v_1047), (9, .long v_1036), (8, .int v_766), (6, .long i_723), (4, .long i_724), (3, .int v_68), (0, .ref a_0), (1, .int a_1)]) rfl ?_
                  refine v_goto hC dX12_holds_117 (tgt := 67) (by decide) ?_
                  refine v_pick [0, 1, 2, 3, 4, 5, 6, 7] rfl ?_
                  exact ih_964 v_1047 (by first | omega | (simp only [Int32.lt_iff_toInt_lt, Int32.le_iff_toInt_le, Int32.reduceToInt, ← Int32.toInt_inj, true_and, and_true, or_true, true_or, false_or, or_false, false_and, and_false, not_true_eq_false, not_false_eq_true] <;> omega)) v_1036 (by first | omega | (simp only [Int32.lt_iff_toInt_lt, Int32.le_iff_toInt_le, Int32.reduceToInt, ← Int32.toInt_inj, true_and, and_true, or_true, true_or, false_or, or_false, false_and, and_false, not_true_eq_false, not_false_eq_true] <;> omega)) (by first | omega | (simp only [Int32.lt_iff_toInt_lt, Int32.le_iff_toInt_le, Int32.reduceToInt, ← Int32.toInt_inj, true_and, and_true, or_true, true_or, false_or, or_false, false_and, and_false, not_true_eq_false, not_false_eq_true] <;> omega))
                · simp only [Int32.lt_iff_toInt_lt, Int32.le_iff_toInt_le, Int32.reduceToInt, ← Int32.toInt_inj] at h_1046
                  refine v_iconst hC dX12_holds_112 (v := 0) (by decide) ?_
                  exact hR _ _ _ _ _ _ _ dX12_holds_113 rfl (Nat.le_of_ble_eq_true rfl) (Nat.le_of_ble_eq_true rfl) ⟨rfl, rfl, (by decide)⟩
        refine v_pick [0, 1, 2, 3, 4, 5, 6, 7] rfl ?_
        exact lp_962 152 v_774 (by first | omega | (simp only [Int32.lt_iff_toInt_lt, Int32.le_iff_toInt_le, Int32.reduceToInt, ← Int32.toInt_inj, true_and, and_true, or_true, true_or, false_or, or_false, false_and, and_false, not_true_eq_false, not_false_eq_true] <;> omega)) r_768 (by first | omega | (simp only [Int32.lt_iff_toInt_lt, Int32.le_iff_toInt_le, Int32.reduceToInt, ← Int32.toInt_inj, true_and, and_true, or_true, true_or, false_or, or_false, false_and, and_false, not_true_eq_false, not_false_eq_true] <;> omega)) (by first | omega | (simp only [Int32.lt_iff_toInt_lt, Int32.le_iff_toInt_le, Int32.reduceToInt, ← Int32.toInt_inj, true_and, and_true, or_true, true_or, false_or, or_false, false_and, and_false, not_true_eq_false, not_false_eq_true] <;> omega))
  refine v_pick [0, 1, 2, 3, 4, 5] rfl ?_
  exact lp_727 152 0 0 v_54 (by first | omega | (simp only [Int32.lt_iff_toInt_lt, Int32.le_iff_toInt_le, Int32.reduceToInt, ← Int32.toInt_inj, true_and, and_true, or_true, true_or, false_or, or_false, false_and, and_false, not_true_eq_false, not_false_eq_true] <;> omega)) (by first | omega | (simp only [Int32.lt_iff_toInt_lt, Int32.le_iff_toInt_le, Int32.reduceToInt, ← Int32.toInt_inj, true_and, and_true, or_true, true_or, false_or, or_false, false_and, and_false, not_true_eq_false, not_false_eq_true] <;> omega))
set_option maxRecDepth 100000 in
set_option maxHeartbeats 8000000 in
theorem p_X12_stopping {l : Launch} {E : Ez} {L : List Nat} {f : Nat → va_E} {T : Nat → va_E → Prop} {a_0 : Nat} {q : Nat → Nat} {g_w : Nat → Int32} (hW : WT T L f) (k_0 : isM T L E a_0 q) (e_w : f (q 1) = aI E 2076 g_w) (o_w : WOK g_w) : CI l yX12_stopping cX12_stopping 4 .int 4 0 0 E [.ref a_0] L f (fun r L1 f1 => L = L1 ∧ WT T L f1 ∧ FR [108] f f1 ∧ ((-1) ≤ r.toInt ∧ r.toInt ≤ 2147483646)) := by
  refine ci_of (by decide) (Nat.le_of_ble_eq_true rfl) (fun z hz hnm hC hR => ?_)
  have hC : Cx z E cX12_stopping RX12 4 4 0 0 := hC
  subst hz
  show V z E 4 0 0 L f 0 [(0, .ref a_0)] []
  obtain ⟨m_1, t_2, nq_21, k_3, k_4, k_5, k_6, k_7, k_8, k_9, k_10, k_11, k_12, k_13, k_14, k_15, k_16, k_17, k_18, k_19, k_20⟩ := id k_0
  obtain ⟨m_22, t_23⟩ := id k_3
  have b_24 := o_w.r0
  have b_25 := o_w.w0
  have ts_1 := o_w.tst.1
  have ts_3 := Int32.toInt_lt (g_w 3)
  refine v_aload_n hC dX12_stopping_0 rfl ?_
  obtain ⟨v_27, v_28, v_30, v_32, v_34, v_36, v_38, v_39, v_40, v_41, v_43, e_26, b_29, b_31, b_33, b_35, b_37, b_42, b_44⟩ := hW.at m_1 t_2
  refine v_vv hC (rest := []) m_1 e_26 rfl mi_X12_countAll ms_X12_countAll (p_X12_countAll hW k_0 e_w o_w) mx_X12_countAll ml_X12_391 (by decide) rfl (cells1 := 0) (slots1 := 0) (by decide) (by decide) (Nat.le_of_ble_eq_true rfl) (Nat.le_of_ble_eq_true rfl) rfl (Nat.le_of_ble_eq_true rfl) dX12_stopping_1 (fun L_46 f_47 h_48 => ?_)
  obtain ⟨rfl, hW_49, hF_50⟩ := h_48
  have hf_51 := hF_50.at e_w rfl
  have hf_52 := hF_50.at e_26 rfl
  refine v_iconst hC dX12_stopping_4 (v := 0) (by decide) ?_
  refine v_istore_n hC dX12_stopping_5 (by decide) (lv' := [(1, .int 0), (0, .ref a_0)]) rfl ?_
  have lp_1241 : ∀ (n_1242 : Nat) (i_1239 : Int32) (b_1240 : (0 ≤ i_1239.toInt)) (hm_1244 : 2147483647 - i_1239.toInt < (n_1242 : Int)), V z E 4 0 0 L f_47 6 [(1, .int i_1239), (0, .ref a_0)] [] := by
    intro n_1242
    induction n_1242 with
    | zero =>
      intro i_1239 b_1240 hm_1244
      have rg9 := Int32.toInt_lt i_1239
      exfalso; omega
    | succ n_1242 ih_1243 =>
      intro i_1239 b_1240 hm_1244
      refine v_iload_n hC dX12_stopping_6 rfl ?_
      refine v_aload_n hC dX12_stopping_7 rfl ?_
      refine v_get hC fl_X12_13 m_1 hf_52 rfl dX12_stopping_8 ?_
      refine v_iconst hC dX12_stopping_11 (v := 3) (by decide) ?_
      refine v_iald hC m_22 hf_51 (vp_in_iff.mpr (by decide)) (v := g_w 3) rfl dX12_stopping_12 ?_
      refine v_icmp_ge hC dX12_stopping_13 (tgt := 82) (by decide) (fun h_1245 => ?_) (fun h_1245 => ?_)
      · simp only [Int32.lt_iff_toInt_lt, Int32.le_iff_toInt_le, Int32.reduceToInt, ← Int32.toInt_inj] at h_1245
        refine v_iconst hC dX12_stopping_82 (v := (-1)) (by decide) ?_
        exact hR _ _ _ _ _ _ _ dX12_stopping_83 rfl (Nat.le_of_ble_eq_true rfl) (Nat.le_of_ble_eq_true rfl) ⟨rfl, hW_49, (hF_50.mono rfl), (by decide)⟩
      · simp only [Int32.lt_iff_toInt_lt, Int32.le_iff_toInt_le, Int32.reduceToInt, ← Int32.toInt_inj] at h_1245
        refine v_iconst hC dX12_stopping_16 (v := 1) (by decide) ?_
        refine v_istore_n hC dX12_stopping_17 (by decide) (lv' := [(2, .int 1), (1, .int i_1239), (0, .ref a_0)]) rfl ?_
        refine v_iconst hC dX12_stopping_18 (v := 0) (by decide) ?_
        refine v_istore_n hC dX12_stopping_19 (by decide) (lv' := [(3, .int 0), (2, .int 1), (1, .int i_1239), (0, .ref a_0)]) rfl ?_
        have lp_1401 : ∀ (n_1402 : Nat) (i_1397 : Int32) (b_1399 : (0 ≤ i_1397.toInt ∧ i_1397.toInt ≤ 100)) (i_1398 : Int32) (b_1400 : (0 ≤ i_1398.toInt ∧ i_1398.toInt ≤ 1)) (hm_1404 : 100 - i_1397.toInt < (n_1402 : Int)), V z E 4 0 0 L f_47 20 [(3, .int i_1397), (2, .int i_1398), (1, .int i_1239), (0, .ref a_0)] [] := by
          intro n_1402
          induction n_1402 with
          | zero =>
            intro i_1397 b_1399 i_1398 b_1400 hm_1404
            exfalso; omega
          | succ n_1402 ih_1403 =>
            intro i_1397 b_1399 i_1398 b_1400 hm_1404
            refine v_iload_n hC dX12_stopping_20 rfl ?_
            refine v_aload_n hC dX12_stopping_21 rfl ?_
            refine v_get hC fl_X12_13 m_1 hf_52 rfl dX12_stopping_22 ?_
            refine v_iconst hC dX12_stopping_25 (v := 4) (by decide) ?_
            refine v_iald hC m_22 hf_51 (vp_in_iff.mpr (by decide)) (v := g_w 4) rfl dX12_stopping_26 ?_
            refine v_icmp_ge hC dX12_stopping_27 (tgt := 70) (by decide) (fun h_1405 => ?_) (fun h_1405 => ?_)
            · simp only [Int32.lt_iff_toInt_lt, Int32.le_iff_toInt_le, Int32.reduceToInt, ← Int32.toInt_inj] at h_1405
              refine v_iload_n hC dX12_stopping_70 rfl ?_
              refine v_if_eq hC dX12_stopping_71 (tgt := 76) (by decide) (fun h_1406 => ?_) (fun h_1406 => ?_)
              · simp only [Int32.lt_iff_toInt_lt, Int32.le_iff_toInt_le, Int32.reduceToInt, ← Int32.toInt_inj] at h_1406
                obtain ⟨v_1407, h_1408⟩ : ∃ v9 : Int32, i_1239 + Int32.ofInt 1 = v9 := ⟨_, rfl⟩
                have h_1409 := add_v (b := 1) h_1408 (by first | omega | (simp only [Int32.lt_iff_toInt_lt, Int32.le_iff_toInt_le, Int32.reduceToInt, ← Int32.toInt_inj, true_and, and_true, or_true, true_or, false_or, or_false, false_and, and_false, not_true_eq_false, not_false_eq_true] <;> omega)) (by first | omega | (simp only [Int32.lt_iff_toInt_lt, Int32.le_iff_toInt_le, Int32.reduceToInt, ← Int32.toInt_inj, true_and, and_true, or_true, true_or, false_or, or_false, false_and, and_false, not_true_eq_false, not_false_eq_true] <;> omega))
                simp only [Int32.reduceToInt] at h_1409
                refine v_iinc hC dX12_stopping_76 (k := 2) rfl (v := v_1407) h_1408 (by decide) (lv' := [(1, .int v_1407), (3, .int i_1397), (2, .int i_1398), (0, .ref a_0)]) rfl ?_
                refine v_goto hC dX12_stopping_79 (tgt := 6) (by decide) ?_
                refine v_pick [0, 3] rfl ?_
                exact ih_1243 v_1407 (by first | omega | (simp only [Int32.lt_iff_toInt_lt, Int32.le_iff_toInt_le, Int32.reduceToInt, ← Int32.toInt_inj, true_and, and_true, or_true, true_or, false_or, or_false, false_and, and_false, not_true_eq_false, not_false_eq_true] <;> omega)) (by first | omega | (simp only [Int32.lt_iff_toInt_lt, Int32.le_iff_toInt_le, Int32.reduceToInt, ← Int32.toInt_inj, true_and, and_true, or_true, true_or, false_or, or_false, false_and, and_false, not_true_eq_false, not_false_eq_true] <;> omega))
              · simp only [Int32.lt_iff_toInt_lt, Int32.le_iff_toInt_le, Int32.reduceToInt, ← Int32.toInt_inj] at h_1406
                refine v_iload_n hC dX12_stopping_74 rfl ?_
                exact hR _ _ _ _ _ _ _ dX12_stopping_75 rfl (Nat.le_of_ble_eq_true rfl) (Nat.le_of_ble_eq_true rfl) ⟨rfl, hW_49, (hF_50.mono rfl), (by first | omega | (simp only [Int32.lt_iff_toInt_lt, Int32.le_iff_toInt_le, Int32.reduceToInt, ← Int32.toInt_inj, true_and, and_true, or_true, true_or, false_or, or_false, false_and, and_false, not_true_eq_false, not_false_eq_true] <;> omega))⟩
            · simp only [Int32.lt_iff_toInt_lt, Int32.le_iff_toInt_le, Int32.reduceToInt, ← Int32.toInt_inj] at h_1405
              refine v_iload_n hC dX12_stopping_30 rfl ?_
              refine v_if_eq hC dX12_stopping_31 (tgt := 62) (by decide) (fun h_1410 => ?_) (fun h_1410 => ?_)
              · simp only [Int32.lt_iff_toInt_lt, Int32.le_iff_toInt_le, Int32.reduceToInt, ← Int32.toInt_inj] at h_1410
                refine v_iconst hC dX12_stopping_62 (v := 0) (by decide) ?_
                refine v_istore_n hC dX12_stopping_63 (by decide) (lv' := [(2, .int 0), (3, .int i_1397), (1, .int i_1239), (0, .ref a_0)]) rfl ?_
                obtain ⟨v_1411, h_1412⟩ : ∃ v9 : Int32, i_1397 + Int32.ofInt 1 = v9 := ⟨_, rfl⟩
                have h_1413 := add_v (b := 1) h_1412 (by first | omega | (simp only [Int32.lt_iff_toInt_lt, Int32.le_iff_toInt_le, Int32.reduceToInt, ← Int32.toInt_inj, true_and, and_true, or_true, true_or, false_or, or_false, false_and, and_false, not_true_eq_false, not_false_eq_true] <;> omega)) (by first | omega | (simp only [Int32.lt_iff_toInt_lt, Int32.le_iff_toInt_le, Int32.reduceToInt, ← Int32.toInt_inj, true_and, and_true, or_true, true_or, false_or, or_false, false_and, and_false, not_true_eq_false, not_false_eq_true] <;> omega))
                simp only [Int32.reduceToInt] at h_1413
                refine v_iinc hC dX12_stopping_64 (k := 1) rfl (v := v_1411) h_1412 (by decide) (lv' := [(3, .int v_1411), (2, .int 0), (1, .int i_1239), (0, .ref a_0)]) rfl ?_
                refine v_goto hC dX12_stopping_67 (tgt := 20) (by decide) ?_
                refine v_pick [0, 1, 2, 3] rfl ?_
                exact ih_1403 v_1411 (by first | omega | (simp only [Int32.lt_iff_toInt_lt, Int32.le_iff_toInt_le, Int32.reduceToInt, ← Int32.toInt_inj, true_and, and_true, or_true, true_or, false_or, or_false, false_and, and_false, not_true_eq_false, not_false_eq_true] <;> omega)) 0 (by decide) (by first | omega | (simp only [Int32.lt_iff_toInt_lt, Int32.le_iff_toInt_le, Int32.reduceToInt, ← Int32.toInt_inj, true_and, and_true, or_true, true_or, false_or, or_false, false_and, and_false, not_true_eq_false, not_false_eq_true] <;> omega))
              · simp only [Int32.lt_iff_toInt_lt, Int32.le_iff_toInt_le, Int32.reduceToInt, ← Int32.toInt_inj] at h_1410
                refine v_aload_n hC dX12_stopping_34 rfl ?_
                refine v_get hC fl_X12_13 m_1 hf_52 rfl dX12_stopping_35 ?_
                refine v_sipush hC dX12_stopping_38 (v := 162) (by decide) ?_
                refine v_iconst hC dX12_stopping_41 (v := 4) (by decide) ?_
                refine v_iload_n hC dX12_stopping_42 rfl ?_
                obtain ⟨v_1414, h_1415⟩ : ∃ v9 : Int32, (4 : Int32) * i_1397 = v9 := ⟨_, rfl⟩
                refine v_imul hC dX12_stopping_43 h_1415 ?_
                have h_1416 := mul_v 4 99 396 h_1415 (by decide) (by first | omega | (simp only [Int32.lt_iff_toInt_lt, Int32.le_iff_toInt_le, Int32.reduceToInt, ← Int32.toInt_inj, true_and, and_true, or_true, true_or, false_or, or_false, false_and, and_false, not_true_eq_false, not_false_eq_true] <;> omega)) (by decide) (by decide)
                try simp only [Int32.reduceToInt] at h_1416
                obtain ⟨v_1417, h_1418⟩ : ∃ v9 : Int32, (162 : Int32) + v_1414 = v9 := ⟨_, rfl⟩
                refine v_iadd hC dX12_stopping_44 h_1418 ?_
                have h_1419 := add_v h_1418 (by first | omega | (simp only [Int32.lt_iff_toInt_lt, Int32.le_iff_toInt_le, Int32.reduceToInt, ← Int32.toInt_inj, true_and, and_true, or_true, true_or, false_or, or_false, false_and, and_false, not_true_eq_false, not_false_eq_true] <;> omega)) (by first | omega | (simp only [Int32.lt_iff_toInt_lt, Int32.le_iff_toInt_le, Int32.reduceToInt, ← Int32.toInt_inj, true_and, and_true, or_true, true_or, false_or, or_false, false_and, and_false, not_true_eq_false, not_false_eq_true] <;> omega))
                try simp only [Int32.reduceToInt] at h_1419
                obtain ⟨v_1420, h_1421⟩ : ∃ v9 : Int32, g_w (v_1417 : Int32).toNatClampNeg = v9 := ⟨_, rfl⟩
                refine v_iald hC m_22 hf_51 (vp_in_iff.mpr (by first | omega | (simp only [Int32.lt_iff_toInt_lt, Int32.le_iff_toInt_le, Int32.reduceToInt, ← Int32.toInt_inj, true_and, and_true, or_true, true_or, false_or, or_false, false_and, and_false, not_true_eq_false, not_false_eq_true] <;> omega))) h_1421 dX12_stopping_45 ?_
                refine v_iload_n hC dX12_stopping_46 rfl ?_
                refine v_icmp_ne hC dX12_stopping_47 (tgt := 58) (by decide) (fun h_1422 => ?_) (fun h_1422 => ?_)
                · simp only [Int32.lt_iff_toInt_lt, Int32.le_iff_toInt_le, Int32.reduceToInt, ← Int32.toInt_inj] at h_1422
                  refine v_iconst hC dX12_stopping_58 (v := 1) (by decide) ?_
                  refine v_goto hC dX12_stopping_59 (tgt := 63) (by decide) ?_
                  refine v_istore_n hC dX12_stopping_63 (by decide) (lv' := [(2, .int 1), (3, .int i_1397), (1, .int i_1239), (0, .ref a_0)]) rfl ?_
                  obtain ⟨v_1423, h_1424⟩ : ∃ v9 : Int32, i_1397 + Int32.ofInt 1 = v9 := ⟨_, rfl⟩
                  have h_1425 := add_v (b := 1) h_1424 (by first | omega | (simp only [Int32.lt_iff_toInt_lt, Int32.le_iff_toInt_le, Int32.reduceToInt, ← Int32.toInt_inj, true_and, and_true, or_true, true_or, false_or, or_false, false_and, and_false, not_true_eq_false, not_false_eq_true] <;> omega)) (by first | omega | (simp only [Int32.lt_iff_toInt_lt, Int32.le_iff_toInt_le, Int32.reduceToInt, ← Int32.toInt_inj, true_and, and_true, or_true, true_or, false_or, or_false, false_and, and_false, not_true_eq_false, not_false_eq_true] <;> omega))
                  simp only [Int32.reduceToInt] at h_1425
                  refine v_iinc hC dX12_stopping_64 (k := 1) rfl (v := v_1423) h_1424 (by decide) (lv' := [(3, .int v_1423), (2, .int 1), (1, .int i_1239), (0, .ref a_0)]) rfl ?_
                  refine v_goto hC dX12_stopping_67 (tgt := 20) (by decide) ?_
                  refine v_pick [0, 1, 2, 3] rfl ?_
                  exact ih_1403 v_1423 (by first | omega | (simp only [Int32.lt_iff_toInt_lt, Int32.le_iff_toInt_le, Int32.reduceToInt, ← Int32.toInt_inj, true_and, and_true, or_true, true_or, false_or, or_false, false_and, and_false, not_true_eq_false, not_false_eq_true] <;> omega)) 1 (by decide) (by first | omega | (simp only [Int32.lt_iff_toInt_lt, Int32.le_iff_toInt_le, Int32.reduceToInt, ← Int32.toInt_inj, true_and, and_true, or_true, true_or, false_or, or_false, false_and, and_false, not_true_eq_false, not_false_eq_true] <;> omega))
                · simp only [Int32.lt_iff_toInt_lt, Int32.le_iff_toInt_le, Int32.reduceToInt, ← Int32.toInt_inj] at h_1422
                  refine v_aload_n hC dX12_stopping_50 rfl ?_
                  refine v_iload_n hC dX12_stopping_51 rfl ?_
                  refine v_vi hC (rest := []) m_1 hf_52 rfl mi_X12_holds ms_X12_holds (p_X12_holds hW_49 k_0 (by first | omega | (simp only [Int32.lt_iff_toInt_lt, Int32.le_iff_toInt_le, Int32.reduceToInt, ← Int32.toInt_inj, true_and, and_true, or_true, true_or, false_or, or_false, false_and, and_false, not_true_eq_false, not_false_eq_true] <;> omega)) hf_51 o_w (by first | omega | (simp only [Int32.lt_iff_toInt_lt, Int32.le_iff_toInt_le, Int32.reduceToInt, ← Int32.toInt_inj, true_and, and_true, or_true, true_or, false_or, or_false, false_and, and_false, not_true_eq_false, not_false_eq_true] <;> omega))) mx_X12_holds ml_X12_402 (by decide) rfl (cells1 := 0) (slots1 := 0) (by decide) (by decide) (Nat.le_of_ble_eq_true rfl) (Nat.le_of_ble_eq_true rfl) rfl (Nat.le_of_ble_eq_true rfl) dX12_stopping_52 (fun r_1426 L_1427 f_1428 h_1429 => ?_)
                  obtain ⟨rfl, rfl, b_1430⟩ := h_1429
                  refine v_if_eq hC dX12_stopping_55 (tgt := 62) (by decide) (fun h_1433 => ?_) (fun h_1433 => ?_)
                  · simp only [Int32.lt_iff_toInt_lt, Int32.le_iff_toInt_le, Int32.reduceToInt, ← Int32.toInt_inj] at h_1433
                    refine v_iconst hC dX12_stopping_62 (v := 0) (by decide) ?_
                    refine v_istore_n hC dX12_stopping_63 (by decide) (lv' := [(2, .int 0), (3, .int i_1397), (1, .int i_1239), (0, .ref a_0)]) rfl ?_
                    obtain ⟨v_1434, h_1435⟩ : ∃ v9 : Int32, i_1397 + Int32.ofInt 1 = v9 := ⟨_, rfl⟩
                    have h_1436 := add_v (b := 1) h_1435 (by first | omega | (simp only [Int32.lt_iff_toInt_lt, Int32.le_iff_toInt_le, Int32.reduceToInt, ← Int32.toInt_inj, true_and, and_true, or_true, true_or, false_or, or_false, false_and, and_false, not_true_eq_false, not_false_eq_true] <;> omega)) (by first | omega | (simp only [Int32.lt_iff_toInt_lt, Int32.le_iff_toInt_le, Int32.reduceToInt, ← Int32.toInt_inj, true_and, and_true, or_true, true_or, false_or, or_false, false_and, and_false, not_true_eq_false, not_false_eq_true] <;> omega))
                    simp only [Int32.reduceToInt] at h_1436
                    refine v_iinc hC dX12_stopping_64 (k := 1) rfl (v := v_1434) h_1435 (by decide) (lv' := [(3, .int v_1434), (2, .int 0), (1, .int i_1239), (0, .ref a_0)]) rfl ?_
                    refine v_goto hC dX12_stopping_67 (tgt := 20) (by decide) ?_
                    refine v_pick [0, 1, 2, 3] rfl ?_
                    exact ih_1403 v_1434 (by first | omega | (simp only [Int32.lt_iff_toInt_lt, Int32.le_iff_toInt_le, Int32.reduceToInt, ← Int32.toInt_inj, true_and, and_true, or_true, true_or, false_or, or_false, false_and, and_false, not_true_eq_false, not_false_eq_true] <;> omega)) 0 (by decide) (by first | omega | (simp only [Int32.lt_iff_toInt_lt, Int32.le_iff_toInt_le, Int32.reduceToInt, ← Int32.toInt_inj, true_and, and_true, or_true, true_or, false_or, or_false, false_and, and_false, not_true_eq_false, not_false_eq_true] <;> omega))
                  · simp only [Int32.lt_iff_toInt_lt, Int32.le_iff_toInt_le, Int32.reduceToInt, ← Int32.toInt_inj] at h_1433
                    refine v_iconst hC dX12_stopping_58 (v := 1) (by decide) ?_
                    refine v_goto hC dX12_stopping_59 (tgt := 63) (by decide) ?_
                    refine v_istore_n hC dX12_stopping_63 (by decide) (lv' := [(2, .int 1), (3, .int i_1397), (1, .int i_1239), (0, .ref a_0)]) rfl ?_
                    obtain ⟨v_1437, h_1438⟩ : ∃ v9 : Int32, i_1397 + Int32.ofInt 1 = v9 := ⟨_, rfl⟩
                    have h_1439 := add_v (b := 1) h_1438 (by first | omega | (simp only [Int32.lt_iff_toInt_lt, Int32.le_iff_toInt_le, Int32.reduceToInt, ← Int32.toInt_inj, true_and, and_true, or_true, true_or, false_or, or_false, false_and, and_false, not_true_eq_false, not_false_eq_true] <;> omega)) (by first | omega | (simp only [Int32.lt_iff_toInt_lt, Int32.le_iff_toInt_le, Int32.reduceToInt, ← Int32.toInt_inj, true_and, and_true, or_true, true_or, false_or, or_false, false_and, and_false, not_true_eq_false, not_false_eq_true] <;> omega))
                    simp only [Int32.reduceToInt] at h_1439
                    refine v_iinc hC dX12_stopping_64 (k := 1) rfl (v := v_1437) h_1438 (by decide) (lv' := [(3, .int v_1437), (2, .int 1), (1, .int i_1239), (0, .ref a_0)]) rfl ?_
                    refine v_goto hC dX12_stopping_67 (tgt := 20) (by decide) ?_
                    refine v_pick [0, 1, 2, 3] rfl ?_
                    exact ih_1403 v_1437 (by first | omega | (simp only [Int32.lt_iff_toInt_lt, Int32.le_iff_toInt_le, Int32.reduceToInt, ← Int32.toInt_inj, true_and, and_true, or_true, true_or, false_or, or_false, false_and, and_false, not_true_eq_false, not_false_eq_true] <;> omega)) 1 (by decide) (by first | omega | (simp only [Int32.lt_iff_toInt_lt, Int32.le_iff_toInt_le, Int32.reduceToInt, ← Int32.toInt_inj, true_and, and_true, or_true, true_or, false_or, or_false, false_and, and_false, not_true_eq_false, not_false_eq_true] <;> omega))
        refine v_pick [0, 1, 2, 3] rfl ?_
        exact lp_1401 102 0 (by decide) 1 (by decide) (by decide)
  refine v_pick [0, 1] rfl ?_
  exact lp_1241 2147483649 0 (by decide) (by decide)
set_option maxRecDepth 100000 in
set_option maxHeartbeats 8000000 in
theorem p_X12_stops {l : Launch} {E : Ez} {L : List Nat} {f : Nat → va_E} {T : Nat → va_E → Prop} {a_0 : Nat} {a_1 : Int32} {q : Nat → Nat} {g_w : Nat → Int32} (hW : WT T L f) (k_0 : isM T L E a_0 q) (e_w : f (q 1) = aI E 2076 g_w) (o_w : WOK g_w) : CI l yX12_stops cX12_stops 3 .int 5 0 0 E [.ref a_0, .int a_1] L f (fun r L1 f1 => L = L1 ∧ WT T L f1 ∧ FR [108, 356] f f1 ∧ ((-6) ≤ r.toInt ∧ r.toInt ≤ 2147483646) ∧ (¬ r.toInt = 0 ∨ (0 ≤ a_1.toInt ∧ a_1.toInt ≤ 3))) := by
  refine ci_of (by decide) (Nat.le_of_ble_eq_true rfl) (fun z hz hnm hC hR => ?_)
  have hC : Cx z E cX12_stops RX12 3 5 0 0 := hC
  subst hz
  show V z E 3 0 0 L f 0 [(0, .ref a_0), (1, .int a_1)] []
  obtain ⟨m_1, t_2, nq_21, k_3, k_4, k_5, k_6, k_7, k_8, k_9, k_10, k_11, k_12, k_13, k_14, k_15, k_16, k_17, k_18, k_19, k_20⟩ := id k_0
  obtain ⟨m_22, t_23⟩ := id k_3
  have b_24 := o_w.r0
  have b_25 := o_w.w0
  refine v_aload_n hC dX12_stops_0 rfl ?_
  refine v_iload_n hC dX12_stops_1 rfl ?_
  obtain ⟨v_27, v_28, v_30, v_32, v_34, v_36, v_38, v_39, v_40, v_41, v_43, e_26, b_29, b_31, b_33, b_35, b_37, b_42, b_44⟩ := hW.at m_1 t_2
  refine v_vi hC (rest := []) m_1 e_26 rfl mi_X12_asksCloth ms_X12_asksCloth (p_X12_asksCloth hW k_0 e_w o_w) mx_X12_asksCloth ml_X12_376 (by decide) rfl (cells1 := 0) (slots1 := 0) (by decide) (by decide) (Nat.le_of_ble_eq_true rfl) (Nat.le_of_ble_eq_true rfl) rfl (Nat.le_of_ble_eq_true rfl) dX12_stops_2 (fun r_45 L_46 f_47 h_48 => ?_)
  obtain ⟨rfl, rfl, b_49, h_50⟩ := h_48
  refine v_istore_n hC dX12_stops_5 (by decide) (lv' := [(2, .int r_45), (0, .ref a_0), (1, .int a_1)]) rfl ?_
  refine v_iload_n hC dX12_stops_6 rfl ?_
  refine v_if_ge hC dX12_stops_7 (tgt := 12) (by decide) (fun h_53 => ?_) (fun h_53 => ?_)
  · simp only [Int32.lt_iff_toInt_lt, Int32.le_iff_toInt_le, Int32.reduceToInt, ← Int32.toInt_inj] at h_53
    refine v_aload_n hC dX12_stops_12 rfl ?_
    refine v_iload_n hC dX12_stops_13 rfl ?_
    refine v_vv hC (rest := []) m_1 e_26 rfl mi_X12_takes0 ms_X12_takes0 (p_X12_takes0 hW k_0 (by first | omega | (simp only [Int32.lt_iff_toInt_lt, Int32.le_iff_toInt_le, Int32.reduceToInt, ← Int32.toInt_inj, true_and, and_true, or_true, true_or, false_or, or_false, false_and, and_false, not_true_eq_false, not_false_eq_true] <;> omega)) e_w o_w) mx_X12_takes0 ml_X12_363 (by decide) rfl (cells1 := 0) (slots1 := 0) (by decide) (by decide) (Nat.le_of_ble_eq_true rfl) (Nat.le_of_ble_eq_true rfl) rfl (Nat.le_of_ble_eq_true rfl) dX12_stops_14 (fun L_55 f_56 h_57 => ?_)
    obtain ⟨rfl, hW_58, hF_59⟩ := h_57
    have hf_60 := hF_59.at e_w rfl
    have hf_61 := hF_59.at e_26 rfl
    refine v_aload_n hC dX12_stops_17 rfl ?_
    refine v_vi hC (rest := []) m_1 hf_61 rfl mi_X12_stopping ms_X12_stopping (p_X12_stopping hW_58 k_0 hf_60 o_w) mx_X12_stopping ml_X12_405 (by decide) rfl (cells1 := 0) (slots1 := 0) (by decide) (by decide) (Nat.le_of_ble_eq_true rfl) (Nat.le_of_ble_eq_true rfl) rfl (Nat.le_of_ble_eq_true rfl) dX12_stops_18 (fun r_62 L_63 f_64 h_65 => ?_)
    obtain ⟨rfl, hW_67, hF_68, b_66⟩ := h_65
    have hf_69 := hF_68.at hf_60 rfl
    have hf_70 := hF_68.at hf_61 rfl
    exact hR _ _ _ _ _ _ _ dX12_stops_21 rfl (Nat.le_of_ble_eq_true rfl) (Nat.le_of_ble_eq_true rfl) ⟨rfl, hW_67, ((hF_59.tr hF_68).mono rfl), (by first | omega | (simp only [Int32.lt_iff_toInt_lt, Int32.le_iff_toInt_le, Int32.reduceToInt, ← Int32.toInt_inj, true_and, and_true, or_true, true_or, false_or, or_false, false_and, and_false, not_true_eq_false, not_false_eq_true] <;> omega)), (.inr (by first | omega | (simp only [Int32.lt_iff_toInt_lt, Int32.le_iff_toInt_le, Int32.reduceToInt, ← Int32.toInt_inj, true_and, and_true, or_true, true_or, false_or, or_false, false_and, and_false, not_true_eq_false, not_false_eq_true] <;> omega)))⟩
  · simp only [Int32.lt_iff_toInt_lt, Int32.le_iff_toInt_le, Int32.reduceToInt, ← Int32.toInt_inj] at h_53
    refine v_iload_n hC dX12_stops_10 rfl ?_
    exact hR _ _ _ _ _ _ _ dX12_stops_11 rfl (Nat.le_of_ble_eq_true rfl) (Nat.le_of_ble_eq_true rfl) ⟨rfl, hW, FR.rf, (by first | omega | (simp only [Int32.lt_iff_toInt_lt, Int32.le_iff_toInt_le, Int32.reduceToInt, ← Int32.toInt_inj, true_and, and_true, or_true, true_or, false_or, or_false, false_and, and_false, not_true_eq_false, not_false_eq_true] <;> omega)), (by first | omega | (simp only [Int32.lt_iff_toInt_lt, Int32.le_iff_toInt_le, Int32.reduceToInt, ← Int32.toInt_inj, true_and, and_true, or_true, true_or, false_or, or_false, false_and, and_false, not_true_eq_false, not_false_eq_true] <;> omega))⟩
set_option maxRecDepth 100000 in
set_option maxHeartbeats 8000000 in
theorem p_X12_odds {l : Launch} {E : Ez} {L : List Nat} {f : Nat → va_E} {T : Nat → va_E → Prop} {a_0 : Nat} {a_1 : Int32} {a_2 : Int32} {q : Nat → Nat} {g_w : Nat → Int32} (hW : WT T L f) (k_0 : isM T L E a_0 q) (e_w : f (q 1) = aI E 2076 g_w) (o_w : WOK g_w) : CI l yX12_odds cX12_odds 6 .int 5 0 0 E [.ref a_0, .int a_1, .int a_2] L f (fun r L1 f1 => L = L1 ∧ WT T L f1 ∧ FR [108, 356] f f1 ∧ (¬ r.toInt = 0 ∨ (0 ≤ a_1.toInt ∧ a_1.toInt ≤ 2000000000)) ∧ (¬ r.toInt = 0 ∨ (1 ≤ a_2.toInt ∧ a_2.toInt ≤ 50))) := by
  refine ci_of (by decide) (Nat.le_of_ble_eq_true rfl) (fun z hz hnm hC hR => ?_)
  have hC : Cx z E cX12_odds RX12 6 5 0 0 := hC
  subst hz
  show V z E 6 0 0 L f 0 [(0, .ref a_0), (1, .int a_1), (2, .int a_2)] []
  obtain ⟨m_1, t_2, nq_21, k_3, k_4, k_5, k_6, k_7, k_8, k_9, k_10, k_11, k_12, k_13, k_14, k_15, k_16, k_17, k_18, k_19, k_20⟩ := id k_0
  obtain ⟨m_22, t_23⟩ := id k_3
  have b_24 := o_w.r0
  have b_25 := o_w.w0
  refine v_iload_n hC dX12_odds_0 rfl ?_
  refine v_si hC (rest := []) mt_X12_isSeed (p_X12_isSeed hW) mx_X12_isSeed ml_X12_322 (by decide) rfl (cells1 := 0) (slots1 := 0) (by decide) (by decide) (Nat.le_of_ble_eq_true rfl) (Nat.le_of_ble_eq_true rfl) rfl (Nat.le_of_ble_eq_true rfl) dX12_odds_1 (fun r_26 L_27 f_28 h_29 => ?_)
  obtain ⟨rfl, rfl, b_30, h_31⟩ := h_29
  refine v_if_eq hC dX12_odds_4 (tgt := 19) (by decide) (fun h_34 => ?_) (fun h_34 => ?_)
  · simp only [Int32.lt_iff_toInt_lt, Int32.le_iff_toInt_le, Int32.reduceToInt, ← Int32.toInt_inj] at h_34
    refine v_bipush hC dX12_odds_19 (v := (-2)) (by decide) ?_
    exact hR _ _ _ _ _ _ _ dX12_odds_21 rfl (Nat.le_of_ble_eq_true rfl) (Nat.le_of_ble_eq_true rfl) ⟨rfl, hW, FR.rf, (.inl (by decide)), (.inl (by decide))⟩
  · simp only [Int32.lt_iff_toInt_lt, Int32.le_iff_toInt_le, Int32.reduceToInt, ← Int32.toInt_inj] at h_34
    refine v_iload_n hC dX12_odds_7 rfl ?_
    obtain ⟨v_35, h_36⟩ : ∃ v9 : Int64, a_2.toInt64 = v9 := ⟨_, rfl⟩
    refine v_i2l hC dX12_odds_8 h_36 ?_
    have h_37 : v_35.toInt = a_2.toInt := by rw [← h_36]; exact Int32.toInt_toInt64 _
    refine v_lconst hC dX12_odds_9 (v := 1) (by decide) ?_
    refine v_ldc2 hC kl_X12_408 dX12_odds_10 ?_
    refine v_si hC (rest := []) mt_X12_in (p_X12_in hW) mx_X12_in ml_X12_79 (by decide) rfl (cells1 := 0) (slots1 := 0) (by decide) (by decide) (Nat.le_of_ble_eq_true rfl) (Nat.le_of_ble_eq_true rfl) rfl (Nat.le_of_ble_eq_true rfl) dX12_odds_13 (fun r_38 L_39 f_40 h_41 => ?_)
    obtain ⟨rfl, rfl, b_42, x_43⟩ := h_41
    try simp only [Int32.reduceToInt, Int64.reduceToInt] at x_43
    refine v_if_ne hC dX12_odds_16 (tgt := 22) (by decide) (fun h_46 => ?_) (fun h_46 => ?_)
    · simp only [Int32.lt_iff_toInt_lt, Int32.le_iff_toInt_le, Int32.reduceToInt, ← Int32.toInt_inj] at h_46
      refine v_aload_n hC dX12_odds_22 rfl ?_
      obtain ⟨v_48, v_49, v_51, v_53, v_55, v_57, v_59, v_60, v_61, v_62, v_64, e_47, b_50, b_52, b_54, b_56, b_58, b_63, b_65⟩ := hW.at m_1 t_2
      refine v_vi hC (rest := []) m_1 e_47 rfl mi_X12_hasPattern ms_X12_hasPattern (p_X12_hasPattern hW k_0 e_w o_w) mx_X12_hasPattern ml_X12_325 (by decide) rfl (cells1 := 0) (slots1 := 0) (by decide) (by decide) (Nat.le_of_ble_eq_true rfl) (Nat.le_of_ble_eq_true rfl) rfl (Nat.le_of_ble_eq_true rfl) dX12_odds_23 (fun r_66 L_67 f_68 h_69 => ?_)
      obtain ⟨rfl, rfl, b_70, x_71⟩ := h_69
      try simp only [Int32.reduceToInt, Int64.reduceToInt] at x_71
      refine v_if_ne hC dX12_odds_26 (tgt := 32) (by decide) (fun h_74 => ?_) (fun h_74 => ?_)
      · simp only [Int32.lt_iff_toInt_lt, Int32.le_iff_toInt_le, Int32.reduceToInt, ← Int32.toInt_inj] at h_74
        refine v_iconst hC dX12_odds_32 (v := 0) (by decide) ?_
        refine v_istore_n hC dX12_odds_33 (by decide) (lv' := [(3, .int 0), (0, .ref a_0), (1, .int a_1), (2, .int a_2)]) rfl ?_
        refine v_iconst hC dX12_odds_34 (v := 0) (by decide) ?_
        refine v_istore hC dX12_odds_35 (by decide) (lv' := [(4, .int 0), (3, .int 0), (0, .ref a_0), (1, .int a_1), (2, .int a_2)]) rfl ?_
        have lp_581 : ∀ (n_582 : Nat) (f_575 : Nat → va_E) (hW_576 : WT T L f_575) (hF_577 : FR [108, 356] f f_575) (i_573 : Int32) (b_580 : (0 ≤ i_573.toInt ∧ i_573.toInt ≤ 50)) (i_574 : Int32) (hm_584 : 50 - i_573.toInt < (n_582 : Int)), V z E 6 0 0 L f_575 37 [(4, .int i_573), (3, .int i_574), (0, .ref a_0), (1, .int a_1), (2, .int a_2)] [] := by
          intro n_582
          induction n_582 with
          | zero =>
            intro f_575 hW_576 hF_577 i_573 b_580 i_574 hm_584
            have hf_578 := hF_577.at e_w rfl
            have hf_579 := hF_577.at e_47 rfl
            exfalso; omega
          | succ n_582 ih_583 =>
            intro f_575 hW_576 hF_577 i_573 b_580 i_574 hm_584
            have hf_578 := hF_577.at e_w rfl
            have hf_579 := hF_577.at e_47 rfl
            refine v_iload hC dX12_odds_37 rfl ?_
            refine v_iload_n hC dX12_odds_39 rfl ?_
            refine v_icmp_ge hC dX12_odds_40 (tgt := 77) (by decide) (fun h_585 => ?_) (fun h_585 => ?_)
            · simp only [Int32.lt_iff_toInt_lt, Int32.le_iff_toInt_le, Int32.reduceToInt, ← Int32.toInt_inj] at h_585
              refine v_iload_n hC dX12_odds_77 rfl ?_
              exact hR _ _ _ _ _ _ _ dX12_odds_78 rfl (Nat.le_of_ble_eq_true rfl) (Nat.le_of_ble_eq_true rfl) ⟨rfl, hW_576, (hF_577.mono rfl), (.inr (by first | omega | (simp only [Int32.lt_iff_toInt_lt, Int32.le_iff_toInt_le, Int32.reduceToInt, ← Int32.toInt_inj, true_and, and_true, or_true, true_or, false_or, or_false, false_and, and_false, not_true_eq_false, not_false_eq_true] <;> omega))), (.inr (by first | omega | (simp only [Int32.lt_iff_toInt_lt, Int32.le_iff_toInt_le, Int32.reduceToInt, ← Int32.toInt_inj, true_and, and_true, or_true, true_or, false_or, or_false, false_and, and_false, not_true_eq_false, not_false_eq_true] <;> omega)))⟩
            · simp only [Int32.lt_iff_toInt_lt, Int32.le_iff_toInt_le, Int32.reduceToInt, ← Int32.toInt_inj] at h_585
              refine v_aload_n hC dX12_odds_43 rfl ?_
              refine v_iload_n hC dX12_odds_44 rfl ?_
              obtain ⟨v_586, h_587⟩ : ∃ v9 : Int64, a_1.toInt64 = v9 := ⟨_, rfl⟩
              refine v_i2l hC dX12_odds_45 h_587 ?_
              have h_588 : v_586.toInt = a_1.toInt := by rw [← h_587]; exact Int32.toInt_toInt64 _
              refine v_iload hC dX12_odds_46 rfl ?_
              obtain ⟨v_589, h_590⟩ : ∃ v9 : Int64, i_573.toInt64 = v9 := ⟨_, rfl⟩
              refine v_i2l hC dX12_odds_48 h_590 ?_
              have h_591 : v_589.toInt = i_573.toInt := by rw [← h_590]; exact Int32.toInt_toInt64 _
              obtain ⟨v_592, h_593⟩ : ∃ v9 : Int64, v_586 + v_589 = v9 := ⟨_, rfl⟩
              refine v_ladd hC dX12_odds_49 h_593 ?_
              have h_594 := ladd_v h_593 h_587 h_590
              refine v_vi hC (rest := []) m_1 hf_579 rfl mi_X12_knits ms_X12_knits (p_X12_knits hW_576 k_0 hf_578 o_w) mx_X12_knits ml_X12_328 (by decide) rfl (cells1 := 0) (slots1 := 0) (by decide) (by decide) (Nat.le_of_ble_eq_true rfl) (Nat.le_of_ble_eq_true rfl) rfl (Nat.le_of_ble_eq_true rfl) dX12_odds_50 (fun r_595 L_596 f_597 h_598 => ?_)
              obtain ⟨rfl, hW_599, hF_600⟩ := h_598
              have hf_601 := hF_600.at hf_578 rfl
              have hf_602 := hF_600.at hf_579 rfl
              refine v_istore hC dX12_odds_53 (by decide) (lv' := [(5, .int r_595), (4, .int i_573), (3, .int i_574), (0, .ref a_0), (1, .int a_1), (2, .int a_2)]) rfl ?_
              refine v_iload_n hC dX12_odds_55 rfl ?_
              refine v_aload_n hC dX12_odds_56 rfl ?_
              refine v_vi hC (rest := [.int i_574]) m_1 hf_602 rfl mi_X12_stopping ms_X12_stopping (p_X12_stopping hW_599 k_0 hf_601 o_w) mx_X12_stopping ml_X12_405 (by decide) rfl (cells1 := 0) (slots1 := 0) (by decide) (by decide) (Nat.le_of_ble_eq_true rfl) (Nat.le_of_ble_eq_true rfl) rfl (Nat.le_of_ble_eq_true rfl) dX12_odds_57 (fun r_603 L_604 f_605 h_606 => ?_)
              obtain ⟨rfl, hW_608, hF_609, b_607⟩ := h_606
              have hf_610 := hF_609.at hf_601 rfl
              have hf_611 := hF_609.at hf_602 rfl
              refine v_iconst hC dX12_odds_60 (v := (-1)) (by decide) ?_
              refine v_icmp_ne hC dX12_odds_61 (tgt := 68) (by decide) (fun h_612 => ?_) (fun h_612 => ?_)
              · simp only [Int32.lt_iff_toInt_lt, Int32.le_iff_toInt_le, Int32.reduceToInt, ← Int32.toInt_inj] at h_612
                refine v_iconst hC dX12_odds_68 (v := 1) (by decide) ?_
                obtain ⟨v_613, h_614⟩ : ∃ v9 : Int32, i_574 + 1 = v9 := ⟨_, rfl⟩
                refine v_iadd hC dX12_odds_69 h_614 ?_
                refine v_istore_n hC dX12_odds_70 (by decide) (lv' := [(3, .int v_613), (5, .int r_595), (4, .int i_573), (0, .ref a_0), (1, .int a_1), (2, .int a_2)]) rfl ?_
                obtain ⟨v_616, h_617⟩ : ∃ v9 : Int32, i_573 + Int32.ofInt 1 = v9 := ⟨_, rfl⟩
                have h_618 := add_v (b := 1) h_617 (by first | omega | (simp only [Int32.lt_iff_toInt_lt, Int32.le_iff_toInt_le, Int32.reduceToInt, ← Int32.toInt_inj, true_and, and_true, or_true, true_or, false_or, or_false, false_and, and_false, not_true_eq_false, not_false_eq_true] <;> omega)) (by first | omega | (simp only [Int32.lt_iff_toInt_lt, Int32.le_iff_toInt_le, Int32.reduceToInt, ← Int32.toInt_inj, true_and, and_true, or_true, true_or, false_or, or_false, false_and, and_false, not_true_eq_false, not_false_eq_true] <;> omega))
                simp only [Int32.reduceToInt] at h_618
                refine v_iinc hC dX12_odds_71 (k := 2) rfl (v := v_616) h_617 (by decide) (lv' := [(4, .int v_616), (3, .int v_613), (5, .int r_595), (0, .ref a_0), (1, .int a_1), (2, .int a_2)]) rfl ?_
                refine v_goto hC dX12_odds_74 (tgt := 37) (by decide) ?_
                refine v_pick [0, 1, 3, 4, 5] rfl ?_
                exact ih_583 f_605 hW_608 (((hF_577.tr hF_600).tr hF_609).mono rfl) v_616 (by first | omega | (simp only [Int32.lt_iff_toInt_lt, Int32.le_iff_toInt_le, Int32.reduceToInt, ← Int32.toInt_inj, true_and, and_true, or_true, true_or, false_or, or_false, false_and, and_false, not_true_eq_false, not_false_eq_true] <;> omega)) v_613 (by first | omega | (simp only [Int32.lt_iff_toInt_lt, Int32.le_iff_toInt_le, Int32.reduceToInt, ← Int32.toInt_inj, true_and, and_true, or_true, true_or, false_or, or_false, false_and, and_false, not_true_eq_false, not_false_eq_true] <;> omega))
              · simp only [Int32.lt_iff_toInt_lt, Int32.le_iff_toInt_le, Int32.reduceToInt, ← Int32.toInt_inj] at h_612
                refine v_iconst hC dX12_odds_64 (v := 0) (by decide) ?_
                refine v_goto hC dX12_odds_65 (tgt := 69) (by decide) ?_
                obtain ⟨v_619, h_620⟩ : ∃ v9 : Int32, i_574 + 0 = v9 := ⟨_, rfl⟩
                refine v_iadd hC dX12_odds_69 h_620 ?_
                have rg_622 := Int32.toInt_lt i_574
                have rg_623 := Int32.le_toInt i_574
                have h_621 := add_v h_620 (by first | omega | (simp only [Int32.lt_iff_toInt_lt, Int32.le_iff_toInt_le, Int32.reduceToInt, ← Int32.toInt_inj, true_and, and_true, or_true, true_or, false_or, or_false, false_and, and_false, not_true_eq_false, not_false_eq_true] <;> omega)) (by first | omega | (simp only [Int32.lt_iff_toInt_lt, Int32.le_iff_toInt_le, Int32.reduceToInt, ← Int32.toInt_inj, true_and, and_true, or_true, true_or, false_or, or_false, false_and, and_false, not_true_eq_false, not_false_eq_true] <;> omega))
                try simp only [Int32.reduceToInt] at h_621
                refine v_istore_n hC dX12_odds_70 (by decide) (lv' := [(3, .int v_619), (5, .int r_595), (4, .int i_573), (0, .ref a_0), (1, .int a_1), (2, .int a_2)]) rfl ?_
                obtain ⟨v_624, h_625⟩ : ∃ v9 : Int32, i_573 + Int32.ofInt 1 = v9 := ⟨_, rfl⟩
                have h_626 := add_v (b := 1) h_625 (by first | omega | (simp only [Int32.lt_iff_toInt_lt, Int32.le_iff_toInt_le, Int32.reduceToInt, ← Int32.toInt_inj, true_and, and_true, or_true, true_or, false_or, or_false, false_and, and_false, not_true_eq_false, not_false_eq_true] <;> omega)) (by first | omega | (simp only [Int32.lt_iff_toInt_lt, Int32.le_iff_toInt_le, Int32.reduceToInt, ← Int32.toInt_inj, true_and, and_true, or_true, true_or, false_or, or_false, false_and, and_false, not_true_eq_false, not_false_eq_true] <;> omega))
                simp only [Int32.reduceToInt] at h_626
                refine v_iinc hC dX12_odds_71 (k := 2) rfl (v := v_624) h_625 (by decide) (lv' := [(4, .int v_624), (3, .int v_619), (5, .int r_595), (0, .ref a_0), (1, .int a_1), (2, .int a_2)]) rfl ?_
                refine v_goto hC dX12_odds_74 (tgt := 37) (by decide) ?_
                refine v_pick [0, 1, 3, 4, 5] rfl ?_
                exact ih_583 f_605 hW_608 (((hF_577.tr hF_600).tr hF_609).mono rfl) v_624 (by first | omega | (simp only [Int32.lt_iff_toInt_lt, Int32.le_iff_toInt_le, Int32.reduceToInt, ← Int32.toInt_inj, true_and, and_true, or_true, true_or, false_or, or_false, false_and, and_false, not_true_eq_false, not_false_eq_true] <;> omega)) v_619 (by first | omega | (simp only [Int32.lt_iff_toInt_lt, Int32.le_iff_toInt_le, Int32.reduceToInt, ← Int32.toInt_inj, true_and, and_true, or_true, true_or, false_or, or_false, false_and, and_false, not_true_eq_false, not_false_eq_true] <;> omega))
        refine v_pick [0, 1, 2, 3, 4] rfl ?_
        exact lp_581 52 f hW FR.rf 0 (by decide) 0 (by decide)
      · simp only [Int32.lt_iff_toInt_lt, Int32.le_iff_toInt_le, Int32.reduceToInt, ← Int32.toInt_inj] at h_74
        refine v_bipush hC dX12_odds_29 (v := (-6)) (by decide) ?_
        exact hR _ _ _ _ _ _ _ dX12_odds_31 rfl (Nat.le_of_ble_eq_true rfl) (Nat.le_of_ble_eq_true rfl) ⟨rfl, hW, FR.rf, (.inl (by decide)), (.inl (by decide))⟩
    · simp only [Int32.lt_iff_toInt_lt, Int32.le_iff_toInt_le, Int32.reduceToInt, ← Int32.toInt_inj] at h_46
      refine v_bipush hC dX12_odds_19 (v := (-2)) (by decide) ?_
      exact hR _ _ _ _ _ _ _ dX12_odds_21 rfl (Nat.le_of_ble_eq_true rfl) (Nat.le_of_ble_eq_true rfl) ⟨rfl, hW, FR.rf, (.inl (by decide)), (.inl (by decide))⟩
set_option maxRecDepth 100000 in
set_option maxHeartbeats 8000000 in
theorem p_X12_isSaid {l : Launch} {E : Ez} {L : List Nat} {f : Nat → va_E} {T : Nat → va_E → Prop} {a_0 : Nat} {q : Nat → Nat} {g_w : Nat → Int32} (hW : WT T L f) (k_0 : isM T L E a_0 q) (e_w : f (q 1) = aI E 2076 g_w) (o_w : WOK g_w) : CI l yX12_isSaid cX12_isSaid 3 .boolean 0 0 0 E [.ref a_0] L f (fun r L1 f1 => L = L1 ∧ f = f1 ∧ (0 ≤ r.toInt ∧ r.toInt ≤ 1) ∧ (r.toInt = 0 ∨ 1 ≤ fld (f a_0) 20)) := by
  refine ci_of (by decide) (Nat.le_of_ble_eq_true rfl) (fun z hz hnm hC hR => ?_)
  have hC : Cx z E cX12_isSaid RX12 3 0 0 0 := hC
  subst hz
  show V z E 3 0 0 L f 0 [(0, .ref a_0)] []
  obtain ⟨m_1, t_2, nq_21, k_3, k_4, k_5, k_6, k_7, k_8, k_9, k_10, k_11, k_12, k_13, k_14, k_15, k_16, k_17, k_18, k_19, k_20⟩ := id k_0
  obtain ⟨m_22, t_23⟩ := id k_3
  have b_24 := o_w.r0
  have b_25 := o_w.w0
  obtain ⟨v_27, v_28, v_30, v_32, v_34, v_36, v_38, v_39, v_40, v_41, v_43, e_26, b_29, b_31, b_33, b_35, b_37, b_42, b_44⟩ := hW.at m_1 t_2
  have mz_45 : fld (f a_0) 20 = v_43.toInt := by rw [e_26]; rfl
  refine v_aload_n hC dX12_isSaid_0 rfl ?_
  refine v_get hC fl_X12_49 m_1 e_26 rfl dX12_isSaid_1 ?_
  refine v_if_le hC dX12_isSaid_4 (tgt := 11) (by decide) (fun h_46 => ?_) (fun h_46 => ?_)
  · simp only [Int32.lt_iff_toInt_lt, Int32.le_iff_toInt_le, Int32.reduceToInt, ← Int32.toInt_inj] at h_46
    refine v_iconst hC dX12_isSaid_11 (v := 0) (by decide) ?_
    refine v_istore_n hC dX12_isSaid_12 (by decide) (lv' := [(1, .int 0), (0, .ref a_0)]) rfl ?_
    refine v_iconst hC dX12_isSaid_13 (v := 0) (by decide) ?_
    refine v_istore_n hC dX12_isSaid_14 (by decide) (lv' := [(2, .int 0), (1, .int 0), (0, .ref a_0)]) rfl ?_
    have lp_89 : ∀ (n_90 : Nat) (i_84 : Int32) (b_86 : (0 ≤ i_84.toInt)) (i_85 : Int32) (b_87 : (0 ≤ i_85.toInt ∧ i_85.toInt ≤ 1)) (nv_88 : (i_85.toInt = 0 ∨ 1 ≤ v_43.toInt)) (hm_92 : 0 < (n_90 : Int)), V z E 3 0 0 L f 15 [(2, .int i_84), (1, .int i_85), (0, .ref a_0)] [] := by
      intro n_90
      induction n_90 with
      | zero =>
        intro i_84 b_86 i_85 b_87 nv_88 hm_92
        exfalso; omega
      | succ n_90 ih_91 =>
        intro i_84 b_86 i_85 b_87 nv_88 hm_92
        refine v_iload_n hC dX12_isSaid_15 rfl ?_
        refine v_aload_n hC dX12_isSaid_16 rfl ?_
        refine v_get hC fl_X12_49 m_1 e_26 rfl dX12_isSaid_17 ?_
        refine v_icmp_ge_t hC dX12_isSaid_20 (tgt := 50) (by decide) (by first | omega | (simp only [Int32.lt_iff_toInt_lt, Int32.le_iff_toInt_le, Int32.reduceToInt, ← Int32.toInt_inj, true_and, and_true, or_true, true_or, false_or, or_false, false_and, and_false, not_true_eq_false, not_false_eq_true] <;> omega)) ?_
        refine v_iload_n hC dX12_isSaid_50 rfl ?_
        exact hR _ _ _ _ _ _ _ dX12_isSaid_51 (nar01 (by first | omega | (simp only [Int32.lt_iff_toInt_lt, Int32.le_iff_toInt_le, Int32.reduceToInt, ← Int32.toInt_inj, true_and, and_true, or_true, true_or, false_or, or_false, false_and, and_false, not_true_eq_false, not_false_eq_true] <;> omega))) (Nat.le_of_ble_eq_true rfl) (Nat.le_of_ble_eq_true rfl) ⟨rfl, rfl, (by first | omega | (simp only [Int32.lt_iff_toInt_lt, Int32.le_iff_toInt_le, Int32.reduceToInt, ← Int32.toInt_inj, true_and, and_true, or_true, true_or, false_or, or_false, false_and, and_false, not_true_eq_false, not_false_eq_true] <;> omega)), (by simp only [mz_45, true_and, and_true, or_true, true_or, false_or, or_false, false_and, and_false, not_true_eq_false, not_false_eq_true] <;> first | omega | (simp only [Int32.lt_iff_toInt_lt, Int32.le_iff_toInt_le, Int32.reduceToInt, ← Int32.toInt_inj, true_and, and_true, or_true, true_or, false_or, or_false, false_and, and_false, not_true_eq_false, not_false_eq_true] <;> omega))⟩
    refine v_pick [0, 1, 2] rfl ?_
    exact lp_89 1 0 (by decide) 0 (by decide) (by first | omega | (simp only [Int32.lt_iff_toInt_lt, Int32.le_iff_toInt_le, Int32.reduceToInt, ← Int32.toInt_inj, true_and, and_true, or_true, true_or, false_or, or_false, false_and, and_false, not_true_eq_false, not_false_eq_true] <;> omega)) (by decide)
  · simp only [Int32.lt_iff_toInt_lt, Int32.le_iff_toInt_le, Int32.reduceToInt, ← Int32.toInt_inj] at h_46
    refine v_iconst hC dX12_isSaid_7 (v := 1) (by decide) ?_
    refine v_goto hC dX12_isSaid_8 (tgt := 12) (by decide) ?_
    refine v_istore_n hC dX12_isSaid_12 (by decide) (lv' := [(1, .int 1), (0, .ref a_0)]) rfl ?_
    refine v_iconst hC dX12_isSaid_13 (v := 0) (by decide) ?_
    refine v_istore_n hC dX12_isSaid_14 (by decide) (lv' := [(2, .int 0), (1, .int 1), (0, .ref a_0)]) rfl ?_
    have lp_171 : ∀ (n_172 : Nat) (i_166 : Int32) (b_168 : (0 ≤ i_166.toInt ∧ i_166.toInt ≤ 100)) (i_167 : Int32) (b_169 : (0 ≤ i_167.toInt ∧ i_167.toInt ≤ 1)) (nv_170 : (i_167.toInt = 0 ∨ 1 ≤ v_43.toInt)) (hm_174 : 100 - i_166.toInt < (n_172 : Int)), V z E 3 0 0 L f 15 [(2, .int i_166), (1, .int i_167), (0, .ref a_0)] [] := by
      intro n_172
      induction n_172 with
      | zero =>
        intro i_166 b_168 i_167 b_169 nv_170 hm_174
        exfalso; omega
      | succ n_172 ih_173 =>
        intro i_166 b_168 i_167 b_169 nv_170 hm_174
        refine v_iload_n hC dX12_isSaid_15 rfl ?_
        refine v_aload_n hC dX12_isSaid_16 rfl ?_
        refine v_get hC fl_X12_49 m_1 e_26 rfl dX12_isSaid_17 ?_
        refine v_icmp_ge hC dX12_isSaid_20 (tgt := 50) (by decide) (fun h_175 => ?_) (fun h_175 => ?_)
        · simp only [Int32.lt_iff_toInt_lt, Int32.le_iff_toInt_le, Int32.reduceToInt, ← Int32.toInt_inj] at h_175
          refine v_iload_n hC dX12_isSaid_50 rfl ?_
          exact hR _ _ _ _ _ _ _ dX12_isSaid_51 (nar01 (by first | omega | (simp only [Int32.lt_iff_toInt_lt, Int32.le_iff_toInt_le, Int32.reduceToInt, ← Int32.toInt_inj, true_and, and_true, or_true, true_or, false_or, or_false, false_and, and_false, not_true_eq_false, not_false_eq_true] <;> omega))) (Nat.le_of_ble_eq_true rfl) (Nat.le_of_ble_eq_true rfl) ⟨rfl, rfl, (by first | omega | (simp only [Int32.lt_iff_toInt_lt, Int32.le_iff_toInt_le, Int32.reduceToInt, ← Int32.toInt_inj, true_and, and_true, or_true, true_or, false_or, or_false, false_and, and_false, not_true_eq_false, not_false_eq_true] <;> omega)), (by simp only [mz_45, true_and, and_true, or_true, true_or, false_or, or_false, false_and, and_false, not_true_eq_false, not_false_eq_true] <;> first | omega | (simp only [Int32.lt_iff_toInt_lt, Int32.le_iff_toInt_le, Int32.reduceToInt, ← Int32.toInt_inj, true_and, and_true, or_true, true_or, false_or, or_false, false_and, and_false, not_true_eq_false, not_false_eq_true] <;> omega))⟩
        · simp only [Int32.lt_iff_toInt_lt, Int32.le_iff_toInt_le, Int32.reduceToInt, ← Int32.toInt_inj] at h_175
          refine v_iload_n hC dX12_isSaid_23 rfl ?_
          refine v_if_eq hC dX12_isSaid_24 (tgt := 42) (by decide) (fun h_176 => ?_) (fun h_176 => ?_)
          · simp only [Int32.lt_iff_toInt_lt, Int32.le_iff_toInt_le, Int32.reduceToInt, ← Int32.toInt_inj] at h_176
            refine v_iconst hC dX12_isSaid_42 (v := 0) (by decide) ?_
            refine v_istore_n hC dX12_isSaid_43 (by decide) (lv' := [(1, .int 0), (2, .int i_166), (0, .ref a_0)]) rfl ?_
            obtain ⟨v_177, h_178⟩ : ∃ v9 : Int32, i_166 + Int32.ofInt 1 = v9 := ⟨_, rfl⟩
            have h_179 := add_v (b := 1) h_178 (by first | omega | (simp only [Int32.lt_iff_toInt_lt, Int32.le_iff_toInt_le, Int32.reduceToInt, ← Int32.toInt_inj, true_and, and_true, or_true, true_or, false_or, or_false, false_and, and_false, not_true_eq_false, not_false_eq_true] <;> omega)) (by first | omega | (simp only [Int32.lt_iff_toInt_lt, Int32.le_iff_toInt_le, Int32.reduceToInt, ← Int32.toInt_inj, true_and, and_true, or_true, true_or, false_or, or_false, false_and, and_false, not_true_eq_false, not_false_eq_true] <;> omega))
            simp only [Int32.reduceToInt] at h_179
            refine v_iinc hC dX12_isSaid_44 (k := 1) rfl (v := v_177) h_178 (by decide) (lv' := [(2, .int v_177), (1, .int 0), (0, .ref a_0)]) rfl ?_
            refine v_goto hC dX12_isSaid_47 (tgt := 15) (by decide) ?_
            refine v_pick [0, 1, 2] rfl ?_
            exact ih_173 v_177 (by first | omega | (simp only [Int32.lt_iff_toInt_lt, Int32.le_iff_toInt_le, Int32.reduceToInt, ← Int32.toInt_inj, true_and, and_true, or_true, true_or, false_or, or_false, false_and, and_false, not_true_eq_false, not_false_eq_true] <;> omega)) 0 (by decide) (by first | omega | (simp only [Int32.lt_iff_toInt_lt, Int32.le_iff_toInt_le, Int32.reduceToInt, ← Int32.toInt_inj, true_and, and_true, or_true, true_or, false_or, or_false, false_and, and_false, not_true_eq_false, not_false_eq_true] <;> omega)) (by first | omega | (simp only [Int32.lt_iff_toInt_lt, Int32.le_iff_toInt_le, Int32.reduceToInt, ← Int32.toInt_inj, true_and, and_true, or_true, true_or, false_or, or_false, false_and, and_false, not_true_eq_false, not_false_eq_true] <;> omega))
          · simp only [Int32.lt_iff_toInt_lt, Int32.le_iff_toInt_le, Int32.reduceToInt, ← Int32.toInt_inj] at h_176
            refine v_aload_n hC dX12_isSaid_27 rfl ?_
            refine v_get hC fl_X12_46 m_1 e_26 rfl dX12_isSaid_28 ?_
            refine v_iload_n hC dX12_isSaid_31 rfl ?_
            obtain ⟨m_180, t_181⟩ := id k_12
            obtain ⟨g_183, e_182⟩ := hW.at m_180 t_181
            obtain ⟨v_184, h_185⟩ : ∃ v9 : Int32, g_183 (i_166 : Int32).toNatClampNeg = v9 := ⟨_, rfl⟩
            refine v_iald hC m_180 e_182 (vp_in_iff.mpr (by first | omega | (simp only [Int32.lt_iff_toInt_lt, Int32.le_iff_toInt_le, Int32.reduceToInt, ← Int32.toInt_inj, true_and, and_true, or_true, true_or, false_or, or_false, false_and, and_false, not_true_eq_false, not_false_eq_true] <;> omega))) h_185 dX12_isSaid_32 ?_
            refine v_bipush hC dX12_isSaid_33 (v := 99) (by decide) ?_
            refine v_icmp_eq hC dX12_isSaid_35 (tgt := 42) (by decide) (fun h_186 => ?_) (fun h_186 => ?_)
            · simp only [Int32.lt_iff_toInt_lt, Int32.le_iff_toInt_le, Int32.reduceToInt, ← Int32.toInt_inj] at h_186
              refine v_iconst hC dX12_isSaid_42 (v := 0) (by decide) ?_
              refine v_istore_n hC dX12_isSaid_43 (by decide) (lv' := [(1, .int 0), (2, .int i_166), (0, .ref a_0)]) rfl ?_
              obtain ⟨v_187, h_188⟩ : ∃ v9 : Int32, i_166 + Int32.ofInt 1 = v9 := ⟨_, rfl⟩
              have h_189 := add_v (b := 1) h_188 (by first | omega | (simp only [Int32.lt_iff_toInt_lt, Int32.le_iff_toInt_le, Int32.reduceToInt, ← Int32.toInt_inj, true_and, and_true, or_true, true_or, false_or, or_false, false_and, and_false, not_true_eq_false, not_false_eq_true] <;> omega)) (by first | omega | (simp only [Int32.lt_iff_toInt_lt, Int32.le_iff_toInt_le, Int32.reduceToInt, ← Int32.toInt_inj, true_and, and_true, or_true, true_or, false_or, or_false, false_and, and_false, not_true_eq_false, not_false_eq_true] <;> omega))
              simp only [Int32.reduceToInt] at h_189
              refine v_iinc hC dX12_isSaid_44 (k := 1) rfl (v := v_187) h_188 (by decide) (lv' := [(2, .int v_187), (1, .int 0), (0, .ref a_0)]) rfl ?_
              refine v_goto hC dX12_isSaid_47 (tgt := 15) (by decide) ?_
              refine v_pick [0, 1, 2] rfl ?_
              exact ih_173 v_187 (by first | omega | (simp only [Int32.lt_iff_toInt_lt, Int32.le_iff_toInt_le, Int32.reduceToInt, ← Int32.toInt_inj, true_and, and_true, or_true, true_or, false_or, or_false, false_and, and_false, not_true_eq_false, not_false_eq_true] <;> omega)) 0 (by decide) (by first | omega | (simp only [Int32.lt_iff_toInt_lt, Int32.le_iff_toInt_le, Int32.reduceToInt, ← Int32.toInt_inj, true_and, and_true, or_true, true_or, false_or, or_false, false_and, and_false, not_true_eq_false, not_false_eq_true] <;> omega)) (by first | omega | (simp only [Int32.lt_iff_toInt_lt, Int32.le_iff_toInt_le, Int32.reduceToInt, ← Int32.toInt_inj, true_and, and_true, or_true, true_or, false_or, or_false, false_and, and_false, not_true_eq_false, not_false_eq_true] <;> omega))
            · simp only [Int32.lt_iff_toInt_lt, Int32.le_iff_toInt_le, Int32.reduceToInt, ← Int32.toInt_inj] at h_186
              refine v_iconst hC dX12_isSaid_38 (v := 1) (by decide) ?_
              refine v_goto hC dX12_isSaid_39 (tgt := 43) (by decide) ?_
              refine v_istore_n hC dX12_isSaid_43 (by decide) (lv' := [(1, .int 1), (2, .int i_166), (0, .ref a_0)]) rfl ?_
              obtain ⟨v_190, h_191⟩ : ∃ v9 : Int32, i_166 + Int32.ofInt 1 = v9 := ⟨_, rfl⟩
              have h_192 := add_v (b := 1) h_191 (by first | omega | (simp only [Int32.lt_iff_toInt_lt, Int32.le_iff_toInt_le, Int32.reduceToInt, ← Int32.toInt_inj, true_and, and_true, or_true, true_or, false_or, or_false, false_and, and_false, not_true_eq_false, not_false_eq_true] <;> omega)) (by first | omega | (simp only [Int32.lt_iff_toInt_lt, Int32.le_iff_toInt_le, Int32.reduceToInt, ← Int32.toInt_inj, true_and, and_true, or_true, true_or, false_or, or_false, false_and, and_false, not_true_eq_false, not_false_eq_true] <;> omega))
              simp only [Int32.reduceToInt] at h_192
              refine v_iinc hC dX12_isSaid_44 (k := 1) rfl (v := v_190) h_191 (by decide) (lv' := [(2, .int v_190), (1, .int 1), (0, .ref a_0)]) rfl ?_
              refine v_goto hC dX12_isSaid_47 (tgt := 15) (by decide) ?_
              refine v_pick [0, 1, 2] rfl ?_
              exact ih_173 v_190 (by first | omega | (simp only [Int32.lt_iff_toInt_lt, Int32.le_iff_toInt_le, Int32.reduceToInt, ← Int32.toInt_inj, true_and, and_true, or_true, true_or, false_or, or_false, false_and, and_false, not_true_eq_false, not_false_eq_true] <;> omega)) 1 (by decide) (by first | omega | (simp only [Int32.lt_iff_toInt_lt, Int32.le_iff_toInt_le, Int32.reduceToInt, ← Int32.toInt_inj, true_and, and_true, or_true, true_or, false_or, or_false, false_and, and_false, not_true_eq_false, not_false_eq_true] <;> omega)) (by first | omega | (simp only [Int32.lt_iff_toInt_lt, Int32.le_iff_toInt_le, Int32.reduceToInt, ← Int32.toInt_inj, true_and, and_true, or_true, true_or, false_or, or_false, false_and, and_false, not_true_eq_false, not_false_eq_true] <;> omega))
    refine v_pick [0, 1, 2] rfl ?_
    exact lp_171 102 0 (by decide) 1 (by decide) (by first | omega | (simp only [Int32.lt_iff_toInt_lt, Int32.le_iff_toInt_le, Int32.reduceToInt, ← Int32.toInt_inj, true_and, and_true, or_true, true_or, false_or, or_false, false_and, and_false, not_true_eq_false, not_false_eq_true] <;> omega)) (by decide)
set_option maxRecDepth 100000 in
set_option maxHeartbeats 8000000 in
theorem p_X12_carries {l : Launch} {E : Ez} {L : List Nat} {f : Nat → va_E} {T : Nat → va_E → Prop} {a_0 : Nat} {a_1 : Int32} {a_2 : Int32} {a_3 : Int32} {q : Nat → Nat} {g_w : Nat → Int32} (hW : WT T L f) (k_0 : isM T L E a_0 q) (e_w : f (q 1) = aI E 2076 g_w) (o_w : WOK g_w) : CI l yX12_carries cX12_carries 7 .int 6 0 0 E [.ref a_0, .int a_1, .int a_2, .int a_3] L f (fun r L1 f1 => L = L1 ∧ WT T L f1 ∧ FR [12, 108, 356] f f1 ∧ (¬ r.toInt = 0 ∨ (0 ≤ a_1.toInt ∧ a_1.toInt ≤ 5)) ∧ (¬ r.toInt = 0 ∨ (0 ≤ a_2.toInt ∧ a_2.toInt ≤ 2000000000)) ∧ (¬ r.toInt = 0 ∨ (1 ≤ a_3.toInt ∧ a_3.toInt ≤ 50))) := by
  refine ci_of (by decide) (Nat.le_of_ble_eq_true rfl) (fun z hz hnm hC hR => ?_)
  have hC : Cx z E cX12_carries RX12 7 6 0 0 := hC
  subst hz
  show V z E 7 0 0 L f 0 [(0, .ref a_0), (1, .int a_1), (2, .int a_2), (3, .int a_3)] []
  obtain ⟨m_1, t_2, nq_21, k_3, k_4, k_5, k_6, k_7, k_8, k_9, k_10, k_11, k_12, k_13, k_14, k_15, k_16, k_17, k_18, k_19, k_20⟩ := id k_0
  obtain ⟨m_22, t_23⟩ := id k_3
  have b_24 := o_w.r0
  have b_25 := o_w.w0
  refine v_iload_n hC dX12_carries_0 rfl ?_
  refine v_si hC (rest := []) mt_X12_isWay (p_X12_isWay hW) mx_X12_isWay ml_X12_221 (by decide) rfl (cells1 := 0) (slots1 := 0) (by decide) (by decide) (Nat.le_of_ble_eq_true rfl) (Nat.le_of_ble_eq_true rfl) rfl (Nat.le_of_ble_eq_true rfl) dX12_carries_1 (fun r_26 L_27 f_28 h_29 => ?_)
  obtain ⟨rfl, rfl, b_30, h_31⟩ := h_29
  refine v_if_eq hC dX12_carries_4 (tgt := 26) (by decide) (fun h_34 => ?_) (fun h_34 => ?_)
  · simp only [Int32.lt_iff_toInt_lt, Int32.le_iff_toInt_le, Int32.reduceToInt, ← Int32.toInt_inj] at h_34
    refine v_bipush hC dX12_carries_26 (v := (-2)) (by decide) ?_
    exact hR _ _ _ _ _ _ _ dX12_carries_28 rfl (Nat.le_of_ble_eq_true rfl) (Nat.le_of_ble_eq_true rfl) ⟨rfl, hW, FR.rf, (.inl (by decide)), (.inl (by decide)), (.inl (by decide))⟩
  · simp only [Int32.lt_iff_toInt_lt, Int32.le_iff_toInt_le, Int32.reduceToInt, ← Int32.toInt_inj] at h_34
    refine v_iload_n hC dX12_carries_7 rfl ?_
    refine v_si hC (rest := []) mt_X12_isSeed (p_X12_isSeed hW) mx_X12_isSeed ml_X12_322 (by decide) rfl (cells1 := 0) (slots1 := 0) (by decide) (by decide) (Nat.le_of_ble_eq_true rfl) (Nat.le_of_ble_eq_true rfl) rfl (Nat.le_of_ble_eq_true rfl) dX12_carries_8 (fun r_35 L_36 f_37 h_38 => ?_)
    obtain ⟨rfl, rfl, b_39, h_40⟩ := h_38
    refine v_if_eq hC dX12_carries_11 (tgt := 26) (by decide) (fun h_43 => ?_) (fun h_43 => ?_)
    · simp only [Int32.lt_iff_toInt_lt, Int32.le_iff_toInt_le, Int32.reduceToInt, ← Int32.toInt_inj] at h_43
      refine v_bipush hC dX12_carries_26 (v := (-2)) (by decide) ?_
      exact hR _ _ _ _ _ _ _ dX12_carries_28 rfl (Nat.le_of_ble_eq_true rfl) (Nat.le_of_ble_eq_true rfl) ⟨rfl, hW, FR.rf, (.inl (by decide)), (.inl (by decide)), (.inl (by decide))⟩
    · simp only [Int32.lt_iff_toInt_lt, Int32.le_iff_toInt_le, Int32.reduceToInt, ← Int32.toInt_inj] at h_43
      refine v_iload_n hC dX12_carries_14 rfl ?_
      obtain ⟨v_44, h_45⟩ : ∃ v9 : Int64, a_3.toInt64 = v9 := ⟨_, rfl⟩
      refine v_i2l hC dX12_carries_15 h_45 ?_
      have h_46 : v_44.toInt = a_3.toInt := by rw [← h_45]; exact Int32.toInt_toInt64 _
      refine v_lconst hC dX12_carries_16 (v := 1) (by decide) ?_
      refine v_ldc2 hC kl_X12_408 dX12_carries_17 ?_
      refine v_si hC (rest := []) mt_X12_in (p_X12_in hW) mx_X12_in ml_X12_79 (by decide) rfl (cells1 := 0) (slots1 := 0) (by decide) (by decide) (Nat.le_of_ble_eq_true rfl) (Nat.le_of_ble_eq_true rfl) rfl (Nat.le_of_ble_eq_true rfl) dX12_carries_20 (fun r_47 L_48 f_49 h_50 => ?_)
      obtain ⟨rfl, rfl, b_51, x_52⟩ := h_50
      try simp only [Int32.reduceToInt, Int64.reduceToInt] at x_52
      refine v_if_ne hC dX12_carries_23 (tgt := 29) (by decide) (fun h_55 => ?_) (fun h_55 => ?_)
      · simp only [Int32.lt_iff_toInt_lt, Int32.le_iff_toInt_le, Int32.reduceToInt, ← Int32.toInt_inj] at h_55
        refine v_aload_n hC dX12_carries_29 rfl ?_
        obtain ⟨v_57, v_58, v_60, v_62, v_64, v_66, v_68, v_69, v_70, v_71, v_73, e_56, b_59, b_61, b_63, b_65, b_67, b_72, b_74⟩ := hW.at m_1 t_2
        refine v_vi hC (rest := []) m_1 e_56 rfl mi_X12_hasPattern ms_X12_hasPattern (p_X12_hasPattern hW k_0 e_w o_w) mx_X12_hasPattern ml_X12_325 (by decide) rfl (cells1 := 0) (slots1 := 0) (by decide) (by decide) (Nat.le_of_ble_eq_true rfl) (Nat.le_of_ble_eq_true rfl) rfl (Nat.le_of_ble_eq_true rfl) dX12_carries_30 (fun r_75 L_76 f_77 h_78 => ?_)
        obtain ⟨rfl, rfl, b_79, x_80⟩ := h_78
        try simp only [Int32.reduceToInt, Int64.reduceToInt] at x_80
        refine v_if_eq hC dX12_carries_33 (tgt := 44) (by decide) (fun h_83 => ?_) (fun h_83 => ?_)
        · simp only [Int32.lt_iff_toInt_lt, Int32.le_iff_toInt_le, Int32.reduceToInt, ← Int32.toInt_inj] at h_83
          refine v_bipush hC dX12_carries_44 (v := (-6)) (by decide) ?_
          exact hR _ _ _ _ _ _ _ dX12_carries_46 rfl (Nat.le_of_ble_eq_true rfl) (Nat.le_of_ble_eq_true rfl) ⟨rfl, hW, FR.rf, (.inl (by decide)), (.inl (by decide)), (.inl (by decide))⟩
        · simp only [Int32.lt_iff_toInt_lt, Int32.le_iff_toInt_le, Int32.reduceToInt, ← Int32.toInt_inj] at h_83
          refine v_aload_n hC dX12_carries_36 rfl ?_
          refine v_iload_n hC dX12_carries_37 rfl ?_
          refine v_vi hC (rest := []) m_1 e_56 rfl mi_X12_isTold ms_X12_isTold (p_X12_isTold hW k_0 (by first | omega | (simp only [Int32.lt_iff_toInt_lt, Int32.le_iff_toInt_le, Int32.reduceToInt, ← Int32.toInt_inj, true_and, and_true, or_true, true_or, false_or, or_false, false_and, and_false, not_true_eq_false, not_false_eq_true] <;> omega)) e_w o_w) mx_X12_isTold ml_X12_354 (by decide) rfl (cells1 := 0) (slots1 := 0) (by decide) (by decide) (Nat.le_of_ble_eq_true rfl) (Nat.le_of_ble_eq_true rfl) rfl (Nat.le_of_ble_eq_true rfl) dX12_carries_38 (fun r_84 L_85 f_86 h_87 => ?_)
          obtain ⟨rfl, rfl, b_88, x_89⟩ := h_87
          try simp only [Int32.reduceToInt, Int64.reduceToInt] at x_89
          refine v_if_ne hC dX12_carries_41 (tgt := 47) (by decide) (fun h_92 => ?_) (fun h_92 => ?_)
          · simp only [Int32.lt_iff_toInt_lt, Int32.le_iff_toInt_le, Int32.reduceToInt, ← Int32.toInt_inj] at h_92
            refine v_aload_n hC dX12_carries_47 rfl ?_
            refine v_vi hC (rest := []) m_1 e_56 rfl mi_X12_isSaid ms_X12_isSaid (p_X12_isSaid hW k_0 e_w o_w) mx_X12_isSaid ml_X12_410 (by decide) rfl (cells1 := 0) (slots1 := 0) (by decide) (by decide) (Nat.le_of_ble_eq_true rfl) (Nat.le_of_ble_eq_true rfl) rfl (Nat.le_of_ble_eq_true rfl) dX12_carries_48 (fun r_93 L_94 f_95 h_96 => ?_)
            obtain ⟨rfl, rfl, b_97, x_98⟩ := h_96
            have fe_101 : fld (f a_0) 20 = (v_73 : Int32).toInt := by rw [e_56]; rfl
            rw [fe_101] at x_98
            clear fe_101
            try simp only [Int32.reduceToInt, Int64.reduceToInt] at x_98
            refine v_if_ne hC dX12_carries_51 (tgt := 57) (by decide) (fun h_102 => ?_) (fun h_102 => ?_)
            · simp only [Int32.lt_iff_toInt_lt, Int32.le_iff_toInt_le, Int32.reduceToInt, ← Int32.toInt_inj] at h_102
              refine v_iconst hC dX12_carries_57 (v := 5) (by decide) ?_
              refine v_aload_n hC dX12_carries_58 rfl ?_
              refine v_get hC fl_X12_49 m_1 e_56 rfl dX12_carries_59 ?_
              refine v_iconst hC dX12_carries_62 (v := 1) (by decide) ?_
              obtain ⟨v_103, h_104⟩ : ∃ v9 : Int32, v_73 + 1 = v9 := ⟨_, rfl⟩
              refine v_iadd hC dX12_carries_63 h_104 ?_
              have h_105 := add_v h_104 (by first | omega | (simp only [Int32.lt_iff_toInt_lt, Int32.le_iff_toInt_le, Int32.reduceToInt, ← Int32.toInt_inj, true_and, and_true, or_true, true_or, false_or, or_false, false_and, and_false, not_true_eq_false, not_false_eq_true] <;> omega)) (by first | omega | (simp only [Int32.lt_iff_toInt_lt, Int32.le_iff_toInt_le, Int32.reduceToInt, ← Int32.toInt_inj, true_and, and_true, or_true, true_or, false_or, or_false, false_and, and_false, not_true_eq_false, not_false_eq_true] <;> omega))
              try simp only [Int32.reduceToInt] at h_105
              obtain ⟨v_106, h_107⟩ : ∃ v9 : Int32, (5 : Int32) * v_103 = v9 := ⟨_, rfl⟩
              refine v_imul hC dX12_carries_64 h_107 ?_
              have h_108 := mul_v 5 101 505 h_107 (by decide) (by first | omega | (simp only [Int32.lt_iff_toInt_lt, Int32.le_iff_toInt_le, Int32.reduceToInt, ← Int32.toInt_inj, true_and, and_true, or_true, true_or, false_or, or_false, false_and, and_false, not_true_eq_false, not_false_eq_true] <;> omega)) (by decide) (by decide)
              try simp only [Int32.reduceToInt] at h_108
              refine v_aload_n hC dX12_carries_65 rfl ?_
              refine v_iload_n hC dX12_carries_66 rfl ?_
              refine v_vi hC (rest := [.int v_106]) m_1 e_56 rfl mi_X12_roomOf ms_X12_roomOf (p_X12_roomOf hW k_0 (by first | omega | (simp only [Int32.lt_iff_toInt_lt, Int32.le_iff_toInt_le, Int32.reduceToInt, ← Int32.toInt_inj, true_and, and_true, or_true, true_or, false_or, or_false, false_and, and_false, not_true_eq_false, not_false_eq_true] <;> omega)) e_w o_w (by first | omega | (simp only [Int32.lt_iff_toInt_lt, Int32.le_iff_toInt_le, Int32.reduceToInt, ← Int32.toInt_inj, true_and, and_true, or_true, true_or, false_or, or_false, false_and, and_false, not_true_eq_false, not_false_eq_true] <;> omega))) mx_X12_roomOf ml_X12_241 (by decide) rfl (cells1 := 0) (slots1 := 0) (by decide) (by decide) (Nat.le_of_ble_eq_true rfl) (Nat.le_of_ble_eq_true rfl) rfl (Nat.le_of_ble_eq_true rfl) dX12_carries_67 (fun r_109 L_110 f_111 h_112 => ?_)
              obtain ⟨rfl, hW_117, hF_118, b_113, x_114, x_115, x_116⟩ := h_112
              have fe_119 : fld (f a_0) 20 = (v_73 : Int32).toInt := by rw [e_56]; rfl
              have hf_120 := hF_118.at e_w rfl
              obtain ⟨v_122, v_123, v_125, v_127, v_129, v_131, v_133, v_134, v_135, v_136, v_138, e_121, b_124, b_126, b_128, b_130, b_132, b_137, b_139⟩ := hW_117.at m_1 t_2
              have fe_140 : fld (f_111 a_0) 20 = (v_138 : Int32).toInt := by rw [e_121]; rfl
              rw [fe_140, fe_119] at x_116
              clear fe_119 fe_140
              try simp only [Int32.reduceToInt, Int64.reduceToInt] at x_114
              try simp only [Int32.reduceToInt, Int64.reduceToInt] at x_115
              try simp only [Int32.reduceToInt, Int64.reduceToInt] at x_116
              refine v_icmp_le hC dX12_carries_70 (tgt := 76) (by decide) (fun h_141 => ?_) (fun h_141 => ?_)
              · simp only [Int32.lt_iff_toInt_lt, Int32.le_iff_toInt_le, Int32.reduceToInt, ← Int32.toInt_inj] at h_141
                refine v_iconst hC dX12_carries_76 (v := 0) (by decide) ?_
                refine v_istore hC dX12_carries_77 (by decide) (lv' := [(4, .int 0), (0, .ref a_0), (1, .int a_1), (2, .int a_2), (3, .int a_3)]) rfl ?_
                refine v_iconst hC dX12_carries_79 (v := 0) (by decide) ?_
                refine v_istore hC dX12_carries_80 (by decide) (lv' := [(5, .int 0), (4, .int 0), (0, .ref a_0), (1, .int a_1), (2, .int a_2), (3, .int a_3)]) rfl ?_
                have lp_758 : ∀ (n_759 : Nat) (f_752 : Nat → va_E) (hW_753 : WT T L f_752) (hF_754 : FR [108, 356] f_111 f_752) (i_750 : Int32) (b_757 : (0 ≤ i_750.toInt ∧ i_750.toInt ≤ 50)) (i_751 : Int32) (hm_761 : 50 - i_750.toInt < (n_759 : Int)), V z E 7 0 0 L f_752 82 [(5, .int i_750), (4, .int i_751), (0, .ref a_0), (1, .int a_1), (2, .int a_2), (3, .int a_3)] [] := by
                  intro n_759
                  induction n_759 with
                  | zero =>
                    intro f_752 hW_753 hF_754 i_750 b_757 i_751 hm_761
                    have hf_755 := hF_754.at hf_120 rfl
                    have hf_756 := hF_754.at e_121 rfl
                    exfalso; omega
                  | succ n_759 ih_760 =>
                    intro f_752 hW_753 hF_754 i_750 b_757 i_751 hm_761
                    have hf_755 := hF_754.at hf_120 rfl
                    have hf_756 := hF_754.at e_121 rfl
                    refine v_iload hC dX12_carries_82 rfl ?_
                    refine v_iload_n hC dX12_carries_84 rfl ?_
                    refine v_icmp_ge hC dX12_carries_85 (tgt := 138) (by decide) (fun h_762 => ?_) (fun h_762 => ?_)
                    · simp only [Int32.lt_iff_toInt_lt, Int32.le_iff_toInt_le, Int32.reduceToInt, ← Int32.toInt_inj] at h_762
                      refine v_iload hC dX12_carries_138 rfl ?_
                      exact hR _ _ _ _ _ _ _ dX12_carries_140 rfl (Nat.le_of_ble_eq_true rfl) (Nat.le_of_ble_eq_true rfl) ⟨rfl, hW_753, ((hF_118.tr hF_754).mono rfl), (.inr (by first | omega | (simp only [Int32.lt_iff_toInt_lt, Int32.le_iff_toInt_le, Int32.reduceToInt, ← Int32.toInt_inj, true_and, and_true, or_true, true_or, false_or, or_false, false_and, and_false, not_true_eq_false, not_false_eq_true] <;> omega))), (.inr (by first | omega | (simp only [Int32.lt_iff_toInt_lt, Int32.le_iff_toInt_le, Int32.reduceToInt, ← Int32.toInt_inj, true_and, and_true, or_true, true_or, false_or, or_false, false_and, and_false, not_true_eq_false, not_false_eq_true] <;> omega))), (.inr (by first | omega | (simp only [Int32.lt_iff_toInt_lt, Int32.le_iff_toInt_le, Int32.reduceToInt, ← Int32.toInt_inj, true_and, and_true, or_true, true_or, false_or, or_false, false_and, and_false, not_true_eq_false, not_false_eq_true] <;> omega)))⟩
                    · simp only [Int32.lt_iff_toInt_lt, Int32.le_iff_toInt_le, Int32.reduceToInt, ← Int32.toInt_inj] at h_762
                      refine v_aload_n hC dX12_carries_88 rfl ?_
                      refine v_iload_n hC dX12_carries_89 rfl ?_
                      obtain ⟨v_763, h_764⟩ : ∃ v9 : Int64, a_2.toInt64 = v9 := ⟨_, rfl⟩
                      refine v_i2l hC dX12_carries_90 h_764 ?_
                      have h_765 : v_763.toInt = a_2.toInt := by rw [← h_764]; exact Int32.toInt_toInt64 _
                      refine v_iload hC dX12_carries_91 rfl ?_
                      obtain ⟨v_766, h_767⟩ : ∃ v9 : Int64, i_750.toInt64 = v9 := ⟨_, rfl⟩
                      refine v_i2l hC dX12_carries_93 h_767 ?_
                      have h_768 : v_766.toInt = i_750.toInt := by rw [← h_767]; exact Int32.toInt_toInt64 _
                      obtain ⟨v_769, h_770⟩ : ∃ v9 : Int64, v_763 + v_766 = v9 := ⟨_, rfl⟩
                      refine v_ladd hC dX12_carries_94 h_770 ?_
                      have h_771 := ladd_v h_770 h_764 h_767
                      refine v_vi hC (rest := []) m_1 hf_756 rfl mi_X12_knits ms_X12_knits (p_X12_knits hW_753 k_0 hf_755 o_w) mx_X12_knits ml_X12_328 (by decide) rfl (cells1 := 0) (slots1 := 0) (by decide) (by decide) (Nat.le_of_ble_eq_true rfl) (Nat.le_of_ble_eq_true rfl) rfl (Nat.le_of_ble_eq_true rfl) dX12_carries_95 (fun r_772 L_773 f_774 h_775 => ?_)
                      obtain ⟨rfl, hW_776, hF_777⟩ := h_775
                      have hf_778 := hF_777.at hf_755 rfl
                      have hf_779 := hF_777.at hf_756 rfl
                      refine v_aload_n hC dX12_carries_98 rfl ?_
                      refine v_iload_n hC dX12_carries_99 rfl ?_
                      refine v_aload_n hC dX12_carries_100 rfl ?_
                      refine v_get hC fl_X12_46 m_1 hf_779 rfl dX12_carries_101 ?_
                      refine v_aload_n hC dX12_carries_104 rfl ?_
                      refine v_get hC fl_X12_49 m_1 hf_779 rfl dX12_carries_105 ?_
                      refine v_vi hC (rest := [.int r_772]) m_1 hf_779 rfl mi_X12_puts ms_X12_puts (p_X12_puts_65 hW_776 k_0 (by first | omega | (simp only [Int32.lt_iff_toInt_lt, Int32.le_iff_toInt_le, Int32.reduceToInt, ← Int32.toInt_inj, true_and, and_true, or_true, true_or, false_or, or_false, false_and, and_false, not_true_eq_false, not_false_eq_true] <;> omega)) k_12 (by first | omega | (simp only [Int32.lt_iff_toInt_lt, Int32.le_iff_toInt_le, Int32.reduceToInt, ← Int32.toInt_inj, true_and, and_true, or_true, true_or, false_or, or_false, false_and, and_false, not_true_eq_false, not_false_eq_true] <;> omega)) hf_778 o_w (by first | omega | (simp only [Int32.lt_iff_toInt_lt, Int32.le_iff_toInt_le, Int32.reduceToInt, ← Int32.toInt_inj, true_and, and_true, or_true, true_or, false_or, or_false, false_and, and_false, not_true_eq_false, not_false_eq_true] <;> omega)) (fun i9 p9 q9 => x_114 i9 p9 (by omega)) (by first | omega | (simp only [Int32.lt_iff_toInt_lt, Int32.le_iff_toInt_le, Int32.reduceToInt, ← Int32.toInt_inj, true_and, and_true, or_true, true_or, false_or, or_false, false_and, and_false, not_true_eq_false, not_false_eq_true] <;> omega))) mx_X12_puts ml_X12_366 (by decide) rfl (cells1 := 0) (slots1 := 0) (by decide) (by decide) (Nat.le_of_ble_eq_true rfl) (Nat.le_of_ble_eq_true rfl) rfl (Nat.le_of_ble_eq_true rfl) dX12_carries_108 (fun r_780 L_781 f_782 h_783 => ?_)
                      obtain ⟨rfl, hW_784, hF_785⟩ := h_783
                      have hf_786 := hF_785.at hf_778 rfl
                      have hf_787 := hF_785.at hf_779 rfl
                      obtain ⟨v_788, h_789⟩ : ∃ v9 : Int32, r_772 + r_780 = v9 := ⟨_, rfl⟩
                      refine v_iadd hC dX12_carries_111 h_789 ?_
                      refine v_istore hC dX12_carries_112 (by decide) (lv' := [(6, .int v_788), (5, .int i_750), (4, .int i_751), (0, .ref a_0), (1, .int a_1), (2, .int a_2), (3, .int a_3)]) rfl ?_
                      refine v_iload hC dX12_carries_114 rfl ?_
                      refine v_aload_n hC dX12_carries_116 rfl ?_
                      refine v_vi hC (rest := [.int i_751]) m_1 hf_787 rfl mi_X12_stopping ms_X12_stopping (p_X12_stopping hW_784 k_0 hf_786 o_w) mx_X12_stopping ml_X12_405 (by decide) rfl (cells1 := 0) (slots1 := 0) (by decide) (by decide) (Nat.le_of_ble_eq_true rfl) (Nat.le_of_ble_eq_true rfl) rfl (Nat.le_of_ble_eq_true rfl) dX12_carries_117 (fun r_791 L_792 f_793 h_794 => ?_)
                      obtain ⟨rfl, hW_796, hF_797, b_795⟩ := h_794
                      have hf_798 := hF_797.at hf_786 rfl
                      have hf_799 := hF_797.at hf_787 rfl
                      refine v_iconst hC dX12_carries_120 (v := (-1)) (by decide) ?_
                      refine v_icmp_ne hC dX12_carries_121 (tgt := 128) (by decide) (fun h_800 => ?_) (fun h_800 => ?_)
                      · simp only [Int32.lt_iff_toInt_lt, Int32.le_iff_toInt_le, Int32.reduceToInt, ← Int32.toInt_inj] at h_800
                        refine v_iconst hC dX12_carries_128 (v := 1) (by decide) ?_
                        obtain ⟨v_801, h_802⟩ : ∃ v9 : Int32, i_751 + 1 = v9 := ⟨_, rfl⟩
                        refine v_iadd hC dX12_carries_129 h_802 ?_
                        refine v_istore hC dX12_carries_130 (by decide) (lv' := [(4, .int v_801), (6, .int v_788), (5, .int i_750), (0, .ref a_0), (1, .int a_1), (2, .int a_2), (3, .int a_3)]) rfl ?_
                        obtain ⟨v_804, h_805⟩ : ∃ v9 : Int32, i_750 + Int32.ofInt 1 = v9 := ⟨_, rfl⟩
                        have h_806 := add_v (b := 1) h_805 (by first | omega | (simp only [Int32.lt_iff_toInt_lt, Int32.le_iff_toInt_le, Int32.reduceToInt, ← Int32.toInt_inj, true_and, and_true, or_true, true_or, false_or, or_false, false_and, and_false, not_true_eq_false, not_false_eq_true] <;> omega)) (by first | omega | (simp only [Int32.lt_iff_toInt_lt, Int32.le_iff_toInt_le, Int32.reduceToInt, ← Int32.toInt_inj, true_and, and_true, or_true, true_or, false_or, or_false, false_and, and_false, not_true_eq_false, not_false_eq_true] <;> omega))
                        simp only [Int32.reduceToInt] at h_806
                        refine v_iinc hC dX12_carries_132 (k := 2) rfl (v := v_804) h_805 (by decide) (lv' := [(5, .int v_804), (4, .int v_801), (6, .int v_788), (0, .ref a_0), (1, .int a_1), (2, .int a_2), (3, .int a_3)]) rfl ?_
                        refine v_goto hC dX12_carries_135 (tgt := 82) (by decide) ?_
                        refine v_pick [0, 1, 3, 4, 5, 6] rfl ?_
                        exact ih_760 f_793 hW_796 ((((hF_754.tr hF_777).tr hF_785).tr hF_797).mono rfl) v_804 (by first | omega | (simp only [Int32.lt_iff_toInt_lt, Int32.le_iff_toInt_le, Int32.reduceToInt, ← Int32.toInt_inj, true_and, and_true, or_true, true_or, false_or, or_false, false_and, and_false, not_true_eq_false, not_false_eq_true] <;> omega)) v_801 (by first | omega | (simp only [Int32.lt_iff_toInt_lt, Int32.le_iff_toInt_le, Int32.reduceToInt, ← Int32.toInt_inj, true_and, and_true, or_true, true_or, false_or, or_false, false_and, and_false, not_true_eq_false, not_false_eq_true] <;> omega))
                      · simp only [Int32.lt_iff_toInt_lt, Int32.le_iff_toInt_le, Int32.reduceToInt, ← Int32.toInt_inj] at h_800
                        refine v_iconst hC dX12_carries_124 (v := 0) (by decide) ?_
                        refine v_goto hC dX12_carries_125 (tgt := 129) (by decide) ?_
                        obtain ⟨v_807, h_808⟩ : ∃ v9 : Int32, i_751 + 0 = v9 := ⟨_, rfl⟩
                        refine v_iadd hC dX12_carries_129 h_808 ?_
                        have rg_810 := Int32.toInt_lt i_751
                        have rg_811 := Int32.le_toInt i_751
                        have h_809 := add_v h_808 (by first | omega | (simp only [Int32.lt_iff_toInt_lt, Int32.le_iff_toInt_le, Int32.reduceToInt, ← Int32.toInt_inj, true_and, and_true, or_true, true_or, false_or, or_false, false_and, and_false, not_true_eq_false, not_false_eq_true] <;> omega)) (by first | omega | (simp only [Int32.lt_iff_toInt_lt, Int32.le_iff_toInt_le, Int32.reduceToInt, ← Int32.toInt_inj, true_and, and_true, or_true, true_or, false_or, or_false, false_and, and_false, not_true_eq_false, not_false_eq_true] <;> omega))
                        try simp only [Int32.reduceToInt] at h_809
                        refine v_istore hC dX12_carries_130 (by decide) (lv' := [(4, .int v_807), (6, .int v_788), (5, .int i_750), (0, .ref a_0), (1, .int a_1), (2, .int a_2), (3, .int a_3)]) rfl ?_
                        obtain ⟨v_812, h_813⟩ : ∃ v9 : Int32, i_750 + Int32.ofInt 1 = v9 := ⟨_, rfl⟩
                        have h_814 := add_v (b := 1) h_813 (by first | omega | (simp only [Int32.lt_iff_toInt_lt, Int32.le_iff_toInt_le, Int32.reduceToInt, ← Int32.toInt_inj, true_and, and_true, or_true, true_or, false_or, or_false, false_and, and_false, not_true_eq_false, not_false_eq_true] <;> omega)) (by first | omega | (simp only [Int32.lt_iff_toInt_lt, Int32.le_iff_toInt_le, Int32.reduceToInt, ← Int32.toInt_inj, true_and, and_true, or_true, true_or, false_or, or_false, false_and, and_false, not_true_eq_false, not_false_eq_true] <;> omega))
                        simp only [Int32.reduceToInt] at h_814
                        refine v_iinc hC dX12_carries_132 (k := 2) rfl (v := v_812) h_813 (by decide) (lv' := [(5, .int v_812), (4, .int v_807), (6, .int v_788), (0, .ref a_0), (1, .int a_1), (2, .int a_2), (3, .int a_3)]) rfl ?_
                        refine v_goto hC dX12_carries_135 (tgt := 82) (by decide) ?_
                        refine v_pick [0, 1, 3, 4, 5, 6] rfl ?_
                        exact ih_760 f_793 hW_796 ((((hF_754.tr hF_777).tr hF_785).tr hF_797).mono rfl) v_812 (by first | omega | (simp only [Int32.lt_iff_toInt_lt, Int32.le_iff_toInt_le, Int32.reduceToInt, ← Int32.toInt_inj, true_and, and_true, or_true, true_or, false_or, or_false, false_and, and_false, not_true_eq_false, not_false_eq_true] <;> omega)) v_807 (by first | omega | (simp only [Int32.lt_iff_toInt_lt, Int32.le_iff_toInt_le, Int32.reduceToInt, ← Int32.toInt_inj, true_and, and_true, or_true, true_or, false_or, or_false, false_and, and_false, not_true_eq_false, not_false_eq_true] <;> omega))
                refine v_pick [0, 1, 2, 3, 4, 5] rfl ?_
                exact lp_758 52 f_111 hW_117 FR.rf 0 (by decide) 0 (by decide)
              · simp only [Int32.lt_iff_toInt_lt, Int32.le_iff_toInt_le, Int32.reduceToInt, ← Int32.toInt_inj] at h_141
                refine v_bipush hC dX12_carries_73 (v := (-3)) (by decide) ?_
                exact hR _ _ _ _ _ _ _ dX12_carries_75 rfl (Nat.le_of_ble_eq_true rfl) (Nat.le_of_ble_eq_true rfl) ⟨rfl, hW_117, (hF_118.mono rfl), (.inl (by decide)), (.inl (by decide)), (.inl (by decide))⟩
            · simp only [Int32.lt_iff_toInt_lt, Int32.le_iff_toInt_le, Int32.reduceToInt, ← Int32.toInt_inj] at h_102
              refine v_bipush hC dX12_carries_54 (v := (-5)) (by decide) ?_
              exact hR _ _ _ _ _ _ _ dX12_carries_56 rfl (Nat.le_of_ble_eq_true rfl) (Nat.le_of_ble_eq_true rfl) ⟨rfl, hW, FR.rf, (.inl (by decide)), (.inl (by decide)), (.inl (by decide))⟩
          · simp only [Int32.lt_iff_toInt_lt, Int32.le_iff_toInt_le, Int32.reduceToInt, ← Int32.toInt_inj] at h_92
            refine v_bipush hC dX12_carries_44 (v := (-6)) (by decide) ?_
            exact hR _ _ _ _ _ _ _ dX12_carries_46 rfl (Nat.le_of_ble_eq_true rfl) (Nat.le_of_ble_eq_true rfl) ⟨rfl, hW, FR.rf, (.inl (by decide)), (.inl (by decide)), (.inl (by decide))⟩
      · simp only [Int32.lt_iff_toInt_lt, Int32.le_iff_toInt_le, Int32.reduceToInt, ← Int32.toInt_inj] at h_55
        refine v_bipush hC dX12_carries_26 (v := (-2)) (by decide) ?_
        exact hR _ _ _ _ _ _ _ dX12_carries_28 rfl (Nat.le_of_ble_eq_true rfl) (Nat.le_of_ble_eq_true rfl) ⟨rfl, hW, FR.rf, (.inl (by decide)), (.inl (by decide)), (.inl (by decide))⟩
set_option maxRecDepth 100000 in
set_option maxHeartbeats 8000000 in
theorem p_X12_suffers {l : Launch} {E : Ez} {L : List Nat} {f : Nat → va_E} {T : Nat → va_E → Prop} {a_0 : Nat} {q : Nat → Nat} {g_w : Nat → Int32} (hW : WT T L f) (k_0 : isM T L E a_0 q) (e_w : f (q 1) = aI E 2076 g_w) (o_w : WOK g_w) : CV l yX12_suffers cX12_suffers 7 2 0 0 E [.ref a_0] L f (fun L1 f1 => L = L1 ∧ WT T L f1 ∧ FR [356] f f1) := by
  refine cv_of (by decide) (Nat.le_of_ble_eq_true rfl) (fun z hz hnm hC hR => ?_)
  have hC : Cx z E cX12_suffers RX12 7 2 0 0 := hC
  subst hz
  show V z E 7 0 0 L f 0 [(0, .ref a_0)] []
  obtain ⟨m_1, t_2, nq_21, k_3, k_4, k_5, k_6, k_7, k_8, k_9, k_10, k_11, k_12, k_13, k_14, k_15, k_16, k_17, k_18, k_19, k_20⟩ := id k_0
  obtain ⟨m_22, t_23⟩ := id k_3
  have b_24 := o_w.r0
  have b_25 := o_w.w0
  have ls_1 := o_w.los.1
  refine v_iconst hC dX12_suffers_0 (v := 0) (by decide) ?_
  refine v_istore_n hC dX12_suffers_1 (by decide) (lv' := [(1, .int 0), (0, .ref a_0)]) rfl ?_
  have lp_4406 : ∀ (n_4407 : Nat) (f_4401 : Nat → va_E) (hW_4402 : WT T L f_4401) (hF_4403 : FR [356] f f_4401) (i_4400 : Int32) (b_4405 : (0 ≤ i_4400.toInt ∧ i_4400.toInt ≤ 12)) (hm_4409 : 12 - i_4400.toInt < (n_4407 : Int)), V z E 7 0 0 L f_4401 2 [(1, .int i_4400), (0, .ref a_0)] [] := by
    intro n_4407
    induction n_4407 with
    | zero =>
      intro f_4401 hW_4402 hF_4403 i_4400 b_4405 hm_4409
      have hf_4404 := hF_4403.at e_w rfl
      exfalso; omega
    | succ n_4407 ih_4408 =>
      intro f_4401 hW_4402 hF_4403 i_4400 b_4405 hm_4409
      have hf_4404 := hF_4403.at e_w rfl
      refine v_iload_n hC dX12_suffers_2 rfl ?_
      refine v_aload_n hC dX12_suffers_3 rfl ?_
      obtain ⟨v_4411, v_4412, v_4414, v_4416, v_4418, v_4420, v_4422, v_4423, v_4424, v_4425, v_4427, e_4410, b_4413, b_4415, b_4417, b_4419, b_4421, b_4426, b_4428⟩ := hW_4402.at m_1 t_2
      refine v_get hC fl_X12_13 m_1 e_4410 rfl dX12_suffers_4 ?_
      refine v_bipush hC dX12_suffers_7 (v := 6) (by decide) ?_
      refine v_iald hC m_22 hf_4404 (vp_in_iff.mpr (by decide)) (v := g_w 6) rfl dX12_suffers_9 ?_
      refine v_icmp_ge hC dX12_suffers_10 (tgt := 194) (by decide) (fun h_4429 => ?_) (fun h_4429 => ?_)
      · simp only [Int32.lt_iff_toInt_lt, Int32.le_iff_toInt_le, Int32.reduceToInt, ← Int32.toInt_inj] at h_4429
        exact hR _ _ _ _ _ _ dX12_suffers_194 (Nat.le_of_ble_eq_true rfl) (Nat.le_of_ble_eq_true rfl) ⟨rfl, hW_4402, (hF_4403.mono rfl)⟩
      · simp only [Int32.lt_iff_toInt_lt, Int32.le_iff_toInt_le, Int32.reduceToInt, ← Int32.toInt_inj] at h_4429
        refine v_aload_n hC dX12_suffers_13 rfl ?_
        refine v_get hC fl_X12_13 m_1 e_4410 rfl dX12_suffers_14 ?_
        refine v_sipush hC dX12_suffers_17 (v := 1012) (by decide) ?_
        refine v_iconst hC dX12_suffers_20 (v := 3) (by decide) ?_
        refine v_iload_n hC dX12_suffers_21 rfl ?_
        obtain ⟨v_4430, h_4431⟩ : ∃ v9 : Int32, (3 : Int32) * i_4400 = v9 := ⟨_, rfl⟩
        refine v_imul hC dX12_suffers_22 h_4431 ?_
        have h_4432 := mul_v 3 11 33 h_4431 (by decide) (by first | omega | (simp only [Int32.lt_iff_toInt_lt, Int32.le_iff_toInt_le, Int32.reduceToInt, ← Int32.toInt_inj, true_and, and_true, or_true, true_or, false_or, or_false, false_and, and_false, not_true_eq_false, not_false_eq_true] <;> omega)) (by decide) (by decide)
        try simp only [Int32.reduceToInt] at h_4432
        obtain ⟨v_4433, h_4434⟩ : ∃ v9 : Int32, (1012 : Int32) + v_4430 = v9 := ⟨_, rfl⟩
        refine v_iadd hC dX12_suffers_23 h_4434 ?_
        have h_4435 := add_v h_4434 (by first | omega | (simp only [Int32.lt_iff_toInt_lt, Int32.le_iff_toInt_le, Int32.reduceToInt, ← Int32.toInt_inj, true_and, and_true, or_true, true_or, false_or, or_false, false_and, and_false, not_true_eq_false, not_false_eq_true] <;> omega)) (by first | omega | (simp only [Int32.lt_iff_toInt_lt, Int32.le_iff_toInt_le, Int32.reduceToInt, ← Int32.toInt_inj, true_and, and_true, or_true, true_or, false_or, or_false, false_and, and_false, not_true_eq_false, not_false_eq_true] <;> omega))
        try simp only [Int32.reduceToInt] at h_4435
        obtain ⟨v_4436, h_4437⟩ : ∃ v9 : Int32, g_w (v_4433 : Int32).toNatClampNeg = v9 := ⟨_, rfl⟩
        refine v_iald hC m_22 hf_4404 (vp_in_iff.mpr (by first | omega | (simp only [Int32.lt_iff_toInt_lt, Int32.le_iff_toInt_le, Int32.reduceToInt, ← Int32.toInt_inj, true_and, and_true, or_true, true_or, false_or, or_false, false_and, and_false, not_true_eq_false, not_false_eq_true] <;> omega))) h_4437 dX12_suffers_24 ?_
        refine v_istore_n hC dX12_suffers_25 (by decide) (lv' := [(2, .int v_4436), (1, .int i_4400), (0, .ref a_0)]) rfl ?_
        refine v_aload_n hC dX12_suffers_26 rfl ?_
        refine v_get hC fl_X12_13 m_1 e_4410 rfl dX12_suffers_27 ?_
        refine v_sipush hC dX12_suffers_30 (v := 1012) (by decide) ?_
        refine v_iconst hC dX12_suffers_33 (v := 3) (by decide) ?_
        refine v_iload_n hC dX12_suffers_34 rfl ?_
        obtain ⟨v_4438, h_4439⟩ : ∃ v9 : Int32, (3 : Int32) * i_4400 = v9 := ⟨_, rfl⟩
        refine v_imul hC dX12_suffers_35 h_4439 ?_
        have h_4440 := mul_v 3 11 33 h_4439 (by decide) (by first | omega | (simp only [Int32.lt_iff_toInt_lt, Int32.le_iff_toInt_le, Int32.reduceToInt, ← Int32.toInt_inj, true_and, and_true, or_true, true_or, false_or, or_false, false_and, and_false, not_true_eq_false, not_false_eq_true] <;> omega)) (by decide) (by decide)
        try simp only [Int32.reduceToInt] at h_4440
        obtain ⟨v_4441, h_4442⟩ : ∃ v9 : Int32, (1012 : Int32) + v_4438 = v9 := ⟨_, rfl⟩
        refine v_iadd hC dX12_suffers_36 h_4442 ?_
        have h_4443 := add_v h_4442 (by first | omega | (simp only [Int32.lt_iff_toInt_lt, Int32.le_iff_toInt_le, Int32.reduceToInt, ← Int32.toInt_inj, true_and, and_true, or_true, true_or, false_or, or_false, false_and, and_false, not_true_eq_false, not_false_eq_true] <;> omega)) (by first | omega | (simp only [Int32.lt_iff_toInt_lt, Int32.le_iff_toInt_le, Int32.reduceToInt, ← Int32.toInt_inj, true_and, and_true, or_true, true_or, false_or, or_false, false_and, and_false, not_true_eq_false, not_false_eq_true] <;> omega))
        try simp only [Int32.reduceToInt] at h_4443
        refine v_iconst hC dX12_suffers_37 (v := 1) (by decide) ?_
        obtain ⟨v_4444, h_4445⟩ : ∃ v9 : Int32, v_4441 + 1 = v9 := ⟨_, rfl⟩
        refine v_iadd hC dX12_suffers_38 h_4445 ?_
        have h_4446 := add_v h_4445 (by first | omega | (simp only [Int32.lt_iff_toInt_lt, Int32.le_iff_toInt_le, Int32.reduceToInt, ← Int32.toInt_inj, true_and, and_true, or_true, true_or, false_or, or_false, false_and, and_false, not_true_eq_false, not_false_eq_true] <;> omega)) (by first | omega | (simp only [Int32.lt_iff_toInt_lt, Int32.le_iff_toInt_le, Int32.reduceToInt, ← Int32.toInt_inj, true_and, and_true, or_true, true_or, false_or, or_false, false_and, and_false, not_true_eq_false, not_false_eq_true] <;> omega))
        try simp only [Int32.reduceToInt] at h_4446
        obtain ⟨v_4447, h_4448⟩ : ∃ v9 : Int32, g_w (v_4444 : Int32).toNatClampNeg = v9 := ⟨_, rfl⟩
        refine v_iald hC m_22 hf_4404 (vp_in_iff.mpr (by first | omega | (simp only [Int32.lt_iff_toInt_lt, Int32.le_iff_toInt_le, Int32.reduceToInt, ← Int32.toInt_inj, true_and, and_true, or_true, true_or, false_or, or_false, false_and, and_false, not_true_eq_false, not_false_eq_true] <;> omega))) h_4448 dX12_suffers_39 ?_
        have b_4449 := los_at o_w (i := v_4433) (i2 := v_4444) (l := i_4400) (by omega) (by omega) (by omega) (by omega)
        rw [h_4437, h_4448] at b_4449
        refine v_istore_n hC dX12_suffers_40 (by decide) (lv' := [(3, .int v_4447), (2, .int v_4436), (1, .int i_4400), (0, .ref a_0)]) rfl ?_
        refine v_aload_n hC dX12_suffers_41 rfl ?_
        refine v_get hC fl_X12_13 m_1 e_4410 rfl dX12_suffers_42 ?_
        refine v_sipush hC dX12_suffers_45 (v := 1012) (by decide) ?_
        refine v_iconst hC dX12_suffers_48 (v := 3) (by decide) ?_
        refine v_iload_n hC dX12_suffers_49 rfl ?_
        obtain ⟨v_4450, h_4451⟩ : ∃ v9 : Int32, (3 : Int32) * i_4400 = v9 := ⟨_, rfl⟩
        refine v_imul hC dX12_suffers_50 h_4451 ?_
        have h_4452 := mul_v 3 11 33 h_4451 (by decide) (by first | omega | (simp only [Int32.lt_iff_toInt_lt, Int32.le_iff_toInt_le, Int32.reduceToInt, ← Int32.toInt_inj, true_and, and_true, or_true, true_or, false_or, or_false, false_and, and_false, not_true_eq_false, not_false_eq_true] <;> omega)) (by decide) (by decide)
        try simp only [Int32.reduceToInt] at h_4452
        obtain ⟨v_4453, h_4454⟩ : ∃ v9 : Int32, (1012 : Int32) + v_4450 = v9 := ⟨_, rfl⟩
        refine v_iadd hC dX12_suffers_51 h_4454 ?_
        have h_4455 := add_v h_4454 (by first | omega | (simp only [Int32.lt_iff_toInt_lt, Int32.le_iff_toInt_le, Int32.reduceToInt, ← Int32.toInt_inj, true_and, and_true, or_true, true_or, false_or, or_false, false_and, and_false, not_true_eq_false, not_false_eq_true] <;> omega)) (by first | omega | (simp only [Int32.lt_iff_toInt_lt, Int32.le_iff_toInt_le, Int32.reduceToInt, ← Int32.toInt_inj, true_and, and_true, or_true, true_or, false_or, or_false, false_and, and_false, not_true_eq_false, not_false_eq_true] <;> omega))
        try simp only [Int32.reduceToInt] at h_4455
        refine v_iconst hC dX12_suffers_52 (v := 2) (by decide) ?_
        obtain ⟨v_4456, h_4457⟩ : ∃ v9 : Int32, v_4453 + 2 = v9 := ⟨_, rfl⟩
        refine v_iadd hC dX12_suffers_53 h_4457 ?_
        have h_4458 := add_v h_4457 (by first | omega | (simp only [Int32.lt_iff_toInt_lt, Int32.le_iff_toInt_le, Int32.reduceToInt, ← Int32.toInt_inj, true_and, and_true, or_true, true_or, false_or, or_false, false_and, and_false, not_true_eq_false, not_false_eq_true] <;> omega)) (by first | omega | (simp only [Int32.lt_iff_toInt_lt, Int32.le_iff_toInt_le, Int32.reduceToInt, ← Int32.toInt_inj, true_and, and_true, or_true, true_or, false_or, or_false, false_and, and_false, not_true_eq_false, not_false_eq_true] <;> omega))
        try simp only [Int32.reduceToInt] at h_4458
        obtain ⟨v_4459, h_4460⟩ : ∃ v9 : Int32, g_w (v_4456 : Int32).toNatClampNeg = v9 := ⟨_, rfl⟩
        refine v_iald hC m_22 hf_4404 (vp_in_iff.mpr (by first | omega | (simp only [Int32.lt_iff_toInt_lt, Int32.le_iff_toInt_le, Int32.reduceToInt, ← Int32.toInt_inj, true_and, and_true, or_true, true_or, false_or, or_false, false_and, and_false, not_true_eq_false, not_false_eq_true] <;> omega))) h_4460 dX12_suffers_54 ?_
        refine v_istore hC dX12_suffers_55 (by decide) (lv' := [(4, .int v_4459), (3, .int v_4447), (2, .int v_4436), (1, .int i_4400), (0, .ref a_0)]) rfl ?_
        refine v_iconst hC dX12_suffers_57 (v := 0) (by decide) ?_
        refine v_istore hC dX12_suffers_58 (by decide) (lv' := [(5, .int 0), (4, .int v_4459), (3, .int v_4447), (2, .int v_4436), (1, .int i_4400), (0, .ref a_0)]) rfl ?_
        have lp_5294 : ∀ (n_5295 : Nat) (f_5288 : Nat → va_E) (hW_5289 : WT T L f_5288) (hF_5290 : FR [356] f_4401 f_5288) (i_5287 : Int32) (b_5293 : (0 ≤ i_5287.toInt ∧ i_5287.toInt ≤ 256)) (hm_5297 : 256 - i_5287.toInt < (n_5295 : Int)), V z E 7 0 0 L f_5288 60 [(5, .int i_5287), (4, .int v_4459), (3, .int v_4447), (2, .int v_4436), (1, .int i_4400), (0, .ref a_0)] [] := by
          intro n_5295
          induction n_5295 with
          | zero =>
            intro f_5288 hW_5289 hF_5290 i_5287 b_5293 hm_5297
            have hf_5291 := hF_5290.at hf_4404 rfl
            have hf_5292 := hF_5290.at e_4410 rfl
            exfalso; omega
          | succ n_5295 ih_5296 =>
            intro f_5288 hW_5289 hF_5290 i_5287 b_5293 hm_5297
            have hf_5291 := hF_5290.at hf_4404 rfl
            have hf_5292 := hF_5290.at e_4410 rfl
            refine v_iload hC dX12_suffers_60 rfl ?_
            refine v_aload_n hC dX12_suffers_62 rfl ?_
            refine v_vi hC (rest := [.int i_5287]) m_1 hf_5292 rfl mi_X12_area ms_X12_area (p_X12_area hW_5289 k_0 hf_5291 o_w) mx_X12_area ml_X12_203 (by decide) rfl (cells1 := 0) (slots1 := 0) (by decide) (by decide) (Nat.le_of_ble_eq_true rfl) (Nat.le_of_ble_eq_true rfl) rfl (Nat.le_of_ble_eq_true rfl) dX12_suffers_63 (fun r_5298 L_5299 f_5300 h_5301 => ?_)
            obtain ⟨rfl, rfl, rfl⟩ := h_5301
            have ar_5304 := area_v o_w
            refine v_icmp_ge hC dX12_suffers_66 (tgt := 188) (by decide) (fun h_5305 => ?_) (fun h_5305 => ?_)
            · simp only [Int32.lt_iff_toInt_lt, Int32.le_iff_toInt_le, Int32.reduceToInt, ← Int32.toInt_inj] at h_5305
              obtain ⟨v_5306, h_5307⟩ : ∃ v9 : Int32, i_4400 + Int32.ofInt 1 = v9 := ⟨_, rfl⟩
              have h_5308 := add_v (b := 1) h_5307 (by first | omega | (simp only [Int32.lt_iff_toInt_lt, Int32.le_iff_toInt_le, Int32.reduceToInt, ← Int32.toInt_inj, true_and, and_true, or_true, true_or, false_or, or_false, false_and, and_false, not_true_eq_false, not_false_eq_true] <;> omega)) (by first | omega | (simp only [Int32.lt_iff_toInt_lt, Int32.le_iff_toInt_le, Int32.reduceToInt, ← Int32.toInt_inj, true_and, and_true, or_true, true_or, false_or, or_false, false_and, and_false, not_true_eq_false, not_false_eq_true] <;> omega))
              simp only [Int32.reduceToInt] at h_5308
              refine v_iinc hC dX12_suffers_188 (k := 4) rfl (v := v_5306) h_5307 (by decide) (lv' := [(1, .int v_5306), (5, .int i_5287), (4, .int v_4459), (3, .int v_4447), (2, .int v_4436), (0, .ref a_0)]) rfl ?_
              refine v_goto hC dX12_suffers_191 (tgt := 2) (by decide) ?_
              refine v_pick [0, 5] rfl ?_
              exact ih_4408 f_5288 hW_5289 ((hF_4403.tr hF_5290).mono rfl) v_5306 (by first | omega | (simp only [Int32.lt_iff_toInt_lt, Int32.le_iff_toInt_le, Int32.reduceToInt, ← Int32.toInt_inj, true_and, and_true, or_true, true_or, false_or, or_false, false_and, and_false, not_true_eq_false, not_false_eq_true] <;> omega)) (by first | omega | (simp only [Int32.lt_iff_toInt_lt, Int32.le_iff_toInt_le, Int32.reduceToInt, ← Int32.toInt_inj, true_and, and_true, or_true, true_or, false_or, or_false, false_and, and_false, not_true_eq_false, not_false_eq_true] <;> omega))
            · simp only [Int32.lt_iff_toInt_lt, Int32.le_iff_toInt_le, Int32.reduceToInt, ← Int32.toInt_inj] at h_5305
              have pq_5309 : 1 ≤ (g_w 0).toInt ∧ 1 ≤ (g_w 1).toInt := by omega
              refine v_iload_n hC dX12_suffers_69 rfl ?_
              have jn_5375 : ∀ (v_5376 : Int32) (b_5377 : (0 ≤ v_5376.toInt ∧ v_5376.toInt ≤ 1)), V z E 7 0 0 L f_5288 143 [(5, .int i_5287), (4, .int v_4459), (3, .int v_4447), (2, .int v_4436), (1, .int i_4400), (0, .ref a_0)] [.int v_5376] := by
                intro v_5376 b_5377
                refine v_istore hC dX12_suffers_143 (by decide) (lv' := [(6, .int v_5376), (5, .int i_5287), (4, .int v_4459), (3, .int v_4447), (2, .int v_4436), (1, .int i_4400), (0, .ref a_0)]) rfl ?_
                refine v_iload hC dX12_suffers_145 rfl ?_
                have jn_5391 : ∀ (f_5392 : Nat → va_E) (hW_5393 : WT T L f_5392) (hF_5394 : FR [356] f_5288 f_5392) , V z E 7 0 0 L f_5392 158 [(5, .int i_5287), (4, .int v_4459), (3, .int v_4447), (2, .int v_4436), (1, .int i_4400), (0, .ref a_0)] [] := by
                  intro f_5392 hW_5393 hF_5394
                  have hf_5395 := hF_5394.at hf_5291 rfl
                  have hf_5396 := hF_5394.at hf_5292 rfl
                  refine v_iload_n hC dX12_suffers_158 rfl ?_
                  refine v_iconst hC dX12_suffers_159 (v := 3) (by decide) ?_
                  refine v_icmp_ne hC dX12_suffers_160 (tgt := 182) (by decide) (fun h_5397 => ?_) (fun h_5397 => ?_)
                  · simp only [Int32.lt_iff_toInt_lt, Int32.le_iff_toInt_le, Int32.reduceToInt, ← Int32.toInt_inj] at h_5397
                    obtain ⟨v_5398, h_5399⟩ : ∃ v9 : Int32, i_5287 + Int32.ofInt 1 = v9 := ⟨_, rfl⟩
                    have h_5400 := add_v (b := 1) h_5399 (by first | omega | (simp only [Int32.lt_iff_toInt_lt, Int32.le_iff_toInt_le, Int32.reduceToInt, ← Int32.toInt_inj, true_and, and_true, or_true, true_or, false_or, or_false, false_and, and_false, not_true_eq_false, not_false_eq_true] <;> omega)) (by first | omega | (simp only [Int32.lt_iff_toInt_lt, Int32.le_iff_toInt_le, Int32.reduceToInt, ← Int32.toInt_inj, true_and, and_true, or_true, true_or, false_or, or_false, false_and, and_false, not_true_eq_false, not_false_eq_true] <;> omega))
                    simp only [Int32.reduceToInt] at h_5400
                    refine v_iinc hC dX12_suffers_182 (k := 0) rfl (v := v_5398) h_5399 (by decide) (lv' := [(5, .int v_5398), (4, .int v_4459), (3, .int v_4447), (2, .int v_4436), (1, .int i_4400), (0, .ref a_0)]) rfl ?_
                    refine v_goto hC dX12_suffers_185 (tgt := 60) (by decide) ?_
                    refine v_pick [0, 1, 2, 3, 4, 5] rfl ?_
                    exact ih_5296 f_5392 hW_5393 ((hF_5290.tr hF_5394).mono rfl) v_5398 (by first | omega | (simp only [Int32.lt_iff_toInt_lt, Int32.le_iff_toInt_le, Int32.reduceToInt, ← Int32.toInt_inj, true_and, and_true, or_true, true_or, false_or, or_false, false_and, and_false, not_true_eq_false, not_false_eq_true] <;> omega)) (by first | omega | (simp only [Int32.lt_iff_toInt_lt, Int32.le_iff_toInt_le, Int32.reduceToInt, ← Int32.toInt_inj, true_and, and_true, or_true, true_or, false_or, or_false, false_and, and_false, not_true_eq_false, not_false_eq_true] <;> omega))
                  · simp only [Int32.lt_iff_toInt_lt, Int32.le_iff_toInt_le, Int32.reduceToInt, ← Int32.toInt_inj] at h_5397
                    refine v_aload_n hC dX12_suffers_163 rfl ?_
                    refine v_get hC fl_X12_37 m_1 hf_5396 rfl dX12_suffers_164 ?_
                    refine v_iload hC dX12_suffers_167 rfl ?_
                    obtain ⟨m_5401, t_5402⟩ := id k_9
                    obtain ⟨g_5404, e_5403⟩ := hW_5393.at m_5401 t_5402
                    obtain ⟨v_5405, h_5406⟩ : ∃ v9 : Int32, g_5404 (i_5287 : Int32).toNatClampNeg = v9 := ⟨_, rfl⟩
                    refine v_iald hC m_5401 e_5403 (vp_in_iff.mpr (by first | omega | (simp only [Int32.lt_iff_toInt_lt, Int32.le_iff_toInt_le, Int32.reduceToInt, ← Int32.toInt_inj, true_and, and_true, or_true, true_or, false_or, or_false, false_and, and_false, not_true_eq_false, not_false_eq_true] <;> omega))) h_5406 dX12_suffers_169 ?_
                    refine v_iconst hC dX12_suffers_170 (v := 2) (by decide) ?_
                    refine v_icmp_ne hC dX12_suffers_171 (tgt := 182) (by decide) (fun h_5407 => ?_) (fun h_5407 => ?_)
                    · simp only [Int32.lt_iff_toInt_lt, Int32.le_iff_toInt_le, Int32.reduceToInt, ← Int32.toInt_inj] at h_5407
                      obtain ⟨v_5408, h_5409⟩ : ∃ v9 : Int32, i_5287 + Int32.ofInt 1 = v9 := ⟨_, rfl⟩
                      have h_5410 := add_v (b := 1) h_5409 (by first | omega | (simp only [Int32.lt_iff_toInt_lt, Int32.le_iff_toInt_le, Int32.reduceToInt, ← Int32.toInt_inj, true_and, and_true, or_true, true_or, false_or, or_false, false_and, and_false, not_true_eq_false, not_false_eq_true] <;> omega)) (by first | omega | (simp only [Int32.lt_iff_toInt_lt, Int32.le_iff_toInt_le, Int32.reduceToInt, ← Int32.toInt_inj, true_and, and_true, or_true, true_or, false_or, or_false, false_and, and_false, not_true_eq_false, not_false_eq_true] <;> omega))
                      simp only [Int32.reduceToInt] at h_5410
                      refine v_iinc hC dX12_suffers_182 (k := 0) rfl (v := v_5408) h_5409 (by decide) (lv' := [(5, .int v_5408), (4, .int v_4459), (3, .int v_4447), (2, .int v_4436), (1, .int i_4400), (0, .ref a_0)]) rfl ?_
                      refine v_goto hC dX12_suffers_185 (tgt := 60) (by decide) ?_
                      refine v_pick [0, 1, 2, 3, 4, 5] rfl ?_
                      exact ih_5296 f_5392 hW_5393 ((hF_5290.tr hF_5394).mono rfl) v_5408 (by first | omega | (simp only [Int32.lt_iff_toInt_lt, Int32.le_iff_toInt_le, Int32.reduceToInt, ← Int32.toInt_inj, true_and, and_true, or_true, true_or, false_or, or_false, false_and, and_false, not_true_eq_false, not_false_eq_true] <;> omega)) (by first | omega | (simp only [Int32.lt_iff_toInt_lt, Int32.le_iff_toInt_le, Int32.reduceToInt, ← Int32.toInt_inj, true_and, and_true, or_true, true_or, false_or, or_false, false_and, and_false, not_true_eq_false, not_false_eq_true] <;> omega))
                    · simp only [Int32.lt_iff_toInt_lt, Int32.le_iff_toInt_le, Int32.reduceToInt, ← Int32.toInt_inj] at h_5407
                      refine v_aload_n hC dX12_suffers_174 rfl ?_
                      refine v_get hC fl_X12_37 m_1 hf_5396 rfl dX12_suffers_175 ?_
                      refine v_iload hC dX12_suffers_178 rfl ?_
                      refine v_iconst hC dX12_suffers_180 (v := 0) (by decide) ?_
                      refine v_iast hC m_5401 e_5403 (vp_in_iff.mpr (by first | omega | (simp only [Int32.lt_iff_toInt_lt, Int32.le_iff_toInt_le, Int32.reduceToInt, ← Int32.toInt_inj, true_and, and_true, or_true, true_or, false_or, or_false, false_and, and_false, not_true_eq_false, not_false_eq_true] <;> omega))) dX12_suffers_181 (fun f_5411 hf_5412 hk_5413 => ?_)
                      have hW_5415 := hW_5393.up hf_5412 hk_5413 t_5402 ⟨_, rfl⟩
                      obtain ⟨g_5414, hf_5412⟩ : ∃ g9, f_5411 (q 15) = aI E 256 g9 := ⟨_, hf_5412⟩
                      have hf_5416 := (hk_5413 (q 1) (ne_kd hf_5395 e_5403 rfl)).trans hf_5395
                      have hf_5417 := (hk_5413 a_0 (ne_kd hf_5396 e_5403 rfl)).trans hf_5396
                      have fr_5418 := FR.w hk_5413 e_5403 (k := 356) rfl
                      obtain ⟨v_5419, h_5420⟩ : ∃ v9 : Int32, i_5287 + Int32.ofInt 1 = v9 := ⟨_, rfl⟩
                      have h_5421 := add_v (b := 1) h_5420 (by first | omega | (simp only [Int32.lt_iff_toInt_lt, Int32.le_iff_toInt_le, Int32.reduceToInt, ← Int32.toInt_inj, true_and, and_true, or_true, true_or, false_or, or_false, false_and, and_false, not_true_eq_false, not_false_eq_true] <;> omega)) (by first | omega | (simp only [Int32.lt_iff_toInt_lt, Int32.le_iff_toInt_le, Int32.reduceToInt, ← Int32.toInt_inj, true_and, and_true, or_true, true_or, false_or, or_false, false_and, and_false, not_true_eq_false, not_false_eq_true] <;> omega))
                      simp only [Int32.reduceToInt] at h_5421
                      refine v_iinc hC dX12_suffers_182 (k := 0) rfl (v := v_5419) h_5420 (by decide) (lv' := [(5, .int v_5419), (4, .int v_4459), (3, .int v_4447), (2, .int v_4436), (1, .int i_4400), (0, .ref a_0)]) rfl ?_
                      refine v_goto hC dX12_suffers_185 (tgt := 60) (by decide) ?_
                      refine v_pick [0, 1, 2, 3, 4, 5] rfl ?_
                      exact ih_5296 f_5411 hW_5415 (((hF_5290.tr hF_5394).tr fr_5418).mono rfl) v_5419 (by first | omega | (simp only [Int32.lt_iff_toInt_lt, Int32.le_iff_toInt_le, Int32.reduceToInt, ← Int32.toInt_inj, true_and, and_true, or_true, true_or, false_or, or_false, false_and, and_false, not_true_eq_false, not_false_eq_true] <;> omega)) (by first | omega | (simp only [Int32.lt_iff_toInt_lt, Int32.le_iff_toInt_le, Int32.reduceToInt, ← Int32.toInt_inj, true_and, and_true, or_true, true_or, false_or, or_false, false_and, and_false, not_true_eq_false, not_false_eq_true] <;> omega))
                refine v_if_eq hC dX12_suffers_147 (tgt := 158) (by decide) (fun h_5378 => ?_) (fun h_5378 => ?_)
                · simp only [Int32.lt_iff_toInt_lt, Int32.le_iff_toInt_le, Int32.reduceToInt, ← Int32.toInt_inj] at h_5378
                  refine v_pick [1, 2, 3, 4, 5, 6] rfl ?_
                  exact jn_5391 f_5288 hW_5289 FR.rf
                · simp only [Int32.lt_iff_toInt_lt, Int32.le_iff_toInt_le, Int32.reduceToInt, ← Int32.toInt_inj] at h_5378
                  refine v_aload_n hC dX12_suffers_150 rfl ?_
                  refine v_get hC fl_X12_37 m_1 hf_5292 rfl dX12_suffers_151 ?_
                  refine v_iload hC dX12_suffers_154 rfl ?_
                  refine v_iconst hC dX12_suffers_156 (v := 4) (by decide) ?_
                  obtain ⟨m_5422, t_5423⟩ := id k_9
                  obtain ⟨g_5425, e_5424⟩ := hW_5289.at m_5422 t_5423
                  refine v_iast hC m_5422 e_5424 (vp_in_iff.mpr (by first | omega | (simp only [Int32.lt_iff_toInt_lt, Int32.le_iff_toInt_le, Int32.reduceToInt, ← Int32.toInt_inj, true_and, and_true, or_true, true_or, false_or, or_false, false_and, and_false, not_true_eq_false, not_false_eq_true] <;> omega))) dX12_suffers_157 (fun f_5426 hf_5427 hk_5428 => ?_)
                  have hW_5430 := hW_5289.up hf_5427 hk_5428 t_5423 ⟨_, rfl⟩
                  obtain ⟨g_5429, hf_5427⟩ : ∃ g9, f_5426 (q 15) = aI E 256 g9 := ⟨_, hf_5427⟩
                  have hf_5431 := (hk_5428 (q 1) (ne_kd hf_5291 e_5424 rfl)).trans hf_5291
                  have hf_5432 := (hk_5428 a_0 (ne_kd hf_5292 e_5424 rfl)).trans hf_5292
                  have fr_5433 := FR.w hk_5428 e_5424 (k := 356) rfl
                  refine v_pick [1, 2, 3, 4, 5, 6] rfl ?_
                  exact jn_5391 f_5426 hW_5430 (fr_5433.mono rfl)
              refine v_if_ne hC dX12_suffers_70 (tgt := 92) (by decide) (fun h_5310 => ?_) (fun h_5310 => ?_)
              · simp only [Int32.lt_iff_toInt_lt, Int32.le_iff_toInt_le, Int32.reduceToInt, ← Int32.toInt_inj] at h_5310
                refine v_iload_n hC dX12_suffers_92 rfl ?_
                refine v_iconst hC dX12_suffers_93 (v := 1) (by decide) ?_
                refine v_icmp_ne hC dX12_suffers_94 (tgt := 116) (by decide) (fun h_5434 => ?_) (fun h_5434 => ?_)
                · simp only [Int32.lt_iff_toInt_lt, Int32.le_iff_toInt_le, Int32.reduceToInt, ← Int32.toInt_inj] at h_5434
                  refine v_iload_n hC dX12_suffers_116 rfl ?_
                  refine v_iconst hC dX12_suffers_117 (v := 2) (by decide) ?_
                  refine v_icmp_ne hC dX12_suffers_118 (tgt := 142) (by decide) (fun h_5435 => ?_) (fun h_5435 => ?_)
                  · simp only [Int32.lt_iff_toInt_lt, Int32.le_iff_toInt_le, Int32.reduceToInt, ← Int32.toInt_inj] at h_5435
                    refine v_iconst hC dX12_suffers_142 (v := 0) (by decide) ?_
                    refine v_pick [0, 1, 2, 3, 4, 5] rfl ?_
                    exact jn_5375 0 (by decide)
                  · simp only [Int32.lt_iff_toInt_lt, Int32.le_iff_toInt_le, Int32.reduceToInt, ← Int32.toInt_inj] at h_5435
                    refine v_iload hC dX12_suffers_121 rfl ?_
                    refine v_iload hC dX12_suffers_123 rfl ?_
                    refine v_icmp_lt hC dX12_suffers_125 (tgt := 142) (by decide) (fun h_5436 => ?_) (fun h_5436 => ?_)
                    · simp only [Int32.lt_iff_toInt_lt, Int32.le_iff_toInt_le, Int32.reduceToInt, ← Int32.toInt_inj] at h_5436
                      refine v_iconst hC dX12_suffers_142 (v := 0) (by decide) ?_
                      refine v_pick [0, 1, 2, 3, 4, 5] rfl ?_
                      exact jn_5375 0 (by decide)
                    · simp only [Int32.lt_iff_toInt_lt, Int32.le_iff_toInt_le, Int32.reduceToInt, ← Int32.toInt_inj] at h_5436
                      refine v_iload hC dX12_suffers_128 rfl ?_
                      refine v_iload hC dX12_suffers_130 rfl ?_
                      obtain ⟨v_5437, h_5438⟩ : ∃ v9 : Int32, i_5287 - v_4459 = v9 := ⟨_, rfl⟩
                      refine v_isub hC dX12_suffers_132 h_5438 ?_
                      refine v_iload_n hC dX12_suffers_133 rfl ?_
                      obtain ⟨v_5440, h_5441⟩ : ∃ v9 : Int32, v_5437 - v_5437 / v_4447 * v_4447 = v9 := ⟨_, rfl⟩
                      refine v_irem hC dX12_suffers_134 (by first | omega | (simp only [Int32.lt_iff_toInt_lt, Int32.le_iff_toInt_le, Int32.reduceToInt, ← Int32.toInt_inj, true_and, and_true, or_true, true_or, false_or, or_false, false_and, and_false, not_true_eq_false, not_false_eq_true] <;> omega)) h_5441 ?_
                      refine v_if_ne hC dX12_suffers_135 (tgt := 142) (by decide) (fun h_5443 => ?_) (fun h_5443 => ?_)
                      · simp only [Int32.lt_iff_toInt_lt, Int32.le_iff_toInt_le, Int32.reduceToInt, ← Int32.toInt_inj] at h_5443
                        refine v_iconst hC dX12_suffers_142 (v := 0) (by decide) ?_
                        refine v_pick [0, 1, 2, 3, 4, 5] rfl ?_
                        exact jn_5375 0 (by decide)
                      · simp only [Int32.lt_iff_toInt_lt, Int32.le_iff_toInt_le, Int32.reduceToInt, ← Int32.toInt_inj] at h_5443
                        refine v_iconst hC dX12_suffers_138 (v := 1) (by decide) ?_
                        refine v_goto hC dX12_suffers_139 (tgt := 143) (by decide) ?_
                        refine v_pick [0, 1, 2, 3, 4, 5] rfl ?_
                        exact jn_5375 1 (by decide)
                · simp only [Int32.lt_iff_toInt_lt, Int32.le_iff_toInt_le, Int32.reduceToInt, ← Int32.toInt_inj] at h_5434
                  refine v_iload hC dX12_suffers_97 rfl ?_
                  refine v_aload_n hC dX12_suffers_99 rfl ?_
                  refine v_vi hC (rest := [.int i_5287]) m_1 hf_5292 rfl mi_X12_wide ms_X12_wide (p_X12_wide hW_5289 k_0 hf_5291 o_w) mx_X12_wide ml_X12_87 (by decide) rfl (cells1 := 0) (slots1 := 0) (by decide) (by decide) (Nat.le_of_ble_eq_true rfl) (Nat.le_of_ble_eq_true rfl) rfl (Nat.le_of_ble_eq_true rfl) dX12_suffers_100 (fun r_5444 L_5445 f_5446 h_5447 => ?_)
                  obtain ⟨rfl, rfl, rfl⟩ := h_5447
                  obtain ⟨v_5450, h_5451⟩ : ∃ v9 : Int32, i_5287 - i_5287 / (g_w 1) * (g_w 1) = v9 := ⟨_, rfl⟩
                  refine v_irem hC dX12_suffers_103 (by first | omega | (simp only [Int32.lt_iff_toInt_lt, Int32.le_iff_toInt_le, Int32.reduceToInt, ← Int32.toInt_inj, true_and, and_true, or_true, true_or, false_or, or_false, false_and, and_false, not_true_eq_false, not_false_eq_true] <;> omega)) h_5451 ?_
                  have h_5452 := rem_v h_5451 (by first | omega | (simp only [Int32.lt_iff_toInt_lt, Int32.le_iff_toInt_le, Int32.reduceToInt, ← Int32.toInt_inj, true_and, and_true, or_true, true_or, false_or, or_false, false_and, and_false, not_true_eq_false, not_false_eq_true] <;> omega)) (by first | omega | (simp only [Int32.lt_iff_toInt_lt, Int32.le_iff_toInt_le, Int32.reduceToInt, ← Int32.toInt_inj, true_and, and_true, or_true, true_or, false_or, or_false, false_and, and_false, not_true_eq_false, not_false_eq_true] <;> omega))
                  obtain ⟨v_5453, h_5454⟩ : ∃ v9 : Int64, v_5450.toInt64 = v9 := ⟨_, rfl⟩
                  refine v_i2l hC dX12_suffers_104 h_5454 ?_
                  have h_5455 : v_5453.toInt = v_5450.toInt := by rw [← h_5454]; exact Int32.toInt_toInt64 _
                  refine v_iload_n hC dX12_suffers_105 rfl ?_
                  obtain ⟨v_5456, h_5457⟩ : ∃ v9 : Int64, v_4447.toInt64 = v9 := ⟨_, rfl⟩
                  refine v_i2l hC dX12_suffers_106 h_5457 ?_
                  have h_5458 : v_5456.toInt = v_4447.toInt := by rw [← h_5457]; exact Int32.toInt_toInt64 _
                  refine v_iload hC dX12_suffers_107 rfl ?_
                  obtain ⟨v_5459, h_5460⟩ : ∃ v9 : Int64, v_4459.toInt64 = v9 := ⟨_, rfl⟩
                  refine v_i2l hC dX12_suffers_109 h_5460 ?_
                  have h_5461 : v_5459.toInt = v_4459.toInt := by rw [← h_5460]; exact Int32.toInt_toInt64 _
                  refine v_si hC (rest := []) mt_X12_in (p_X12_in hW_5289) mx_X12_in ml_X12_79 (by decide) rfl (cells1 := 0) (slots1 := 0) (by decide) (by decide) (Nat.le_of_ble_eq_true rfl) (Nat.le_of_ble_eq_true rfl) rfl (Nat.le_of_ble_eq_true rfl) dX12_suffers_110 (fun r_5462 L_5463 f_5464 h_5465 => ?_)
                  obtain ⟨rfl, rfl, b_5466, x_5467⟩ := h_5465
                  try simp only [Int32.reduceToInt, Int64.reduceToInt] at x_5467
                  refine v_if_ne hC dX12_suffers_113 (tgt := 138) (by decide) (fun h_5470 => ?_) (fun h_5470 => ?_)
                  · simp only [Int32.lt_iff_toInt_lt, Int32.le_iff_toInt_le, Int32.reduceToInt, ← Int32.toInt_inj] at h_5470
                    refine v_iconst hC dX12_suffers_138 (v := 1) (by decide) ?_
                    refine v_goto hC dX12_suffers_139 (tgt := 143) (by decide) ?_
                    refine v_pick [0, 1, 2, 3, 4, 5] rfl ?_
                    exact jn_5375 1 (by decide)
                  · simp only [Int32.lt_iff_toInt_lt, Int32.le_iff_toInt_le, Int32.reduceToInt, ← Int32.toInt_inj] at h_5470
                    refine v_iload_n hC dX12_suffers_116 rfl ?_
                    refine v_iconst hC dX12_suffers_117 (v := 2) (by decide) ?_
                    refine v_icmp_ne_t hC dX12_suffers_118 (tgt := 142) (by decide) (by first | omega | (simp only [Int32.lt_iff_toInt_lt, Int32.le_iff_toInt_le, Int32.reduceToInt, ← Int32.toInt_inj, true_and, and_true, or_true, true_or, false_or, or_false, false_and, and_false, not_true_eq_false, not_false_eq_true] <;> omega)) ?_
                    refine v_iconst hC dX12_suffers_142 (v := 0) (by decide) ?_
                    refine v_pick [0, 1, 2, 3, 4, 5] rfl ?_
                    exact jn_5375 0 (by decide)
              · simp only [Int32.lt_iff_toInt_lt, Int32.le_iff_toInt_le, Int32.reduceToInt, ← Int32.toInt_inj] at h_5310
                refine v_iload hC dX12_suffers_73 rfl ?_
                refine v_aload_n hC dX12_suffers_75 rfl ?_
                refine v_vi hC (rest := [.int i_5287]) m_1 hf_5292 rfl mi_X12_wide ms_X12_wide (p_X12_wide hW_5289 k_0 hf_5291 o_w) mx_X12_wide ml_X12_87 (by decide) rfl (cells1 := 0) (slots1 := 0) (by decide) (by decide) (Nat.le_of_ble_eq_true rfl) (Nat.le_of_ble_eq_true rfl) rfl (Nat.le_of_ble_eq_true rfl) dX12_suffers_76 (fun r_5471 L_5472 f_5473 h_5474 => ?_)
                obtain ⟨rfl, rfl, rfl⟩ := h_5474
                obtain ⟨v_5477, h_5478⟩ : ∃ v9 : Int32, i_5287 / (g_w 1) = v9 := ⟨_, rfl⟩
                refine v_idiv hC dX12_suffers_79 (by first | omega | (simp only [Int32.lt_iff_toInt_lt, Int32.le_iff_toInt_le, Int32.reduceToInt, ← Int32.toInt_inj, true_and, and_true, or_true, true_or, false_or, or_false, false_and, and_false, not_true_eq_false, not_false_eq_true] <;> omega)) h_5478 ?_
                have h_5479 := div_v h_5478 (by first | omega | (simp only [Int32.lt_iff_toInt_lt, Int32.le_iff_toInt_le, Int32.reduceToInt, ← Int32.toInt_inj, true_and, and_true, or_true, true_or, false_or, or_false, false_and, and_false, not_true_eq_false, not_false_eq_true] <;> omega)) (by first | omega | (simp only [Int32.lt_iff_toInt_lt, Int32.le_iff_toInt_le, Int32.reduceToInt, ← Int32.toInt_inj, true_and, and_true, or_true, true_or, false_or, or_false, false_and, and_false, not_true_eq_false, not_false_eq_true] <;> omega))
                obtain ⟨v_5480, h_5481⟩ : ∃ v9 : Int64, v_5477.toInt64 = v9 := ⟨_, rfl⟩
                refine v_i2l hC dX12_suffers_80 h_5481 ?_
                have h_5482 : v_5480.toInt = v_5477.toInt := by rw [← h_5481]; exact Int32.toInt_toInt64 _
                refine v_iload_n hC dX12_suffers_81 rfl ?_
                obtain ⟨v_5483, h_5484⟩ : ∃ v9 : Int64, v_4447.toInt64 = v9 := ⟨_, rfl⟩
                refine v_i2l hC dX12_suffers_82 h_5484 ?_
                have h_5485 : v_5483.toInt = v_4447.toInt := by rw [← h_5484]; exact Int32.toInt_toInt64 _
                refine v_iload hC dX12_suffers_83 rfl ?_
                obtain ⟨v_5486, h_5487⟩ : ∃ v9 : Int64, v_4459.toInt64 = v9 := ⟨_, rfl⟩
                refine v_i2l hC dX12_suffers_85 h_5487 ?_
                have h_5488 : v_5486.toInt = v_4459.toInt := by rw [← h_5487]; exact Int32.toInt_toInt64 _
                refine v_si hC (rest := []) mt_X12_in (p_X12_in hW_5289) mx_X12_in ml_X12_79 (by decide) rfl (cells1 := 0) (slots1 := 0) (by decide) (by decide) (Nat.le_of_ble_eq_true rfl) (Nat.le_of_ble_eq_true rfl) rfl (Nat.le_of_ble_eq_true rfl) dX12_suffers_86 (fun r_5489 L_5490 f_5491 h_5492 => ?_)
                obtain ⟨rfl, rfl, b_5493, x_5494⟩ := h_5492
                try simp only [Int32.reduceToInt, Int64.reduceToInt] at x_5494
                refine v_if_ne hC dX12_suffers_89 (tgt := 138) (by decide) (fun h_5497 => ?_) (fun h_5497 => ?_)
                · simp only [Int32.lt_iff_toInt_lt, Int32.le_iff_toInt_le, Int32.reduceToInt, ← Int32.toInt_inj] at h_5497
                  refine v_iconst hC dX12_suffers_138 (v := 1) (by decide) ?_
                  refine v_goto hC dX12_suffers_139 (tgt := 143) (by decide) ?_
                  refine v_pick [0, 1, 2, 3, 4, 5] rfl ?_
                  exact jn_5375 1 (by decide)
                · simp only [Int32.lt_iff_toInt_lt, Int32.le_iff_toInt_le, Int32.reduceToInt, ← Int32.toInt_inj] at h_5497
                  refine v_iload_n hC dX12_suffers_92 rfl ?_
                  refine v_iconst hC dX12_suffers_93 (v := 1) (by decide) ?_
                  refine v_icmp_ne_t hC dX12_suffers_94 (tgt := 116) (by decide) (by first | omega | (simp only [Int32.lt_iff_toInt_lt, Int32.le_iff_toInt_le, Int32.reduceToInt, ← Int32.toInt_inj, true_and, and_true, or_true, true_or, false_or, or_false, false_and, and_false, not_true_eq_false, not_false_eq_true] <;> omega)) ?_
                  refine v_iload_n hC dX12_suffers_116 rfl ?_
                  refine v_iconst hC dX12_suffers_117 (v := 2) (by decide) ?_
                  refine v_icmp_ne_t hC dX12_suffers_118 (tgt := 142) (by decide) (by first | omega | (simp only [Int32.lt_iff_toInt_lt, Int32.le_iff_toInt_le, Int32.reduceToInt, ← Int32.toInt_inj, true_and, and_true, or_true, true_or, false_or, or_false, false_and, and_false, not_true_eq_false, not_false_eq_true] <;> omega)) ?_
                  refine v_iconst hC dX12_suffers_142 (v := 0) (by decide) ?_
                  refine v_pick [0, 1, 2, 3, 4, 5] rfl ?_
                  exact jn_5375 0 (by decide)
        refine v_pick [0, 1, 2, 3, 4, 5] rfl ?_
        exact lp_5294 258 f_4401 hW_4402 FR.rf 0 (by decide) (by decide)
  refine v_pick [0, 1] rfl ?_
  exact lp_4406 14 f hW FR.rf 0 (by decide) (by decide)
set_option maxRecDepth 100000 in
set_option maxHeartbeats 8000000 in
theorem p_X12_isReadAgain {l : Launch} {E : Ez} {L : List Nat} {f : Nat → va_E} {T : Nat → va_E → Prop} {a_0 : Nat} {a_1 : Int32} {q : Nat → Nat} {g_w : Nat → Int32} (hW : WT T L f) (k_0 : isM T L E a_0 q) (g_1 : (0 ≤ a_1.toInt ∧ a_1.toInt ≤ 5)) (e_w : f (q 1) = aI E 2076 g_w) (o_w : WOK g_w) (htold : (wv g_w a_1 0).toInt = 1) : CI l yX12_isReadAgain cX12_isReadAgain 4 .boolean 5 0 0 E [.ref a_0, .int a_1] L f (fun r L1 f1 => L = L1 ∧ WT T L f1 ∧ FR [12, 200, 356] f f1 ∧ (0 ≤ r.toInt ∧ r.toInt ≤ 1) ∧ fld (f1 a_0) 20 = fld (f a_0) 20) := by
  refine ci_of (by decide) (Nat.le_of_ble_eq_true rfl) (fun z hz hnm hC hR => ?_)
  have hC : Cx z E cX12_isReadAgain RX12 4 5 0 0 := hC
  subst hz
  show V z E 4 0 0 L f 0 [(0, .ref a_0), (1, .int a_1)] []
  obtain ⟨m_1, t_2, nq_21, k_3, k_4, k_5, k_6, k_7, k_8, k_9, k_10, k_11, k_12, k_13, k_14, k_15, k_16, k_17, k_18, k_19, k_20⟩ := id k_0
  obtain ⟨m_22, t_23⟩ := id k_3
  have b_24 := o_w.r0
  have b_25 := o_w.w0
  obtain ⟨v_27, v_28, v_30, v_32, v_34, v_36, v_38, v_39, v_40, v_41, v_43, e_26, b_29, b_31, b_33, b_35, b_37, b_42, b_44⟩ := hW.at m_1 t_2
  have mz_45 : fld (f a_0) 20 = v_43.toInt := by rw [e_26]; rfl
  refine v_aload_n hC dX12_isReadAgain_0 rfl ?_
  refine v_iload_n hC dX12_isReadAgain_1 rfl ?_
  refine v_vi hC (rest := []) m_1 e_26 rfl mi_X12_reads ms_X12_reads (p_X12_reads hW k_0 (by first | omega | (simp only [Int32.lt_iff_toInt_lt, Int32.le_iff_toInt_le, Int32.reduceToInt, ← Int32.toInt_inj, true_and, and_true, or_true, true_or, false_or, or_false, false_and, and_false, not_true_eq_false, not_false_eq_true] <;> omega)) e_w o_w (by first | omega | (simp only [Int32.lt_iff_toInt_lt, Int32.le_iff_toInt_le, Int32.reduceToInt, ← Int32.toInt_inj, true_and, and_true, or_true, true_or, false_or, or_false, false_and, and_false, not_true_eq_false, not_false_eq_true] <;> omega))) mx_X12_reads ml_X12_373 (by decide) rfl (cells1 := 0) (slots1 := 0) (by decide) (by decide) (Nat.le_of_ble_eq_true rfl) (Nat.le_of_ble_eq_true rfl) rfl (Nat.le_of_ble_eq_true rfl) dX12_isReadAgain_2 (fun r_46 L_47 f_48 h_49 => ?_)
  obtain ⟨rfl, hW_52, hF_53, b_50, x_51⟩ := h_49
  have fe_54 : fld (f a_0) 20 = (v_43 : Int32).toInt := by rw [e_26]; rfl
  have hf_55 := hF_53.at e_w rfl
  obtain ⟨v_57, v_58, v_60, v_62, v_64, v_66, v_68, v_69, v_70, v_71, v_73, e_56, b_59, b_61, b_63, b_65, b_67, b_72, b_74⟩ := hW_52.at m_1 t_2
  have fe_75 : fld (f_48 a_0) 20 = (v_73 : Int32).toInt := by rw [e_56]; rfl
  rw [fe_75, fe_54] at x_51
  clear fe_54 fe_75
  try simp only [Int32.reduceToInt, Int64.reduceToInt] at x_51
  refine v_aload_n hC dX12_isReadAgain_5 rfl ?_
  refine v_get hC fl_X12_49 m_1 e_56 rfl dX12_isReadAgain_6 ?_
  have jn_77 : ∀ (v_78 : Int32) (b_79 : (0 ≤ v_78.toInt ∧ v_78.toInt ≤ 1)), V z E 4 0 0 L f_48 17 [(0, .ref a_0)] [.int v_78] := by
    intro v_78 b_79
    refine v_istore_n hC dX12_isReadAgain_17 (by decide) (lv' := [(2, .int v_78), (0, .ref a_0)]) rfl ?_
    refine v_iconst hC dX12_isReadAgain_18 (v := 0) (by decide) ?_
    refine v_istore_n hC dX12_isReadAgain_19 (by decide) (lv' := [(3, .int 0), (2, .int v_78), (0, .ref a_0)]) rfl ?_
    have lp_168 : ∀ (n_169 : Nat) (i_164 : Int32) (b_166 : (0 ≤ i_164.toInt ∧ i_164.toInt ≤ 100)) (i_165 : Int32) (b_167 : (0 ≤ i_165.toInt ∧ i_165.toInt ≤ 1)) (hm_171 : 100 - i_164.toInt < (n_169 : Int)), V z E 4 0 0 L f_48 20 [(3, .int i_164), (2, .int i_165), (0, .ref a_0)] [] := by
      intro n_169
      induction n_169 with
      | zero =>
        intro i_164 b_166 i_165 b_167 hm_171
        exfalso; omega
      | succ n_169 ih_170 =>
        intro i_164 b_166 i_165 b_167 hm_171
        refine v_iload_n hC dX12_isReadAgain_20 rfl ?_
        refine v_aload_n hC dX12_isReadAgain_21 rfl ?_
        refine v_get hC fl_X12_49 m_1 e_56 rfl dX12_isReadAgain_22 ?_
        refine v_icmp_ge hC dX12_isReadAgain_25 (tgt := 59) (by decide) (fun h_172 => ?_) (fun h_172 => ?_)
        · simp only [Int32.lt_iff_toInt_lt, Int32.le_iff_toInt_le, Int32.reduceToInt, ← Int32.toInt_inj] at h_172
          refine v_iload_n hC dX12_isReadAgain_59 rfl ?_
          have fe_173 : fld (f_48 a_0) 20 = (v_73 : Int32).toInt := by rw [e_56]; rfl
          exact hR _ _ _ _ _ _ _ dX12_isReadAgain_60 (nar01 (by first | omega | (simp only [Int32.lt_iff_toInt_lt, Int32.le_iff_toInt_le, Int32.reduceToInt, ← Int32.toInt_inj, true_and, and_true, or_true, true_or, false_or, or_false, false_and, and_false, not_true_eq_false, not_false_eq_true] <;> omega))) (Nat.le_of_ble_eq_true rfl) (Nat.le_of_ble_eq_true rfl) ⟨rfl, hW_52, (hF_53.mono rfl), (by first | omega | (simp only [Int32.lt_iff_toInt_lt, Int32.le_iff_toInt_le, Int32.reduceToInt, ← Int32.toInt_inj, true_and, and_true, or_true, true_or, false_or, or_false, false_and, and_false, not_true_eq_false, not_false_eq_true] <;> omega)), (by simp only [fe_173, mz_45, true_and, and_true, or_true, true_or, false_or, or_false, false_and, and_false, not_true_eq_false, not_false_eq_true] <;> first | omega | (simp only [Int32.lt_iff_toInt_lt, Int32.le_iff_toInt_le, Int32.reduceToInt, ← Int32.toInt_inj, true_and, and_true, or_true, true_or, false_or, or_false, false_and, and_false, not_true_eq_false, not_false_eq_true] <;> omega))⟩
        · simp only [Int32.lt_iff_toInt_lt, Int32.le_iff_toInt_le, Int32.reduceToInt, ← Int32.toInt_inj] at h_172
          refine v_iload_n hC dX12_isReadAgain_28 rfl ?_
          refine v_if_eq hC dX12_isReadAgain_29 (tgt := 59) (by decide) (fun h_174 => ?_) (fun h_174 => ?_)
          · simp only [Int32.lt_iff_toInt_lt, Int32.le_iff_toInt_le, Int32.reduceToInt, ← Int32.toInt_inj] at h_174
            refine v_iload_n hC dX12_isReadAgain_59 rfl ?_
            have fe_175 : fld (f_48 a_0) 20 = (v_73 : Int32).toInt := by rw [e_56]; rfl
            exact hR _ _ _ _ _ _ _ dX12_isReadAgain_60 (nar01 (by first | omega | (simp only [Int32.lt_iff_toInt_lt, Int32.le_iff_toInt_le, Int32.reduceToInt, ← Int32.toInt_inj, true_and, and_true, or_true, true_or, false_or, or_false, false_and, and_false, not_true_eq_false, not_false_eq_true] <;> omega))) (Nat.le_of_ble_eq_true rfl) (Nat.le_of_ble_eq_true rfl) ⟨rfl, hW_52, (hF_53.mono rfl), (by first | omega | (simp only [Int32.lt_iff_toInt_lt, Int32.le_iff_toInt_le, Int32.reduceToInt, ← Int32.toInt_inj, true_and, and_true, or_true, true_or, false_or, or_false, false_and, and_false, not_true_eq_false, not_false_eq_true] <;> omega)), (by simp only [fe_175, mz_45, true_and, and_true, or_true, true_or, false_or, or_false, false_and, and_false, not_true_eq_false, not_false_eq_true] <;> first | omega | (simp only [Int32.lt_iff_toInt_lt, Int32.le_iff_toInt_le, Int32.reduceToInt, ← Int32.toInt_inj, true_and, and_true, or_true, true_or, false_or, or_false, false_and, and_false, not_true_eq_false, not_false_eq_true] <;> omega))⟩
          · simp only [Int32.lt_iff_toInt_lt, Int32.le_iff_toInt_le, Int32.reduceToInt, ← Int32.toInt_inj] at h_174
            refine v_aload_n hC dX12_isReadAgain_32 rfl ?_
            refine v_get hC fl_X12_52 m_1 e_56 rfl dX12_isReadAgain_33 ?_
            refine v_iload_n hC dX12_isReadAgain_36 rfl ?_
            obtain ⟨m_176, t_177⟩ := id k_13
            obtain ⟨g_179, e_178⟩ := hW_52.at m_176 t_177
            obtain ⟨v_180, h_181⟩ : ∃ v9 : Int32, g_179 (i_164 : Int32).toNatClampNeg = v9 := ⟨_, rfl⟩
            refine v_iald hC m_176 e_178 (vp_in_iff.mpr (by first | omega | (simp only [Int32.lt_iff_toInt_lt, Int32.le_iff_toInt_le, Int32.reduceToInt, ← Int32.toInt_inj, true_and, and_true, or_true, true_or, false_or, or_false, false_and, and_false, not_true_eq_false, not_false_eq_true] <;> omega))) h_181 dX12_isReadAgain_37 ?_
            refine v_aload_n hC dX12_isReadAgain_38 rfl ?_
            refine v_get hC fl_X12_46 m_1 e_56 rfl dX12_isReadAgain_39 ?_
            refine v_iload_n hC dX12_isReadAgain_42 rfl ?_
            obtain ⟨m_182, t_183⟩ := id k_12
            obtain ⟨g_185, e_184⟩ := hW_52.at m_182 t_183
            obtain ⟨v_186, h_187⟩ : ∃ v9 : Int32, g_185 (i_164 : Int32).toNatClampNeg = v9 := ⟨_, rfl⟩
            refine v_iald hC m_182 e_184 (vp_in_iff.mpr (by first | omega | (simp only [Int32.lt_iff_toInt_lt, Int32.le_iff_toInt_le, Int32.reduceToInt, ← Int32.toInt_inj, true_and, and_true, or_true, true_or, false_or, or_false, false_and, and_false, not_true_eq_false, not_false_eq_true] <;> omega))) h_187 dX12_isReadAgain_43 ?_
            refine v_icmp_ne hC dX12_isReadAgain_44 (tgt := 51) (by decide) (fun h_188 => ?_) (fun h_188 => ?_)
            · simp only [Int32.lt_iff_toInt_lt, Int32.le_iff_toInt_le, Int32.reduceToInt, ← Int32.toInt_inj] at h_188
              refine v_iconst hC dX12_isReadAgain_51 (v := 0) (by decide) ?_
              refine v_istore_n hC dX12_isReadAgain_52 (by decide) (lv' := [(2, .int 0), (3, .int i_164), (0, .ref a_0)]) rfl ?_
              obtain ⟨v_189, h_190⟩ : ∃ v9 : Int32, i_164 + Int32.ofInt 1 = v9 := ⟨_, rfl⟩
              have h_191 := add_v (b := 1) h_190 (by first | omega | (simp only [Int32.lt_iff_toInt_lt, Int32.le_iff_toInt_le, Int32.reduceToInt, ← Int32.toInt_inj, true_and, and_true, or_true, true_or, false_or, or_false, false_and, and_false, not_true_eq_false, not_false_eq_true] <;> omega)) (by first | omega | (simp only [Int32.lt_iff_toInt_lt, Int32.le_iff_toInt_le, Int32.reduceToInt, ← Int32.toInt_inj, true_and, and_true, or_true, true_or, false_or, or_false, false_and, and_false, not_true_eq_false, not_false_eq_true] <;> omega))
              simp only [Int32.reduceToInt] at h_191
              refine v_iinc hC dX12_isReadAgain_53 (k := 1) rfl (v := v_189) h_190 (by decide) (lv' := [(3, .int v_189), (2, .int 0), (0, .ref a_0)]) rfl ?_
              refine v_goto hC dX12_isReadAgain_56 (tgt := 20) (by decide) ?_
              refine v_pick [0, 1, 2] rfl ?_
              exact ih_170 v_189 (by first | omega | (simp only [Int32.lt_iff_toInt_lt, Int32.le_iff_toInt_le, Int32.reduceToInt, ← Int32.toInt_inj, true_and, and_true, or_true, true_or, false_or, or_false, false_and, and_false, not_true_eq_false, not_false_eq_true] <;> omega)) 0 (by decide) (by first | omega | (simp only [Int32.lt_iff_toInt_lt, Int32.le_iff_toInt_le, Int32.reduceToInt, ← Int32.toInt_inj, true_and, and_true, or_true, true_or, false_or, or_false, false_and, and_false, not_true_eq_false, not_false_eq_true] <;> omega))
            · simp only [Int32.lt_iff_toInt_lt, Int32.le_iff_toInt_le, Int32.reduceToInt, ← Int32.toInt_inj] at h_188
              refine v_iconst hC dX12_isReadAgain_47 (v := 1) (by decide) ?_
              refine v_goto hC dX12_isReadAgain_48 (tgt := 52) (by decide) ?_
              refine v_istore_n hC dX12_isReadAgain_52 (by decide) (lv' := [(2, .int 1), (3, .int i_164), (0, .ref a_0)]) rfl ?_
              obtain ⟨v_192, h_193⟩ : ∃ v9 : Int32, i_164 + Int32.ofInt 1 = v9 := ⟨_, rfl⟩
              have h_194 := add_v (b := 1) h_193 (by first | omega | (simp only [Int32.lt_iff_toInt_lt, Int32.le_iff_toInt_le, Int32.reduceToInt, ← Int32.toInt_inj, true_and, and_true, or_true, true_or, false_or, or_false, false_and, and_false, not_true_eq_false, not_false_eq_true] <;> omega)) (by first | omega | (simp only [Int32.lt_iff_toInt_lt, Int32.le_iff_toInt_le, Int32.reduceToInt, ← Int32.toInt_inj, true_and, and_true, or_true, true_or, false_or, or_false, false_and, and_false, not_true_eq_false, not_false_eq_true] <;> omega))
              simp only [Int32.reduceToInt] at h_194
              refine v_iinc hC dX12_isReadAgain_53 (k := 1) rfl (v := v_192) h_193 (by decide) (lv' := [(3, .int v_192), (2, .int 1), (0, .ref a_0)]) rfl ?_
              refine v_goto hC dX12_isReadAgain_56 (tgt := 20) (by decide) ?_
              refine v_pick [0, 1, 2] rfl ?_
              exact ih_170 v_192 (by first | omega | (simp only [Int32.lt_iff_toInt_lt, Int32.le_iff_toInt_le, Int32.reduceToInt, ← Int32.toInt_inj, true_and, and_true, or_true, true_or, false_or, or_false, false_and, and_false, not_true_eq_false, not_false_eq_true] <;> omega)) 1 (by decide) (by first | omega | (simp only [Int32.lt_iff_toInt_lt, Int32.le_iff_toInt_le, Int32.reduceToInt, ← Int32.toInt_inj, true_and, and_true, or_true, true_or, false_or, or_false, false_and, and_false, not_true_eq_false, not_false_eq_true] <;> omega))
    refine v_pick [0, 1, 2] rfl ?_
    exact lp_168 102 0 (by decide) v_78 (by first | omega | (simp only [Int32.lt_iff_toInt_lt, Int32.le_iff_toInt_le, Int32.reduceToInt, ← Int32.toInt_inj, true_and, and_true, or_true, true_or, false_or, or_false, false_and, and_false, not_true_eq_false, not_false_eq_true] <;> omega)) (by decide)
  refine v_icmp_ne hC dX12_isReadAgain_9 (tgt := 16) (by decide) (fun h_76 => ?_) (fun h_76 => ?_)
  · simp only [Int32.lt_iff_toInt_lt, Int32.le_iff_toInt_le, Int32.reduceToInt, ← Int32.toInt_inj] at h_76
    refine v_iconst hC dX12_isReadAgain_16 (v := 0) (by decide) ?_
    refine v_pick [0] rfl ?_
    exact jn_77 0 (by decide)
  · simp only [Int32.lt_iff_toInt_lt, Int32.le_iff_toInt_le, Int32.reduceToInt, ← Int32.toInt_inj] at h_76
    refine v_iconst hC dX12_isReadAgain_12 (v := 1) (by decide) ?_
    refine v_goto hC dX12_isReadAgain_13 (tgt := 17) (by decide) ?_
    refine v_pick [0] rfl ?_
    exact jn_77 1 (by decide)
set_option maxRecDepth 100000 in
set_option maxHeartbeats 8000000 in
theorem p_X12_best {l : Launch} {E : Ez} {L : List Nat} {f : Nat → va_E} {T : Nat → va_E → Prop} {a_0 : Nat} {a_1 : Int32} {q : Nat → Nat} {g_w : Nat → Int32} (hW : WT T L f) (k_0 : isM T L E a_0 q) (e_w : f (q 1) = aI E 2076 g_w) (o_w : WOK g_w) : CI l yX12_best cX12_best 7 .int 6 0 0 E [.ref a_0, .int a_1] L f (fun r L1 f1 => L = L1 ∧ WT T L f1 ∧ FR [12, 108, 200, 356] f f1 ∧ ((-6) ≤ r.toInt ∧ r.toInt ≤ 5) ∧ (¬ r.toInt = 0 ∨ (0 ≤ a_1.toInt ∧ a_1.toInt ≤ 3))) := by
  refine ci_of (by decide) (Nat.le_of_ble_eq_true rfl) (fun z hz hnm hC hR => ?_)
  have hC : Cx z E cX12_best RX12 7 6 0 0 := hC
  subst hz
  show V z E 7 0 0 L f 0 [(0, .ref a_0), (1, .int a_1)] []
  obtain ⟨m_1, t_2, nq_21, k_3, k_4, k_5, k_6, k_7, k_8, k_9, k_10, k_11, k_12, k_13, k_14, k_15, k_16, k_17, k_18, k_19, k_20⟩ := id k_0
  obtain ⟨m_22, t_23⟩ := id k_3
  have b_24 := o_w.r0
  have b_25 := o_w.w0
  refine v_aload_n hC dX12_best_0 rfl ?_
  refine v_iload_n hC dX12_best_1 rfl ?_
  obtain ⟨v_27, v_28, v_30, v_32, v_34, v_36, v_38, v_39, v_40, v_41, v_43, e_26, b_29, b_31, b_33, b_35, b_37, b_42, b_44⟩ := hW.at m_1 t_2
  refine v_vi hC (rest := []) m_1 e_26 rfl mi_X12_asksCloth ms_X12_asksCloth (p_X12_asksCloth hW k_0 e_w o_w) mx_X12_asksCloth ml_X12_376 (by decide) rfl (cells1 := 0) (slots1 := 0) (by decide) (by decide) (Nat.le_of_ble_eq_true rfl) (Nat.le_of_ble_eq_true rfl) rfl (Nat.le_of_ble_eq_true rfl) dX12_best_2 (fun r_45 L_46 f_47 h_48 => ?_)
  obtain ⟨rfl, rfl, b_49, h_50⟩ := h_48
  refine v_istore_n hC dX12_best_5 (by decide) (lv' := [(2, .int r_45), (0, .ref a_0), (1, .int a_1)]) rfl ?_
  refine v_iload_n hC dX12_best_6 rfl ?_
  refine v_if_ge hC dX12_best_7 (tgt := 12) (by decide) (fun h_53 => ?_) (fun h_53 => ?_)
  · simp only [Int32.lt_iff_toInt_lt, Int32.le_iff_toInt_le, Int32.reduceToInt, ← Int32.toInt_inj] at h_53
    refine v_aload_n hC dX12_best_12 rfl ?_
    refine v_vi hC (rest := []) m_1 e_26 rfl mi_X12_isSaid ms_X12_isSaid (p_X12_isSaid hW k_0 e_w o_w) mx_X12_isSaid ml_X12_410 (by decide) rfl (cells1 := 0) (slots1 := 0) (by decide) (by decide) (Nat.le_of_ble_eq_true rfl) (Nat.le_of_ble_eq_true rfl) rfl (Nat.le_of_ble_eq_true rfl) dX12_best_13 (fun r_54 L_55 f_56 h_57 => ?_)
    obtain ⟨rfl, rfl, b_58, x_59⟩ := h_57
    have fe_62 : fld (f a_0) 20 = (v_43 : Int32).toInt := by rw [e_26]; rfl
    rw [fe_62] at x_59
    clear fe_62
    try simp only [Int32.reduceToInt, Int64.reduceToInt] at x_59
    refine v_if_ne hC dX12_best_16 (tgt := 22) (by decide) (fun h_63 => ?_) (fun h_63 => ?_)
    · simp only [Int32.lt_iff_toInt_lt, Int32.le_iff_toInt_le, Int32.reduceToInt, ← Int32.toInt_inj] at h_63
      refine v_iconst hC dX12_best_22 (v := (-1)) (by decide) ?_
      refine v_istore_n hC dX12_best_23 (by decide) (lv' := [(3, .int (-1)), (2, .int r_45), (0, .ref a_0), (1, .int a_1)]) rfl ?_
      refine v_iconst hC dX12_best_24 (v := 0) (by decide) ?_
      refine v_istore hC dX12_best_25 (by decide) (lv' := [(4, .int 0), (3, .int (-1)), (2, .int r_45), (0, .ref a_0), (1, .int a_1)]) rfl ?_
      refine v_iconst hC dX12_best_27 (v := 0) (by decide) ?_
      refine v_istore hC dX12_best_28 (by decide) (lv' := [(5, .int 0), (4, .int 0), (3, .int (-1)), (2, .int r_45), (0, .ref a_0), (1, .int a_1)]) rfl ?_
      have lp_1981 : ∀ (n_1982 : Nat) (f_1974 : Nat → va_E) (hW_1975 : WT T L f_1974) (hF_1976 : FR [12, 108, 200, 356] f f_1974) (i_1971 : Int32) (b_1978 : (0 ≤ i_1971.toInt ∧ i_1971.toInt ≤ 6)) (i_1972 : Int32) (i_1973 : Int32) (b_1979 : ((-1) ≤ i_1973.toInt ∧ i_1973.toInt ≤ 5)) (nv_1980 : 1 ≤ fld (f_1974 a_0) 20) (hm_1984 : 6 - i_1971.toInt < (n_1982 : Int)), V z E 7 0 0 L f_1974 30 [(5, .int i_1971), (4, .int i_1972), (3, .int i_1973), (0, .ref a_0), (1, .int a_1)] [] := by
        intro n_1982
        induction n_1982 with
        | zero =>
          intro f_1974 hW_1975 hF_1976 i_1971 b_1978 i_1972 i_1973 b_1979 nv_1980 hm_1984
          have hf_1977 := hF_1976.at e_w rfl
          obtain ⟨v_1986, v_1987, v_1989, v_1991, v_1993, v_1995, v_1997, v_1998, v_1999, v_2000, v_2002, e_1985, b_1988, b_1990, b_1992, b_1994, b_1996, b_2001, b_2003⟩ := hW_1975.at m_1 t_2
          have fe_2004 : fld (f_1974 a_0) 20 = (v_2002 : Int32).toInt := by rw [e_1985]; rfl
          rw [fe_2004] at nv_1980
          exfalso; omega
        | succ n_1982 ih_1983 =>
          intro f_1974 hW_1975 hF_1976 i_1971 b_1978 i_1972 i_1973 b_1979 nv_1980 hm_1984
          have hf_1977 := hF_1976.at e_w rfl
          obtain ⟨v_1986, v_1987, v_1989, v_1991, v_1993, v_1995, v_1997, v_1998, v_1999, v_2000, v_2002, e_1985, b_1988, b_1990, b_1992, b_1994, b_1996, b_2001, b_2003⟩ := hW_1975.at m_1 t_2
          have fe_2004 : fld (f_1974 a_0) 20 = (v_2002 : Int32).toInt := by rw [e_1985]; rfl
          rw [fe_2004] at nv_1980
          refine v_iload hC dX12_best_30 rfl ?_
          refine v_bipush hC dX12_best_32 (v := 6) (by decide) ?_
          refine v_icmp_ge hC dX12_best_34 (tgt := 139) (by decide) (fun h_2005 => ?_) (fun h_2005 => ?_)
          · simp only [Int32.lt_iff_toInt_lt, Int32.le_iff_toInt_le, Int32.reduceToInt, ← Int32.toInt_inj] at h_2005
            refine v_iload_n hC dX12_best_139 rfl ?_
            exact hR _ _ _ _ _ _ _ dX12_best_140 rfl (Nat.le_of_ble_eq_true rfl) (Nat.le_of_ble_eq_true rfl) ⟨rfl, hW_1975, (hF_1976.mono rfl), (by first | omega | (simp only [Int32.lt_iff_toInt_lt, Int32.le_iff_toInt_le, Int32.reduceToInt, ← Int32.toInt_inj, true_and, and_true, or_true, true_or, false_or, or_false, false_and, and_false, not_true_eq_false, not_false_eq_true] <;> omega)), (.inr (by first | omega | (simp only [Int32.lt_iff_toInt_lt, Int32.le_iff_toInt_le, Int32.reduceToInt, ← Int32.toInt_inj, true_and, and_true, or_true, true_or, false_or, or_false, false_and, and_false, not_true_eq_false, not_false_eq_true] <;> omega)))⟩
          · simp only [Int32.lt_iff_toInt_lt, Int32.le_iff_toInt_le, Int32.reduceToInt, ← Int32.toInt_inj] at h_2005
            refine v_aload_n hC dX12_best_37 rfl ?_
            refine v_iload hC dX12_best_38 rfl ?_
            refine v_vi hC (rest := []) m_1 e_1985 rfl mi_X12_isTold ms_X12_isTold (p_X12_isTold hW_1975 k_0 (by first | omega | (simp only [Int32.lt_iff_toInt_lt, Int32.le_iff_toInt_le, Int32.reduceToInt, ← Int32.toInt_inj, true_and, and_true, or_true, true_or, false_or, or_false, false_and, and_false, not_true_eq_false, not_false_eq_true] <;> omega)) hf_1977 o_w) mx_X12_isTold ml_X12_354 (by decide) rfl (cells1 := 0) (slots1 := 0) (by decide) (by decide) (Nat.le_of_ble_eq_true rfl) (Nat.le_of_ble_eq_true rfl) rfl (Nat.le_of_ble_eq_true rfl) dX12_best_40 (fun r_2006 L_2007 f_2008 h_2009 => ?_)
            obtain ⟨rfl, rfl, b_2010, x_2011⟩ := h_2009
            try simp only [Int32.reduceToInt, Int64.reduceToInt] at x_2011
            refine v_if_eq hC dX12_best_43 (tgt := 133) (by decide) (fun h_2014 => ?_) (fun h_2014 => ?_)
            · simp only [Int32.lt_iff_toInt_lt, Int32.le_iff_toInt_le, Int32.reduceToInt, ← Int32.toInt_inj] at h_2014
              obtain ⟨v_2015, h_2016⟩ : ∃ v9 : Int32, i_1971 + Int32.ofInt 1 = v9 := ⟨_, rfl⟩
              have h_2017 := add_v (b := 1) h_2016 (by first | omega | (simp only [Int32.lt_iff_toInt_lt, Int32.le_iff_toInt_le, Int32.reduceToInt, ← Int32.toInt_inj, true_and, and_true, or_true, true_or, false_or, or_false, false_and, and_false, not_true_eq_false, not_false_eq_true] <;> omega)) (by first | omega | (simp only [Int32.lt_iff_toInt_lt, Int32.le_iff_toInt_le, Int32.reduceToInt, ← Int32.toInt_inj, true_and, and_true, or_true, true_or, false_or, or_false, false_and, and_false, not_true_eq_false, not_false_eq_true] <;> omega))
              simp only [Int32.reduceToInt] at h_2017
              refine v_iinc hC dX12_best_133 (k := 0) rfl (v := v_2015) h_2016 (by decide) (lv' := [(5, .int v_2015), (4, .int i_1972), (3, .int i_1973), (0, .ref a_0), (1, .int a_1)]) rfl ?_
              refine v_goto hC dX12_best_136 (tgt := 30) (by decide) ?_
              refine v_pick [0, 1, 2, 3, 4] rfl ?_
              have fe_2018 : fld (f_1974 a_0) 20 = (v_2002 : Int32).toInt := by rw [e_1985]; rfl
              exact ih_1983 f_1974 hW_1975 (hF_1976.mono rfl) v_2015 (by first | omega | (simp only [Int32.lt_iff_toInt_lt, Int32.le_iff_toInt_le, Int32.reduceToInt, ← Int32.toInt_inj, true_and, and_true, or_true, true_or, false_or, or_false, false_and, and_false, not_true_eq_false, not_false_eq_true] <;> omega)) i_1972 i_1973 (by first | omega | (simp only [Int32.lt_iff_toInt_lt, Int32.le_iff_toInt_le, Int32.reduceToInt, ← Int32.toInt_inj, true_and, and_true, or_true, true_or, false_or, or_false, false_and, and_false, not_true_eq_false, not_false_eq_true] <;> omega)) (by rw [fe_2018] <;> first | omega | (simp only [Int32.lt_iff_toInt_lt, Int32.le_iff_toInt_le, Int32.reduceToInt, ← Int32.toInt_inj, true_and, and_true, or_true, true_or, false_or, or_false, false_and, and_false, not_true_eq_false, not_false_eq_true] <;> omega)) (by first | omega | (simp only [Int32.lt_iff_toInt_lt, Int32.le_iff_toInt_le, Int32.reduceToInt, ← Int32.toInt_inj, true_and, and_true, or_true, true_or, false_or, or_false, false_and, and_false, not_true_eq_false, not_false_eq_true] <;> omega))
            · simp only [Int32.lt_iff_toInt_lt, Int32.le_iff_toInt_le, Int32.reduceToInt, ← Int32.toInt_inj] at h_2014
              refine v_iconst hC dX12_best_46 (v := 5) (by decide) ?_
              refine v_aload_n hC dX12_best_47 rfl ?_
              refine v_get hC fl_X12_49 m_1 e_1985 rfl dX12_best_48 ?_
              refine v_iconst hC dX12_best_51 (v := 1) (by decide) ?_
              obtain ⟨v_2019, h_2020⟩ : ∃ v9 : Int32, v_2002 + 1 = v9 := ⟨_, rfl⟩
              refine v_iadd hC dX12_best_52 h_2020 ?_
              have h_2021 := add_v h_2020 (by first | omega | (simp only [Int32.lt_iff_toInt_lt, Int32.le_iff_toInt_le, Int32.reduceToInt, ← Int32.toInt_inj, true_and, and_true, or_true, true_or, false_or, or_false, false_and, and_false, not_true_eq_false, not_false_eq_true] <;> omega)) (by first | omega | (simp only [Int32.lt_iff_toInt_lt, Int32.le_iff_toInt_le, Int32.reduceToInt, ← Int32.toInt_inj, true_and, and_true, or_true, true_or, false_or, or_false, false_and, and_false, not_true_eq_false, not_false_eq_true] <;> omega))
              try simp only [Int32.reduceToInt] at h_2021
              obtain ⟨v_2022, h_2023⟩ : ∃ v9 : Int32, (5 : Int32) * v_2019 = v9 := ⟨_, rfl⟩
              refine v_imul hC dX12_best_53 h_2023 ?_
              have h_2024 := mul_v 5 101 505 h_2023 (by decide) (by first | omega | (simp only [Int32.lt_iff_toInt_lt, Int32.le_iff_toInt_le, Int32.reduceToInt, ← Int32.toInt_inj, true_and, and_true, or_true, true_or, false_or, or_false, false_and, and_false, not_true_eq_false, not_false_eq_true] <;> omega)) (by decide) (by decide)
              try simp only [Int32.reduceToInt] at h_2024
              refine v_aload_n hC dX12_best_54 rfl ?_
              refine v_iload hC dX12_best_55 rfl ?_
              refine v_vi hC (rest := [.int v_2022]) m_1 e_1985 rfl mi_X12_roomOf ms_X12_roomOf (p_X12_roomOf hW_1975 k_0 (by first | omega | (simp only [Int32.lt_iff_toInt_lt, Int32.le_iff_toInt_le, Int32.reduceToInt, ← Int32.toInt_inj, true_and, and_true, or_true, true_or, false_or, or_false, false_and, and_false, not_true_eq_false, not_false_eq_true] <;> omega)) hf_1977 o_w (by first | omega | (simp only [Int32.lt_iff_toInt_lt, Int32.le_iff_toInt_le, Int32.reduceToInt, ← Int32.toInt_inj, true_and, and_true, or_true, true_or, false_or, or_false, false_and, and_false, not_true_eq_false, not_false_eq_true] <;> omega))) mx_X12_roomOf ml_X12_241 (by decide) rfl (cells1 := 0) (slots1 := 0) (by decide) (by decide) (Nat.le_of_ble_eq_true rfl) (Nat.le_of_ble_eq_true rfl) rfl (Nat.le_of_ble_eq_true rfl) dX12_best_57 (fun r_2025 L_2026 f_2027 h_2028 => ?_)
              obtain ⟨rfl, hW_2033, hF_2034, b_2029, x_2030, x_2031, x_2032⟩ := h_2028
              have fe_2035 : fld (f_1974 a_0) 20 = (v_2002 : Int32).toInt := by rw [e_1985]; rfl
              have hf_2036 := hF_2034.at hf_1977 rfl
              obtain ⟨v_2038, v_2039, v_2041, v_2043, v_2045, v_2047, v_2049, v_2050, v_2051, v_2052, v_2054, e_2037, b_2040, b_2042, b_2044, b_2046, b_2048, b_2053, b_2055⟩ := hW_2033.at m_1 t_2
              have fe_2056 : fld (f_2027 a_0) 20 = (v_2054 : Int32).toInt := by rw [e_2037]; rfl
              rw [fe_2056, fe_2035] at x_2032
              clear fe_2035 fe_2056
              try simp only [Int32.reduceToInt, Int64.reduceToInt] at x_2030
              try simp only [Int32.reduceToInt, Int64.reduceToInt] at x_2031
              try simp only [Int32.reduceToInt, Int64.reduceToInt] at x_2032
              refine v_icmp_le hC dX12_best_60 (tgt := 66) (by decide) (fun h_2057 => ?_) (fun h_2057 => ?_)
              · simp only [Int32.lt_iff_toInt_lt, Int32.le_iff_toInt_le, Int32.reduceToInt, ← Int32.toInt_inj] at h_2057
                refine v_aload_n hC dX12_best_66 rfl ?_
                refine v_iload_n hC dX12_best_67 rfl ?_
                refine v_vv hC (rest := []) m_1 e_2037 rfl mi_X12_takes0 ms_X12_takes0 (p_X12_takes0 hW_2033 k_0 (by first | omega | (simp only [Int32.lt_iff_toInt_lt, Int32.le_iff_toInt_le, Int32.reduceToInt, ← Int32.toInt_inj, true_and, and_true, or_true, true_or, false_or, or_false, false_and, and_false, not_true_eq_false, not_false_eq_true] <;> omega)) hf_2036 o_w) mx_X12_takes0 ml_X12_363 (by decide) rfl (cells1 := 0) (slots1 := 0) (by decide) (by decide) (Nat.le_of_ble_eq_true rfl) (Nat.le_of_ble_eq_true rfl) rfl (Nat.le_of_ble_eq_true rfl) dX12_best_68 (fun L_2059 f_2060 h_2061 => ?_)
                obtain ⟨rfl, hW_2062, hF_2063⟩ := h_2061
                have hf_2064 := hF_2063.at hf_2036 rfl
                have hf_2065 := hF_2063.at e_2037 rfl
                refine v_aload_n hC dX12_best_71 rfl ?_
                refine v_iload hC dX12_best_72 rfl ?_
                refine v_aload_n hC dX12_best_74 rfl ?_
                refine v_get hC fl_X12_46 m_1 hf_2065 rfl dX12_best_75 ?_
                refine v_aload_n hC dX12_best_78 rfl ?_
                refine v_get hC fl_X12_49 m_1 hf_2065 rfl dX12_best_79 ?_
                refine v_vi hC (rest := []) m_1 hf_2065 rfl mi_X12_puts ms_X12_puts (p_X12_puts_65 hW_2062 k_0 (by first | omega | (simp only [Int32.lt_iff_toInt_lt, Int32.le_iff_toInt_le, Int32.reduceToInt, ← Int32.toInt_inj, true_and, and_true, or_true, true_or, false_or, or_false, false_and, and_false, not_true_eq_false, not_false_eq_true] <;> omega)) k_12 (by first | omega | (simp only [Int32.lt_iff_toInt_lt, Int32.le_iff_toInt_le, Int32.reduceToInt, ← Int32.toInt_inj, true_and, and_true, or_true, true_or, false_or, or_false, false_and, and_false, not_true_eq_false, not_false_eq_true] <;> omega)) hf_2064 o_w (by first | omega | (simp only [Int32.lt_iff_toInt_lt, Int32.le_iff_toInt_le, Int32.reduceToInt, ← Int32.toInt_inj, true_and, and_true, or_true, true_or, false_or, or_false, false_and, and_false, not_true_eq_false, not_false_eq_true] <;> omega)) (fun i9 p9 q9 => x_2030 i9 p9 (by omega)) (by first | omega | (simp only [Int32.lt_iff_toInt_lt, Int32.le_iff_toInt_le, Int32.reduceToInt, ← Int32.toInt_inj, true_and, and_true, or_true, true_or, false_or, or_false, false_and, and_false, not_true_eq_false, not_false_eq_true] <;> omega))) mx_X12_puts ml_X12_366 (by decide) rfl (cells1 := 0) (slots1 := 0) (by decide) (by decide) (Nat.le_of_ble_eq_true rfl) (Nat.le_of_ble_eq_true rfl) rfl (Nat.le_of_ble_eq_true rfl) dX12_best_82 (fun r_2066 L_2067 f_2068 h_2069 => ?_)
                obtain ⟨rfl, hW_2070, hF_2071⟩ := h_2069
                have hf_2072 := hF_2071.at hf_2064 rfl
                have hf_2073 := hF_2071.at hf_2065 rfl
                refine v_istore hC dX12_best_85 (by decide) (lv' := [(6, .int r_2066), (5, .int i_1971), (4, .int i_1972), (3, .int i_1973), (0, .ref a_0), (1, .int a_1)]) rfl ?_
                refine v_iload_n hC dX12_best_87 rfl ?_
                refine v_iconst hC dX12_best_88 (v := (-1)) (by decide) ?_
                refine v_icmp_eq hC dX12_best_89 (tgt := 99) (by decide) (fun h_2074 => ?_) (fun h_2074 => ?_)
                · simp only [Int32.lt_iff_toInt_lt, Int32.le_iff_toInt_le, Int32.reduceToInt, ← Int32.toInt_inj] at h_2074
                  refine v_aload_n hC dX12_best_99 rfl ?_
                  refine v_vi hC (rest := []) m_1 hf_2073 rfl mi_X12_stopping ms_X12_stopping (p_X12_stopping hW_2070 k_0 hf_2072 o_w) mx_X12_stopping ml_X12_405 (by decide) rfl (cells1 := 0) (slots1 := 0) (by decide) (by decide) (Nat.le_of_ble_eq_true rfl) (Nat.le_of_ble_eq_true rfl) rfl (Nat.le_of_ble_eq_true rfl) dX12_best_100 (fun r_2075 L_2076 f_2077 h_2078 => ?_)
                  obtain ⟨rfl, hW_2080, hF_2081, b_2079⟩ := h_2078
                  have hf_2082 := hF_2081.at hf_2072 rfl
                  have hf_2083 := hF_2081.at hf_2073 rfl
                  refine v_iconst hC dX12_best_103 (v := (-1)) (by decide) ?_
                  refine v_icmp_eq hC dX12_best_104 (tgt := 110) (by decide) (fun h_2084 => ?_) (fun h_2084 => ?_)
                  · simp only [Int32.lt_iff_toInt_lt, Int32.le_iff_toInt_le, Int32.reduceToInt, ← Int32.toInt_inj] at h_2084
                    refine v_aload_n hC dX12_best_110 rfl ?_
                    refine v_vv hC (rest := []) m_1 hf_2083 rfl mi_X12_suffers ms_X12_suffers (p_X12_suffers hW_2080 k_0 hf_2082 o_w) mx_X12_suffers ml_X12_413 (by decide) rfl (cells1 := 0) (slots1 := 0) (by decide) (by decide) (Nat.le_of_ble_eq_true rfl) (Nat.le_of_ble_eq_true rfl) rfl (Nat.le_of_ble_eq_true rfl) dX12_best_111 (fun L_2086 f_2087 h_2088 => ?_)
                    obtain ⟨rfl, hW_2089, hF_2090⟩ := h_2088
                    have hf_2091 := hF_2090.at hf_2082 rfl
                    have hf_2092 := hF_2090.at hf_2083 rfl
                    refine v_aload_n hC dX12_best_114 rfl ?_
                    refine v_iload hC dX12_best_115 rfl ?_
                    refine v_vi hC (rest := []) m_1 hf_2092 rfl mi_X12_isReadAgain ms_X12_isReadAgain (p_X12_isReadAgain hW_2089 k_0 (by first | omega | (simp only [Int32.lt_iff_toInt_lt, Int32.le_iff_toInt_le, Int32.reduceToInt, ← Int32.toInt_inj, true_and, and_true, or_true, true_or, false_or, or_false, false_and, and_false, not_true_eq_false, not_false_eq_true] <;> omega)) hf_2091 o_w (by first | omega | (simp only [Int32.lt_iff_toInt_lt, Int32.le_iff_toInt_le, Int32.reduceToInt, ← Int32.toInt_inj, true_and, and_true, or_true, true_or, false_or, or_false, false_and, and_false, not_true_eq_false, not_false_eq_true] <;> omega))) mx_X12_isReadAgain ml_X12_416 (by decide) rfl (cells1 := 0) (slots1 := 0) (by decide) (by decide) (Nat.le_of_ble_eq_true rfl) (Nat.le_of_ble_eq_true rfl) rfl (Nat.le_of_ble_eq_true rfl) dX12_best_117 (fun r_2093 L_2094 f_2095 h_2096 => ?_)
                    obtain ⟨rfl, hW_2099, hF_2100, b_2097, x_2098⟩ := h_2096
                    have fe_2101 : fld (f_2087 a_0) 20 = (v_2054 : Int32).toInt := by rw [hf_2092]; rfl
                    have hf_2102 := hF_2100.at hf_2091 rfl
                    obtain ⟨v_2104, v_2105, v_2107, v_2109, v_2111, v_2113, v_2115, v_2116, v_2117, v_2118, v_2120, e_2103, b_2106, b_2108, b_2110, b_2112, b_2114, b_2119, b_2121⟩ := hW_2099.at m_1 t_2
                    have fe_2122 : fld (f_2095 a_0) 20 = (v_2120 : Int32).toInt := by rw [e_2103]; rfl
                    rw [fe_2122, fe_2101] at x_2098
                    clear fe_2101 fe_2122
                    try simp only [Int32.reduceToInt, Int64.reduceToInt] at x_2098
                    refine v_if_ne hC dX12_best_120 (tgt := 126) (by decide) (fun h_2123 => ?_) (fun h_2123 => ?_)
                    · simp only [Int32.lt_iff_toInt_lt, Int32.le_iff_toInt_le, Int32.reduceToInt, ← Int32.toInt_inj] at h_2123
                      refine v_iload hC dX12_best_126 rfl ?_
                      refine v_istore_n hC dX12_best_128 (by decide) (lv' := [(3, .int i_1971), (6, .int r_2066), (5, .int i_1971), (4, .int i_1972), (0, .ref a_0), (1, .int a_1)]) rfl ?_
                      refine v_iload hC dX12_best_129 rfl ?_
                      refine v_istore hC dX12_best_131 (by decide) (lv' := [(4, .int r_2066), (3, .int i_1971), (6, .int r_2066), (5, .int i_1971), (0, .ref a_0), (1, .int a_1)]) rfl ?_
                      obtain ⟨v_2124, h_2125⟩ : ∃ v9 : Int32, i_1971 + Int32.ofInt 1 = v9 := ⟨_, rfl⟩
                      have h_2126 := add_v (b := 1) h_2125 (by first | omega | (simp only [Int32.lt_iff_toInt_lt, Int32.le_iff_toInt_le, Int32.reduceToInt, ← Int32.toInt_inj, true_and, and_true, or_true, true_or, false_or, or_false, false_and, and_false, not_true_eq_false, not_false_eq_true] <;> omega)) (by first | omega | (simp only [Int32.lt_iff_toInt_lt, Int32.le_iff_toInt_le, Int32.reduceToInt, ← Int32.toInt_inj, true_and, and_true, or_true, true_or, false_or, or_false, false_and, and_false, not_true_eq_false, not_false_eq_true] <;> omega))
                      simp only [Int32.reduceToInt] at h_2126
                      refine v_iinc hC dX12_best_133 (k := 3) rfl (v := v_2124) h_2125 (by decide) (lv' := [(5, .int v_2124), (4, .int r_2066), (3, .int i_1971), (6, .int r_2066), (0, .ref a_0), (1, .int a_1)]) rfl ?_
                      refine v_goto hC dX12_best_136 (tgt := 30) (by decide) ?_
                      refine v_pick [0, 1, 2, 4, 5] rfl ?_
                      have fe_2127 : fld (f_2095 a_0) 20 = (v_2120 : Int32).toInt := by rw [e_2103]; rfl
                      exact ih_1983 f_2095 hW_2099 (((((((hF_1976.tr hF_2034).tr hF_2063).tr hF_2071).tr hF_2081).tr hF_2090).tr hF_2100).mono rfl) v_2124 (by first | omega | (simp only [Int32.lt_iff_toInt_lt, Int32.le_iff_toInt_le, Int32.reduceToInt, ← Int32.toInt_inj, true_and, and_true, or_true, true_or, false_or, or_false, false_and, and_false, not_true_eq_false, not_false_eq_true] <;> omega)) r_2066 i_1971 (by first | omega | (simp only [Int32.lt_iff_toInt_lt, Int32.le_iff_toInt_le, Int32.reduceToInt, ← Int32.toInt_inj, true_and, and_true, or_true, true_or, false_or, or_false, false_and, and_false, not_true_eq_false, not_false_eq_true] <;> omega)) (by rw [fe_2127] <;> first | omega | (simp only [Int32.lt_iff_toInt_lt, Int32.le_iff_toInt_le, Int32.reduceToInt, ← Int32.toInt_inj, true_and, and_true, or_true, true_or, false_or, or_false, false_and, and_false, not_true_eq_false, not_false_eq_true] <;> omega)) (by first | omega | (simp only [Int32.lt_iff_toInt_lt, Int32.le_iff_toInt_le, Int32.reduceToInt, ← Int32.toInt_inj, true_and, and_true, or_true, true_or, false_or, or_false, false_and, and_false, not_true_eq_false, not_false_eq_true] <;> omega))
                    · simp only [Int32.lt_iff_toInt_lt, Int32.le_iff_toInt_le, Int32.reduceToInt, ← Int32.toInt_inj] at h_2123
                      refine v_goto hC dX12_best_123 (tgt := 133) (by decide) ?_
                      obtain ⟨v_2128, h_2129⟩ : ∃ v9 : Int32, i_1971 + Int32.ofInt 1 = v9 := ⟨_, rfl⟩
                      have h_2130 := add_v (b := 1) h_2129 (by first | omega | (simp only [Int32.lt_iff_toInt_lt, Int32.le_iff_toInt_le, Int32.reduceToInt, ← Int32.toInt_inj, true_and, and_true, or_true, true_or, false_or, or_false, false_and, and_false, not_true_eq_false, not_false_eq_true] <;> omega)) (by first | omega | (simp only [Int32.lt_iff_toInt_lt, Int32.le_iff_toInt_le, Int32.reduceToInt, ← Int32.toInt_inj, true_and, and_true, or_true, true_or, false_or, or_false, false_and, and_false, not_true_eq_false, not_false_eq_true] <;> omega))
                      simp only [Int32.reduceToInt] at h_2130
                      refine v_iinc hC dX12_best_133 (k := 1) rfl (v := v_2128) h_2129 (by decide) (lv' := [(5, .int v_2128), (6, .int r_2066), (4, .int i_1972), (3, .int i_1973), (0, .ref a_0), (1, .int a_1)]) rfl ?_
                      refine v_goto hC dX12_best_136 (tgt := 30) (by decide) ?_
                      refine v_pick [0, 2, 3, 4, 5] rfl ?_
                      have fe_2131 : fld (f_2095 a_0) 20 = (v_2120 : Int32).toInt := by rw [e_2103]; rfl
                      exact ih_1983 f_2095 hW_2099 (((((((hF_1976.tr hF_2034).tr hF_2063).tr hF_2071).tr hF_2081).tr hF_2090).tr hF_2100).mono rfl) v_2128 (by first | omega | (simp only [Int32.lt_iff_toInt_lt, Int32.le_iff_toInt_le, Int32.reduceToInt, ← Int32.toInt_inj, true_and, and_true, or_true, true_or, false_or, or_false, false_and, and_false, not_true_eq_false, not_false_eq_true] <;> omega)) i_1972 i_1973 (by first | omega | (simp only [Int32.lt_iff_toInt_lt, Int32.le_iff_toInt_le, Int32.reduceToInt, ← Int32.toInt_inj, true_and, and_true, or_true, true_or, false_or, or_false, false_and, and_false, not_true_eq_false, not_false_eq_true] <;> omega)) (by rw [fe_2131] <;> first | omega | (simp only [Int32.lt_iff_toInt_lt, Int32.le_iff_toInt_le, Int32.reduceToInt, ← Int32.toInt_inj, true_and, and_true, or_true, true_or, false_or, or_false, false_and, and_false, not_true_eq_false, not_false_eq_true] <;> omega)) (by first | omega | (simp only [Int32.lt_iff_toInt_lt, Int32.le_iff_toInt_le, Int32.reduceToInt, ← Int32.toInt_inj, true_and, and_true, or_true, true_or, false_or, or_false, false_and, and_false, not_true_eq_false, not_false_eq_true] <;> omega))
                  · simp only [Int32.lt_iff_toInt_lt, Int32.le_iff_toInt_le, Int32.reduceToInt, ← Int32.toInt_inj] at h_2084
                    refine v_goto hC dX12_best_107 (tgt := 133) (by decide) ?_
                    obtain ⟨v_2132, h_2133⟩ : ∃ v9 : Int32, i_1971 + Int32.ofInt 1 = v9 := ⟨_, rfl⟩
                    have h_2134 := add_v (b := 1) h_2133 (by first | omega | (simp only [Int32.lt_iff_toInt_lt, Int32.le_iff_toInt_le, Int32.reduceToInt, ← Int32.toInt_inj, true_and, and_true, or_true, true_or, false_or, or_false, false_and, and_false, not_true_eq_false, not_false_eq_true] <;> omega)) (by first | omega | (simp only [Int32.lt_iff_toInt_lt, Int32.le_iff_toInt_le, Int32.reduceToInt, ← Int32.toInt_inj, true_and, and_true, or_true, true_or, false_or, or_false, false_and, and_false, not_true_eq_false, not_false_eq_true] <;> omega))
                    simp only [Int32.reduceToInt] at h_2134
                    refine v_iinc hC dX12_best_133 (k := 1) rfl (v := v_2132) h_2133 (by decide) (lv' := [(5, .int v_2132), (6, .int r_2066), (4, .int i_1972), (3, .int i_1973), (0, .ref a_0), (1, .int a_1)]) rfl ?_
                    refine v_goto hC dX12_best_136 (tgt := 30) (by decide) ?_
                    refine v_pick [0, 2, 3, 4, 5] rfl ?_
                    have fe_2135 : fld (f_2077 a_0) 20 = (v_2054 : Int32).toInt := by rw [hf_2083]; rfl
                    exact ih_1983 f_2077 hW_2080 (((((hF_1976.tr hF_2034).tr hF_2063).tr hF_2071).tr hF_2081).mono rfl) v_2132 (by first | omega | (simp only [Int32.lt_iff_toInt_lt, Int32.le_iff_toInt_le, Int32.reduceToInt, ← Int32.toInt_inj, true_and, and_true, or_true, true_or, false_or, or_false, false_and, and_false, not_true_eq_false, not_false_eq_true] <;> omega)) i_1972 i_1973 (by first | omega | (simp only [Int32.lt_iff_toInt_lt, Int32.le_iff_toInt_le, Int32.reduceToInt, ← Int32.toInt_inj, true_and, and_true, or_true, true_or, false_or, or_false, false_and, and_false, not_true_eq_false, not_false_eq_true] <;> omega)) (by rw [fe_2135] <;> first | omega | (simp only [Int32.lt_iff_toInt_lt, Int32.le_iff_toInt_le, Int32.reduceToInt, ← Int32.toInt_inj, true_and, and_true, or_true, true_or, false_or, or_false, false_and, and_false, not_true_eq_false, not_false_eq_true] <;> omega)) (by first | omega | (simp only [Int32.lt_iff_toInt_lt, Int32.le_iff_toInt_le, Int32.reduceToInt, ← Int32.toInt_inj, true_and, and_true, or_true, true_or, false_or, or_false, false_and, and_false, not_true_eq_false, not_false_eq_true] <;> omega))
                · simp only [Int32.lt_iff_toInt_lt, Int32.le_iff_toInt_le, Int32.reduceToInt, ← Int32.toInt_inj] at h_2074
                  refine v_iload hC dX12_best_92 rfl ?_
                  refine v_iload hC dX12_best_94 rfl ?_
                  refine v_icmp_ge hC dX12_best_96 (tgt := 133) (by decide) (fun h_2136 => ?_) (fun h_2136 => ?_)
                  · simp only [Int32.lt_iff_toInt_lt, Int32.le_iff_toInt_le, Int32.reduceToInt, ← Int32.toInt_inj] at h_2136
                    obtain ⟨v_2137, h_2138⟩ : ∃ v9 : Int32, i_1971 + Int32.ofInt 1 = v9 := ⟨_, rfl⟩
                    have h_2139 := add_v (b := 1) h_2138 (by first | omega | (simp only [Int32.lt_iff_toInt_lt, Int32.le_iff_toInt_le, Int32.reduceToInt, ← Int32.toInt_inj, true_and, and_true, or_true, true_or, false_or, or_false, false_and, and_false, not_true_eq_false, not_false_eq_true] <;> omega)) (by first | omega | (simp only [Int32.lt_iff_toInt_lt, Int32.le_iff_toInt_le, Int32.reduceToInt, ← Int32.toInt_inj, true_and, and_true, or_true, true_or, false_or, or_false, false_and, and_false, not_true_eq_false, not_false_eq_true] <;> omega))
                    simp only [Int32.reduceToInt] at h_2139
                    refine v_iinc hC dX12_best_133 (k := 1) rfl (v := v_2137) h_2138 (by decide) (lv' := [(5, .int v_2137), (6, .int r_2066), (4, .int i_1972), (3, .int i_1973), (0, .ref a_0), (1, .int a_1)]) rfl ?_
                    refine v_goto hC dX12_best_136 (tgt := 30) (by decide) ?_
                    refine v_pick [0, 2, 3, 4, 5] rfl ?_
                    have fe_2140 : fld (f_2068 a_0) 20 = (v_2054 : Int32).toInt := by rw [hf_2073]; rfl
                    exact ih_1983 f_2068 hW_2070 ((((hF_1976.tr hF_2034).tr hF_2063).tr hF_2071).mono rfl) v_2137 (by first | omega | (simp only [Int32.lt_iff_toInt_lt, Int32.le_iff_toInt_le, Int32.reduceToInt, ← Int32.toInt_inj, true_and, and_true, or_true, true_or, false_or, or_false, false_and, and_false, not_true_eq_false, not_false_eq_true] <;> omega)) i_1972 i_1973 (by first | omega | (simp only [Int32.lt_iff_toInt_lt, Int32.le_iff_toInt_le, Int32.reduceToInt, ← Int32.toInt_inj, true_and, and_true, or_true, true_or, false_or, or_false, false_and, and_false, not_true_eq_false, not_false_eq_true] <;> omega)) (by rw [fe_2140] <;> first | omega | (simp only [Int32.lt_iff_toInt_lt, Int32.le_iff_toInt_le, Int32.reduceToInt, ← Int32.toInt_inj, true_and, and_true, or_true, true_or, false_or, or_false, false_and, and_false, not_true_eq_false, not_false_eq_true] <;> omega)) (by first | omega | (simp only [Int32.lt_iff_toInt_lt, Int32.le_iff_toInt_le, Int32.reduceToInt, ← Int32.toInt_inj, true_and, and_true, or_true, true_or, false_or, or_false, false_and, and_false, not_true_eq_false, not_false_eq_true] <;> omega))
                  · simp only [Int32.lt_iff_toInt_lt, Int32.le_iff_toInt_le, Int32.reduceToInt, ← Int32.toInt_inj] at h_2136
                    refine v_aload_n hC dX12_best_99 rfl ?_
                    refine v_vi hC (rest := []) m_1 hf_2073 rfl mi_X12_stopping ms_X12_stopping (p_X12_stopping hW_2070 k_0 hf_2072 o_w) mx_X12_stopping ml_X12_405 (by decide) rfl (cells1 := 0) (slots1 := 0) (by decide) (by decide) (Nat.le_of_ble_eq_true rfl) (Nat.le_of_ble_eq_true rfl) rfl (Nat.le_of_ble_eq_true rfl) dX12_best_100 (fun r_2141 L_2142 f_2143 h_2144 => ?_)
                    obtain ⟨rfl, hW_2146, hF_2147, b_2145⟩ := h_2144
                    have hf_2148 := hF_2147.at hf_2072 rfl
                    have hf_2149 := hF_2147.at hf_2073 rfl
                    refine v_iconst hC dX12_best_103 (v := (-1)) (by decide) ?_
                    refine v_icmp_eq hC dX12_best_104 (tgt := 110) (by decide) (fun h_2150 => ?_) (fun h_2150 => ?_)
                    · simp only [Int32.lt_iff_toInt_lt, Int32.le_iff_toInt_le, Int32.reduceToInt, ← Int32.toInt_inj] at h_2150
                      refine v_aload_n hC dX12_best_110 rfl ?_
                      refine v_vv hC (rest := []) m_1 hf_2149 rfl mi_X12_suffers ms_X12_suffers (p_X12_suffers hW_2146 k_0 hf_2148 o_w) mx_X12_suffers ml_X12_413 (by decide) rfl (cells1 := 0) (slots1 := 0) (by decide) (by decide) (Nat.le_of_ble_eq_true rfl) (Nat.le_of_ble_eq_true rfl) rfl (Nat.le_of_ble_eq_true rfl) dX12_best_111 (fun L_2152 f_2153 h_2154 => ?_)
                      obtain ⟨rfl, hW_2155, hF_2156⟩ := h_2154
                      have hf_2157 := hF_2156.at hf_2148 rfl
                      have hf_2158 := hF_2156.at hf_2149 rfl
                      refine v_aload_n hC dX12_best_114 rfl ?_
                      refine v_iload hC dX12_best_115 rfl ?_
                      refine v_vi hC (rest := []) m_1 hf_2158 rfl mi_X12_isReadAgain ms_X12_isReadAgain (p_X12_isReadAgain hW_2155 k_0 (by first | omega | (simp only [Int32.lt_iff_toInt_lt, Int32.le_iff_toInt_le, Int32.reduceToInt, ← Int32.toInt_inj, true_and, and_true, or_true, true_or, false_or, or_false, false_and, and_false, not_true_eq_false, not_false_eq_true] <;> omega)) hf_2157 o_w (by first | omega | (simp only [Int32.lt_iff_toInt_lt, Int32.le_iff_toInt_le, Int32.reduceToInt, ← Int32.toInt_inj, true_and, and_true, or_true, true_or, false_or, or_false, false_and, and_false, not_true_eq_false, not_false_eq_true] <;> omega))) mx_X12_isReadAgain ml_X12_416 (by decide) rfl (cells1 := 0) (slots1 := 0) (by decide) (by decide) (Nat.le_of_ble_eq_true rfl) (Nat.le_of_ble_eq_true rfl) rfl (Nat.le_of_ble_eq_true rfl) dX12_best_117 (fun r_2159 L_2160 f_2161 h_2162 => ?_)
                      obtain ⟨rfl, hW_2165, hF_2166, b_2163, x_2164⟩ := h_2162
                      have fe_2167 : fld (f_2153 a_0) 20 = (v_2054 : Int32).toInt := by rw [hf_2158]; rfl
                      have hf_2168 := hF_2166.at hf_2157 rfl
                      obtain ⟨v_2170, v_2171, v_2173, v_2175, v_2177, v_2179, v_2181, v_2182, v_2183, v_2184, v_2186, e_2169, b_2172, b_2174, b_2176, b_2178, b_2180, b_2185, b_2187⟩ := hW_2165.at m_1 t_2
                      have fe_2188 : fld (f_2161 a_0) 20 = (v_2186 : Int32).toInt := by rw [e_2169]; rfl
                      rw [fe_2188, fe_2167] at x_2164
                      clear fe_2167 fe_2188
                      try simp only [Int32.reduceToInt, Int64.reduceToInt] at x_2164
                      refine v_if_ne hC dX12_best_120 (tgt := 126) (by decide) (fun h_2189 => ?_) (fun h_2189 => ?_)
                      · simp only [Int32.lt_iff_toInt_lt, Int32.le_iff_toInt_le, Int32.reduceToInt, ← Int32.toInt_inj] at h_2189
                        refine v_iload hC dX12_best_126 rfl ?_
                        refine v_istore_n hC dX12_best_128 (by decide) (lv' := [(3, .int i_1971), (6, .int r_2066), (5, .int i_1971), (4, .int i_1972), (0, .ref a_0), (1, .int a_1)]) rfl ?_
                        refine v_iload hC dX12_best_129 rfl ?_
                        refine v_istore hC dX12_best_131 (by decide) (lv' := [(4, .int r_2066), (3, .int i_1971), (6, .int r_2066), (5, .int i_1971), (0, .ref a_0), (1, .int a_1)]) rfl ?_
                        obtain ⟨v_2190, h_2191⟩ : ∃ v9 : Int32, i_1971 + Int32.ofInt 1 = v9 := ⟨_, rfl⟩
                        have h_2192 := add_v (b := 1) h_2191 (by first | omega | (simp only [Int32.lt_iff_toInt_lt, Int32.le_iff_toInt_le, Int32.reduceToInt, ← Int32.toInt_inj, true_and, and_true, or_true, true_or, false_or, or_false, false_and, and_false, not_true_eq_false, not_false_eq_true] <;> omega)) (by first | omega | (simp only [Int32.lt_iff_toInt_lt, Int32.le_iff_toInt_le, Int32.reduceToInt, ← Int32.toInt_inj, true_and, and_true, or_true, true_or, false_or, or_false, false_and, and_false, not_true_eq_false, not_false_eq_true] <;> omega))
                        simp only [Int32.reduceToInt] at h_2192
                        refine v_iinc hC dX12_best_133 (k := 3) rfl (v := v_2190) h_2191 (by decide) (lv' := [(5, .int v_2190), (4, .int r_2066), (3, .int i_1971), (6, .int r_2066), (0, .ref a_0), (1, .int a_1)]) rfl ?_
                        refine v_goto hC dX12_best_136 (tgt := 30) (by decide) ?_
                        refine v_pick [0, 1, 2, 4, 5] rfl ?_
                        have fe_2193 : fld (f_2161 a_0) 20 = (v_2186 : Int32).toInt := by rw [e_2169]; rfl
                        exact ih_1983 f_2161 hW_2165 (((((((hF_1976.tr hF_2034).tr hF_2063).tr hF_2071).tr hF_2147).tr hF_2156).tr hF_2166).mono rfl) v_2190 (by first | omega | (simp only [Int32.lt_iff_toInt_lt, Int32.le_iff_toInt_le, Int32.reduceToInt, ← Int32.toInt_inj, true_and, and_true, or_true, true_or, false_or, or_false, false_and, and_false, not_true_eq_false, not_false_eq_true] <;> omega)) r_2066 i_1971 (by first | omega | (simp only [Int32.lt_iff_toInt_lt, Int32.le_iff_toInt_le, Int32.reduceToInt, ← Int32.toInt_inj, true_and, and_true, or_true, true_or, false_or, or_false, false_and, and_false, not_true_eq_false, not_false_eq_true] <;> omega)) (by rw [fe_2193] <;> first | omega | (simp only [Int32.lt_iff_toInt_lt, Int32.le_iff_toInt_le, Int32.reduceToInt, ← Int32.toInt_inj, true_and, and_true, or_true, true_or, false_or, or_false, false_and, and_false, not_true_eq_false, not_false_eq_true] <;> omega)) (by first | omega | (simp only [Int32.lt_iff_toInt_lt, Int32.le_iff_toInt_le, Int32.reduceToInt, ← Int32.toInt_inj, true_and, and_true, or_true, true_or, false_or, or_false, false_and, and_false, not_true_eq_false, not_false_eq_true] <;> omega))
                      · simp only [Int32.lt_iff_toInt_lt, Int32.le_iff_toInt_le, Int32.reduceToInt, ← Int32.toInt_inj] at h_2189
                        refine v_goto hC dX12_best_123 (tgt := 133) (by decide) ?_
                        obtain ⟨v_2194, h_2195⟩ : ∃ v9 : Int32, i_1971 + Int32.ofInt 1 = v9 := ⟨_, rfl⟩
                        have h_2196 := add_v (b := 1) h_2195 (by first | omega | (simp only [Int32.lt_iff_toInt_lt, Int32.le_iff_toInt_le, Int32.reduceToInt, ← Int32.toInt_inj, true_and, and_true, or_true, true_or, false_or, or_false, false_and, and_false, not_true_eq_false, not_false_eq_true] <;> omega)) (by first | omega | (simp only [Int32.lt_iff_toInt_lt, Int32.le_iff_toInt_le, Int32.reduceToInt, ← Int32.toInt_inj, true_and, and_true, or_true, true_or, false_or, or_false, false_and, and_false, not_true_eq_false, not_false_eq_true] <;> omega))
                        simp only [Int32.reduceToInt] at h_2196
                        refine v_iinc hC dX12_best_133 (k := 1) rfl (v := v_2194) h_2195 (by decide) (lv' := [(5, .int v_2194), (6, .int r_2066), (4, .int i_1972), (3, .int i_1973), (0, .ref a_0), (1, .int a_1)]) rfl ?_
                        refine v_goto hC dX12_best_136 (tgt := 30) (by decide) ?_
                        refine v_pick [0, 2, 3, 4, 5] rfl ?_
                        have fe_2197 : fld (f_2161 a_0) 20 = (v_2186 : Int32).toInt := by rw [e_2169]; rfl
                        exact ih_1983 f_2161 hW_2165 (((((((hF_1976.tr hF_2034).tr hF_2063).tr hF_2071).tr hF_2147).tr hF_2156).tr hF_2166).mono rfl) v_2194 (by first | omega | (simp only [Int32.lt_iff_toInt_lt, Int32.le_iff_toInt_le, Int32.reduceToInt, ← Int32.toInt_inj, true_and, and_true, or_true, true_or, false_or, or_false, false_and, and_false, not_true_eq_false, not_false_eq_true] <;> omega)) i_1972 i_1973 (by first | omega | (simp only [Int32.lt_iff_toInt_lt, Int32.le_iff_toInt_le, Int32.reduceToInt, ← Int32.toInt_inj, true_and, and_true, or_true, true_or, false_or, or_false, false_and, and_false, not_true_eq_false, not_false_eq_true] <;> omega)) (by rw [fe_2197] <;> first | omega | (simp only [Int32.lt_iff_toInt_lt, Int32.le_iff_toInt_le, Int32.reduceToInt, ← Int32.toInt_inj, true_and, and_true, or_true, true_or, false_or, or_false, false_and, and_false, not_true_eq_false, not_false_eq_true] <;> omega)) (by first | omega | (simp only [Int32.lt_iff_toInt_lt, Int32.le_iff_toInt_le, Int32.reduceToInt, ← Int32.toInt_inj, true_and, and_true, or_true, true_or, false_or, or_false, false_and, and_false, not_true_eq_false, not_false_eq_true] <;> omega))
                    · simp only [Int32.lt_iff_toInt_lt, Int32.le_iff_toInt_le, Int32.reduceToInt, ← Int32.toInt_inj] at h_2150
                      refine v_goto hC dX12_best_107 (tgt := 133) (by decide) ?_
                      obtain ⟨v_2198, h_2199⟩ : ∃ v9 : Int32, i_1971 + Int32.ofInt 1 = v9 := ⟨_, rfl⟩
                      have h_2200 := add_v (b := 1) h_2199 (by first | omega | (simp only [Int32.lt_iff_toInt_lt, Int32.le_iff_toInt_le, Int32.reduceToInt, ← Int32.toInt_inj, true_and, and_true, or_true, true_or, false_or, or_false, false_and, and_false, not_true_eq_false, not_false_eq_true] <;> omega)) (by first | omega | (simp only [Int32.lt_iff_toInt_lt, Int32.le_iff_toInt_le, Int32.reduceToInt, ← Int32.toInt_inj, true_and, and_true, or_true, true_or, false_or, or_false, false_and, and_false, not_true_eq_false, not_false_eq_true] <;> omega))
                      simp only [Int32.reduceToInt] at h_2200
                      refine v_iinc hC dX12_best_133 (k := 1) rfl (v := v_2198) h_2199 (by decide) (lv' := [(5, .int v_2198), (6, .int r_2066), (4, .int i_1972), (3, .int i_1973), (0, .ref a_0), (1, .int a_1)]) rfl ?_
                      refine v_goto hC dX12_best_136 (tgt := 30) (by decide) ?_
                      refine v_pick [0, 2, 3, 4, 5] rfl ?_
                      have fe_2201 : fld (f_2143 a_0) 20 = (v_2054 : Int32).toInt := by rw [hf_2149]; rfl
                      exact ih_1983 f_2143 hW_2146 (((((hF_1976.tr hF_2034).tr hF_2063).tr hF_2071).tr hF_2147).mono rfl) v_2198 (by first | omega | (simp only [Int32.lt_iff_toInt_lt, Int32.le_iff_toInt_le, Int32.reduceToInt, ← Int32.toInt_inj, true_and, and_true, or_true, true_or, false_or, or_false, false_and, and_false, not_true_eq_false, not_false_eq_true] <;> omega)) i_1972 i_1973 (by first | omega | (simp only [Int32.lt_iff_toInt_lt, Int32.le_iff_toInt_le, Int32.reduceToInt, ← Int32.toInt_inj, true_and, and_true, or_true, true_or, false_or, or_false, false_and, and_false, not_true_eq_false, not_false_eq_true] <;> omega)) (by rw [fe_2201] <;> first | omega | (simp only [Int32.lt_iff_toInt_lt, Int32.le_iff_toInt_le, Int32.reduceToInt, ← Int32.toInt_inj, true_and, and_true, or_true, true_or, false_or, or_false, false_and, and_false, not_true_eq_false, not_false_eq_true] <;> omega)) (by first | omega | (simp only [Int32.lt_iff_toInt_lt, Int32.le_iff_toInt_le, Int32.reduceToInt, ← Int32.toInt_inj, true_and, and_true, or_true, true_or, false_or, or_false, false_and, and_false, not_true_eq_false, not_false_eq_true] <;> omega))
              · simp only [Int32.lt_iff_toInt_lt, Int32.le_iff_toInt_le, Int32.reduceToInt, ← Int32.toInt_inj] at h_2057
                refine v_goto hC dX12_best_63 (tgt := 133) (by decide) ?_
                obtain ⟨v_2202, h_2203⟩ : ∃ v9 : Int32, i_1971 + Int32.ofInt 1 = v9 := ⟨_, rfl⟩
                have h_2204 := add_v (b := 1) h_2203 (by first | omega | (simp only [Int32.lt_iff_toInt_lt, Int32.le_iff_toInt_le, Int32.reduceToInt, ← Int32.toInt_inj, true_and, and_true, or_true, true_or, false_or, or_false, false_and, and_false, not_true_eq_false, not_false_eq_true] <;> omega)) (by first | omega | (simp only [Int32.lt_iff_toInt_lt, Int32.le_iff_toInt_le, Int32.reduceToInt, ← Int32.toInt_inj, true_and, and_true, or_true, true_or, false_or, or_false, false_and, and_false, not_true_eq_false, not_false_eq_true] <;> omega))
                simp only [Int32.reduceToInt] at h_2204
                refine v_iinc hC dX12_best_133 (k := 0) rfl (v := v_2202) h_2203 (by decide) (lv' := [(5, .int v_2202), (4, .int i_1972), (3, .int i_1973), (0, .ref a_0), (1, .int a_1)]) rfl ?_
                refine v_goto hC dX12_best_136 (tgt := 30) (by decide) ?_
                refine v_pick [0, 1, 2, 3, 4] rfl ?_
                have fe_2205 : fld (f_2027 a_0) 20 = (v_2054 : Int32).toInt := by rw [e_2037]; rfl
                exact ih_1983 f_2027 hW_2033 ((hF_1976.tr hF_2034).mono rfl) v_2202 (by first | omega | (simp only [Int32.lt_iff_toInt_lt, Int32.le_iff_toInt_le, Int32.reduceToInt, ← Int32.toInt_inj, true_and, and_true, or_true, true_or, false_or, or_false, false_and, and_false, not_true_eq_false, not_false_eq_true] <;> omega)) i_1972 i_1973 (by first | omega | (simp only [Int32.lt_iff_toInt_lt, Int32.le_iff_toInt_le, Int32.reduceToInt, ← Int32.toInt_inj, true_and, and_true, or_true, true_or, false_or, or_false, false_and, and_false, not_true_eq_false, not_false_eq_true] <;> omega)) (by rw [fe_2205] <;> first | omega | (simp only [Int32.lt_iff_toInt_lt, Int32.le_iff_toInt_le, Int32.reduceToInt, ← Int32.toInt_inj, true_and, and_true, or_true, true_or, false_or, or_false, false_and, and_false, not_true_eq_false, not_false_eq_true] <;> omega)) (by first | omega | (simp only [Int32.lt_iff_toInt_lt, Int32.le_iff_toInt_le, Int32.reduceToInt, ← Int32.toInt_inj, true_and, and_true, or_true, true_or, false_or, or_false, false_and, and_false, not_true_eq_false, not_false_eq_true] <;> omega))
      refine v_pick [0, 1, 2, 4, 5] rfl ?_
      have fe_2206 : fld (f a_0) 20 = (v_43 : Int32).toInt := by rw [e_26]; rfl
      exact lp_1981 8 f hW FR.rf 0 (by decide) 0 (-1) (by decide) (by rw [fe_2206] <;> first | omega | (simp only [Int32.lt_iff_toInt_lt, Int32.le_iff_toInt_le, Int32.reduceToInt, ← Int32.toInt_inj, true_and, and_true, or_true, true_or, false_or, or_false, false_and, and_false, not_true_eq_false, not_false_eq_true] <;> omega)) (by decide)
    · simp only [Int32.lt_iff_toInt_lt, Int32.le_iff_toInt_le, Int32.reduceToInt, ← Int32.toInt_inj] at h_63
      refine v_bipush hC dX12_best_19 (v := (-5)) (by decide) ?_
      exact hR _ _ _ _ _ _ _ dX12_best_21 rfl (Nat.le_of_ble_eq_true rfl) (Nat.le_of_ble_eq_true rfl) ⟨rfl, hW, FR.rf, (by decide), (.inl (by decide))⟩
  · simp only [Int32.lt_iff_toInt_lt, Int32.le_iff_toInt_le, Int32.reduceToInt, ← Int32.toInt_inj] at h_53
    refine v_iload_n hC dX12_best_10 rfl ?_
    exact hR _ _ _ _ _ _ _ dX12_best_11 rfl (Nat.le_of_ble_eq_true rfl) (Nat.le_of_ble_eq_true rfl) ⟨rfl, hW, FR.rf, (by first | omega | (simp only [Int32.lt_iff_toInt_lt, Int32.le_iff_toInt_le, Int32.reduceToInt, ← Int32.toInt_inj, true_and, and_true, or_true, true_or, false_or, or_false, false_and, and_false, not_true_eq_false, not_false_eq_true] <;> omega)), (by first | omega | (simp only [Int32.lt_iff_toInt_lt, Int32.le_iff_toInt_le, Int32.reduceToInt, ← Int32.toInt_inj, true_and, and_true, or_true, true_or, false_or, or_false, false_and, and_false, not_true_eq_false, not_false_eq_true] <;> omega))⟩
set_option maxRecDepth 100000 in
set_option maxHeartbeats 8000000 in
theorem p_X12_lose {l : Launch} {E : Ez} {L : List Nat} {f : Nat → va_E} {T : Nat → va_E → Prop} {a_0 : Nat} {a_1 : Int32} {q : Nat → Nat} {g_w : Nat → Int32} (hW : WT T L f) (k_0 : isM T L E a_0 q) (e_w : f (q 1) = aI E 2076 g_w) (o_w : WOK g_w) : CI l yX12_lose cX12_lose 5 .int 3 0 0 E [.ref a_0, .int a_1] L f (fun r L1 f1 => L = L1 ∧ WT T L f1 ∧ FR [356, 2176] f f1 ∧ (¬ r.toInt = 0 ∨ (0 ≤ a_1.toInt ∧ a_1.toInt ≤ 3))) := by
  refine ci_of (by decide) (Nat.le_of_ble_eq_true rfl) (fun z hz hnm hC hR => ?_)
  have hC : Cx z E cX12_lose RX12 5 3 0 0 := hC
  subst hz
  show V z E 5 0 0 L f 0 [(0, .ref a_0), (1, .int a_1)] []
  obtain ⟨m_1, t_2, nq_21, k_3, k_4, k_5, k_6, k_7, k_8, k_9, k_10, k_11, k_12, k_13, k_14, k_15, k_16, k_17, k_18, k_19, k_20⟩ := id k_0
  obtain ⟨m_22, t_23⟩ := id k_3
  have b_24 := o_w.r0
  have b_25 := o_w.w0
  refine v_aload_n hC dX12_lose_0 rfl ?_
  refine v_iload_n hC dX12_lose_1 rfl ?_
  obtain ⟨v_27, v_28, v_30, v_32, v_34, v_36, v_38, v_39, v_40, v_41, v_43, e_26, b_29, b_31, b_33, b_35, b_37, b_42, b_44⟩ := hW.at m_1 t_2
  refine v_vi hC (rest := []) m_1 e_26 rfl mi_X12_asksCloth ms_X12_asksCloth (p_X12_asksCloth hW k_0 e_w o_w) mx_X12_asksCloth ml_X12_376 (by decide) rfl (cells1 := 0) (slots1 := 0) (by decide) (by decide) (Nat.le_of_ble_eq_true rfl) (Nat.le_of_ble_eq_true rfl) rfl (Nat.le_of_ble_eq_true rfl) dX12_lose_2 (fun r_45 L_46 f_47 h_48 => ?_)
  obtain ⟨rfl, rfl, b_49, h_50⟩ := h_48
  refine v_istore_n hC dX12_lose_5 (by decide) (lv' := [(2, .int r_45), (0, .ref a_0), (1, .int a_1)]) rfl ?_
  refine v_iload_n hC dX12_lose_6 rfl ?_
  refine v_if_ge hC dX12_lose_7 (tgt := 12) (by decide) (fun h_53 => ?_) (fun h_53 => ?_)
  · simp only [Int32.lt_iff_toInt_lt, Int32.le_iff_toInt_le, Int32.reduceToInt, ← Int32.toInt_inj] at h_53
    refine v_aload_n hC dX12_lose_12 rfl ?_
    refine v_iload_n hC dX12_lose_13 rfl ?_
    refine v_vv hC (rest := []) m_1 e_26 rfl mi_X12_takes0 ms_X12_takes0 (p_X12_takes0 hW k_0 (by first | omega | (simp only [Int32.lt_iff_toInt_lt, Int32.le_iff_toInt_le, Int32.reduceToInt, ← Int32.toInt_inj, true_and, and_true, or_true, true_or, false_or, or_false, false_and, and_false, not_true_eq_false, not_false_eq_true] <;> omega)) e_w o_w) mx_X12_takes0 ml_X12_363 (by decide) rfl (cells1 := 0) (slots1 := 0) (by decide) (by decide) (Nat.le_of_ble_eq_true rfl) (Nat.le_of_ble_eq_true rfl) rfl (Nat.le_of_ble_eq_true rfl) dX12_lose_14 (fun L_55 f_56 h_57 => ?_)
    obtain ⟨rfl, hW_58, hF_59⟩ := h_57
    have hf_60 := hF_59.at e_w rfl
    have hf_61 := hF_59.at e_26 rfl
    refine v_aload_n hC dX12_lose_17 rfl ?_
    refine v_vv hC (rest := []) m_1 hf_61 rfl mi_X12_suffers ms_X12_suffers (p_X12_suffers hW_58 k_0 hf_60 o_w) mx_X12_suffers ml_X12_413 (by decide) rfl (cells1 := 0) (slots1 := 0) (by decide) (by decide) (Nat.le_of_ble_eq_true rfl) (Nat.le_of_ble_eq_true rfl) rfl (Nat.le_of_ble_eq_true rfl) dX12_lose_18 (fun L_63 f_64 h_65 => ?_)
    obtain ⟨rfl, hW_66, hF_67⟩ := h_65
    have hf_68 := hF_67.at hf_60 rfl
    have hf_69 := hF_67.at hf_61 rfl
    refine v_aload_n hC dX12_lose_21 rfl ?_
    refine v_iload_n hC dX12_lose_22 rfl ?_
    refine v_vv hC (rest := []) m_1 hf_69 rfl mi_X12_gives ms_X12_gives (p_X12_gives hW_66 k_0 (by first | omega | (simp only [Int32.lt_iff_toInt_lt, Int32.le_iff_toInt_le, Int32.reduceToInt, ← Int32.toInt_inj, true_and, and_true, or_true, true_or, false_or, or_false, false_and, and_false, not_true_eq_false, not_false_eq_true] <;> omega)) hf_68 o_w) mx_X12_gives ml_X12_332 (by decide) rfl (cells1 := 0) (slots1 := 0) (by decide) (by decide) (Nat.le_of_ble_eq_true rfl) (Nat.le_of_ble_eq_true rfl) rfl (Nat.le_of_ble_eq_true rfl) dX12_lose_23 (fun L_71 f_72 h_73 => ?_)
    obtain ⟨rfl, hW_74, hF_75⟩ := h_73
    have hf_76 := hF_75.at hf_69 rfl
    refine v_iconst hC dX12_lose_26 (v := 0) (by decide) ?_
    refine v_istore_n hC dX12_lose_27 (by decide) (lv' := [(3, .int 0), (2, .int r_45), (0, .ref a_0), (1, .int a_1)]) rfl ?_
    refine v_iconst hC dX12_lose_28 (v := 0) (by decide) ?_
    refine v_istore hC dX12_lose_29 (by decide) (lv' := [(4, .int 0), (3, .int 0), (2, .int r_45), (0, .ref a_0), (1, .int a_1)]) rfl ?_
    have lp_416 : ∀ (n_417 : Nat) (i_413 : Int32) (b_415 : (0 ≤ i_413.toInt ∧ i_413.toInt ≤ 256)) (i_414 : Int32) (hm_419 : 256 - i_413.toInt < (n_417 : Int)), V z E 5 0 0 L f_72 31 [(4, .int i_413), (3, .int i_414), (0, .ref a_0)] [] := by
      intro n_417
      induction n_417 with
      | zero =>
        intro i_413 b_415 i_414 hm_419
        exfalso; omega
      | succ n_417 ih_418 =>
        intro i_413 b_415 i_414 hm_419
        refine v_iload hC dX12_lose_31 rfl ?_
        refine v_aload_n hC dX12_lose_33 rfl ?_
        obtain ⟨g_421, e_420, ok_422⟩ := hW_74.at m_22 t_23
        have b_423 := ok_422.r0
        have b_424 := ok_422.w0
        refine v_vi hC (rest := [.int i_413]) m_1 hf_76 rfl mi_X12_area ms_X12_area (p_X12_area hW_74 k_0 e_420 ok_422) mx_X12_area ml_X12_203 (by decide) rfl (cells1 := 0) (slots1 := 0) (by decide) (by decide) (Nat.le_of_ble_eq_true rfl) (Nat.le_of_ble_eq_true rfl) rfl (Nat.le_of_ble_eq_true rfl) dX12_lose_34 (fun r_425 L_426 f_427 h_428 => ?_)
        obtain ⟨rfl, rfl, rfl⟩ := h_428
        have ar_431 := area_v ok_422
        refine v_icmp_ge hC dX12_lose_37 (tgt := 65) (by decide) (fun h_432 => ?_) (fun h_432 => ?_)
        · simp only [Int32.lt_iff_toInt_lt, Int32.le_iff_toInt_le, Int32.reduceToInt, ← Int32.toInt_inj] at h_432
          refine v_iload_n hC dX12_lose_65 rfl ?_
          exact hR _ _ _ _ _ _ _ dX12_lose_66 rfl (Nat.le_of_ble_eq_true rfl) (Nat.le_of_ble_eq_true rfl) ⟨rfl, hW_74, (((hF_59.tr hF_67).tr hF_75).mono rfl), (.inr (by first | omega | (simp only [Int32.lt_iff_toInt_lt, Int32.le_iff_toInt_le, Int32.reduceToInt, ← Int32.toInt_inj, true_and, and_true, or_true, true_or, false_or, or_false, false_and, and_false, not_true_eq_false, not_false_eq_true] <;> omega)))⟩
        · simp only [Int32.lt_iff_toInt_lt, Int32.le_iff_toInt_le, Int32.reduceToInt, ← Int32.toInt_inj] at h_432
          refine v_iload_n hC dX12_lose_40 rfl ?_
          refine v_aload_n hC dX12_lose_41 rfl ?_
          refine v_get hC fl_X12_37 m_1 hf_76 rfl dX12_lose_42 ?_
          refine v_iload hC dX12_lose_45 rfl ?_
          obtain ⟨m_433, t_434⟩ := id k_9
          obtain ⟨g_436, e_435⟩ := hW_74.at m_433 t_434
          obtain ⟨v_437, h_438⟩ : ∃ v9 : Int32, g_436 (i_413 : Int32).toNatClampNeg = v9 := ⟨_, rfl⟩
          refine v_iald hC m_433 e_435 (vp_in_iff.mpr (by first | omega | (simp only [Int32.lt_iff_toInt_lt, Int32.le_iff_toInt_le, Int32.reduceToInt, ← Int32.toInt_inj, true_and, and_true, or_true, true_or, false_or, or_false, false_and, and_false, not_true_eq_false, not_false_eq_true] <;> omega))) h_438 dX12_lose_47 ?_
          refine v_iconst hC dX12_lose_48 (v := 4) (by decide) ?_
          refine v_icmp_ne hC dX12_lose_49 (tgt := 56) (by decide) (fun h_439 => ?_) (fun h_439 => ?_)
          · simp only [Int32.lt_iff_toInt_lt, Int32.le_iff_toInt_le, Int32.reduceToInt, ← Int32.toInt_inj] at h_439
            refine v_iconst hC dX12_lose_56 (v := 0) (by decide) ?_
            obtain ⟨v_440, h_441⟩ : ∃ v9 : Int32, i_414 + 0 = v9 := ⟨_, rfl⟩
            refine v_iadd hC dX12_lose_57 h_441 ?_
            have rg_443 := Int32.toInt_lt i_414
            have rg_444 := Int32.le_toInt i_414
            have h_442 := add_v h_441 (by first | omega | (simp only [Int32.lt_iff_toInt_lt, Int32.le_iff_toInt_le, Int32.reduceToInt, ← Int32.toInt_inj, true_and, and_true, or_true, true_or, false_or, or_false, false_and, and_false, not_true_eq_false, not_false_eq_true] <;> omega)) (by first | omega | (simp only [Int32.lt_iff_toInt_lt, Int32.le_iff_toInt_le, Int32.reduceToInt, ← Int32.toInt_inj, true_and, and_true, or_true, true_or, false_or, or_false, false_and, and_false, not_true_eq_false, not_false_eq_true] <;> omega))
            try simp only [Int32.reduceToInt] at h_442
            refine v_istore_n hC dX12_lose_58 (by decide) (lv' := [(3, .int v_440), (4, .int i_413), (0, .ref a_0)]) rfl ?_
            obtain ⟨v_445, h_446⟩ : ∃ v9 : Int32, i_413 + Int32.ofInt 1 = v9 := ⟨_, rfl⟩
            have h_447 := add_v (b := 1) h_446 (by first | omega | (simp only [Int32.lt_iff_toInt_lt, Int32.le_iff_toInt_le, Int32.reduceToInt, ← Int32.toInt_inj, true_and, and_true, or_true, true_or, false_or, or_false, false_and, and_false, not_true_eq_false, not_false_eq_true] <;> omega)) (by first | omega | (simp only [Int32.lt_iff_toInt_lt, Int32.le_iff_toInt_le, Int32.reduceToInt, ← Int32.toInt_inj, true_and, and_true, or_true, true_or, false_or, or_false, false_and, and_false, not_true_eq_false, not_false_eq_true] <;> omega))
            simp only [Int32.reduceToInt] at h_447
            refine v_iinc hC dX12_lose_59 (k := 1) rfl (v := v_445) h_446 (by decide) (lv' := [(4, .int v_445), (3, .int v_440), (0, .ref a_0)]) rfl ?_
            refine v_goto hC dX12_lose_62 (tgt := 31) (by decide) ?_
            refine v_pick [0, 1, 2] rfl ?_
            exact ih_418 v_445 (by first | omega | (simp only [Int32.lt_iff_toInt_lt, Int32.le_iff_toInt_le, Int32.reduceToInt, ← Int32.toInt_inj, true_and, and_true, or_true, true_or, false_or, or_false, false_and, and_false, not_true_eq_false, not_false_eq_true] <;> omega)) v_440 (by first | omega | (simp only [Int32.lt_iff_toInt_lt, Int32.le_iff_toInt_le, Int32.reduceToInt, ← Int32.toInt_inj, true_and, and_true, or_true, true_or, false_or, or_false, false_and, and_false, not_true_eq_false, not_false_eq_true] <;> omega))
          · simp only [Int32.lt_iff_toInt_lt, Int32.le_iff_toInt_le, Int32.reduceToInt, ← Int32.toInt_inj] at h_439
            refine v_iconst hC dX12_lose_52 (v := 1) (by decide) ?_
            refine v_goto hC dX12_lose_53 (tgt := 57) (by decide) ?_
            obtain ⟨v_448, h_449⟩ : ∃ v9 : Int32, i_414 + 1 = v9 := ⟨_, rfl⟩
            refine v_iadd hC dX12_lose_57 h_449 ?_
            refine v_istore_n hC dX12_lose_58 (by decide) (lv' := [(3, .int v_448), (4, .int i_413), (0, .ref a_0)]) rfl ?_
            obtain ⟨v_451, h_452⟩ : ∃ v9 : Int32, i_413 + Int32.ofInt 1 = v9 := ⟨_, rfl⟩
            have h_453 := add_v (b := 1) h_452 (by first | omega | (simp only [Int32.lt_iff_toInt_lt, Int32.le_iff_toInt_le, Int32.reduceToInt, ← Int32.toInt_inj, true_and, and_true, or_true, true_or, false_or, or_false, false_and, and_false, not_true_eq_false, not_false_eq_true] <;> omega)) (by first | omega | (simp only [Int32.lt_iff_toInt_lt, Int32.le_iff_toInt_le, Int32.reduceToInt, ← Int32.toInt_inj, true_and, and_true, or_true, true_or, false_or, or_false, false_and, and_false, not_true_eq_false, not_false_eq_true] <;> omega))
            simp only [Int32.reduceToInt] at h_453
            refine v_iinc hC dX12_lose_59 (k := 1) rfl (v := v_451) h_452 (by decide) (lv' := [(4, .int v_451), (3, .int v_448), (0, .ref a_0)]) rfl ?_
            refine v_goto hC dX12_lose_62 (tgt := 31) (by decide) ?_
            refine v_pick [0, 1, 2] rfl ?_
            exact ih_418 v_451 (by first | omega | (simp only [Int32.lt_iff_toInt_lt, Int32.le_iff_toInt_le, Int32.reduceToInt, ← Int32.toInt_inj, true_and, and_true, or_true, true_or, false_or, or_false, false_and, and_false, not_true_eq_false, not_false_eq_true] <;> omega)) v_448 (by first | omega | (simp only [Int32.lt_iff_toInt_lt, Int32.le_iff_toInt_le, Int32.reduceToInt, ← Int32.toInt_inj, true_and, and_true, or_true, true_or, false_or, or_false, false_and, and_false, not_true_eq_false, not_false_eq_true] <;> omega))
    refine v_pick [0, 1, 3] rfl ?_
    exact lp_416 258 0 (by decide) 0 (by decide)
  · simp only [Int32.lt_iff_toInt_lt, Int32.le_iff_toInt_le, Int32.reduceToInt, ← Int32.toInt_inj] at h_53
    refine v_iload_n hC dX12_lose_10 rfl ?_
    exact hR _ _ _ _ _ _ _ dX12_lose_11 rfl (Nat.le_of_ble_eq_true rfl) (Nat.le_of_ble_eq_true rfl) ⟨rfl, hW, FR.rf, (by first | omega | (simp only [Int32.lt_iff_toInt_lt, Int32.le_iff_toInt_le, Int32.reduceToInt, ← Int32.toInt_inj, true_and, and_true, or_true, true_or, false_or, or_false, false_and, and_false, not_true_eq_false, not_false_eq_true] <;> omega))⟩
set_option maxRecDepth 100000 in
set_option maxHeartbeats 8000000 in
theorem p_X12_alike {l : Launch} {E : Ez} {L : List Nat} {f : Nat → va_E} {T : Nat → va_E → Prop} {a_0 : Nat} {a_1 : Int32} {a_2 : Int32} {q : Nat → Nat} {g_w : Nat → Int32} (hW : WT T L f) (k_0 : isM T L E a_0 q) (e_w : f (q 1) = aI E 2076 g_w) (o_w : WOK g_w) : CI l yX12_alike cX12_alike 6 .int 3 0 0 E [.ref a_0, .int a_1, .int a_2] L f (fun r L1 f1 => L = L1 ∧ f = f1 ∧ (¬ r.toInt = 0 ∨ (0 ≤ a_1.toInt ∧ a_1.toInt ≤ 3)) ∧ (¬ r.toInt = 0 ∨ (0 ≤ a_2.toInt ∧ a_2.toInt ≤ 3))) := by
  refine ci_of (by decide) (Nat.le_of_ble_eq_true rfl) (fun z hz hnm hC hR => ?_)
  have hC : Cx z E cX12_alike RX12 6 3 0 0 := hC
  subst hz
  show V z E 6 0 0 L f 0 [(0, .ref a_0), (1, .int a_1), (2, .int a_2)] []
  obtain ⟨m_1, t_2, nq_21, k_3, k_4, k_5, k_6, k_7, k_8, k_9, k_10, k_11, k_12, k_13, k_14, k_15, k_16, k_17, k_18, k_19, k_20⟩ := id k_0
  obtain ⟨m_22, t_23⟩ := id k_3
  have b_24 := o_w.r0
  have b_25 := o_w.w0
  refine v_aload_n hC dX12_alike_0 rfl ?_
  refine v_iload_n hC dX12_alike_1 rfl ?_
  refine v_iload_n hC dX12_alike_2 rfl ?_
  obtain ⟨v_27, v_28, v_30, v_32, v_34, v_36, v_38, v_39, v_40, v_41, v_43, e_26, b_29, b_31, b_33, b_35, b_37, b_42, b_44⟩ := hW.at m_1 t_2
  refine v_vi hC (rest := []) m_1 e_26 rfl mi_X12_asksTwo ms_X12_asksTwo (p_X12_asksTwo hW k_0 e_w o_w) mx_X12_asksTwo ml_X12_419 (by decide) rfl (cells1 := 0) (slots1 := 0) (by decide) (by decide) (Nat.le_of_ble_eq_true rfl) (Nat.le_of_ble_eq_true rfl) rfl (Nat.le_of_ble_eq_true rfl) dX12_alike_3 (fun r_45 L_46 f_47 h_48 => ?_)
  obtain ⟨rfl, rfl, b_49, h_50, h_51⟩ := h_48
  refine v_istore_n hC dX12_alike_6 (by decide) (lv' := [(3, .int r_45), (0, .ref a_0), (1, .int a_1), (2, .int a_2)]) rfl ?_
  refine v_iload_n hC dX12_alike_7 rfl ?_
  refine v_if_ge hC dX12_alike_8 (tgt := 13) (by decide) (fun h_54 => ?_) (fun h_54 => ?_)
  · simp only [Int32.lt_iff_toInt_lt, Int32.le_iff_toInt_le, Int32.reduceToInt, ← Int32.toInt_inj] at h_54
    refine v_iconst hC dX12_alike_13 (v := 0) (by decide) ?_
    refine v_istore hC dX12_alike_14 (by decide) (lv' := [(4, .int 0), (3, .int r_45), (0, .ref a_0), (1, .int a_1), (2, .int a_2)]) rfl ?_
    refine v_iconst hC dX12_alike_16 (v := 0) (by decide) ?_
    refine v_istore hC dX12_alike_17 (by decide) (lv' := [(5, .int 0), (4, .int 0), (3, .int r_45), (0, .ref a_0), (1, .int a_1), (2, .int a_2)]) rfl ?_
    have lp_667 : ∀ (n_668 : Nat) (i_664 : Int32) (b_666 : (0 ≤ i_664.toInt ∧ i_664.toInt ≤ 256)) (i_665 : Int32) (hm_670 : 256 - i_664.toInt < (n_668 : Int)), V z E 6 0 0 L f 19 [(5, .int i_664), (4, .int i_665), (0, .ref a_0), (1, .int a_1), (2, .int a_2)] [] := by
      intro n_668
      induction n_668 with
      | zero =>
        intro i_664 b_666 i_665 hm_670
        exfalso; omega
      | succ n_668 ih_669 =>
        intro i_664 b_666 i_665 hm_670
        refine v_iload hC dX12_alike_19 rfl ?_
        refine v_aload_n hC dX12_alike_21 rfl ?_
        refine v_vi hC (rest := [.int i_664]) m_1 e_26 rfl mi_X12_area ms_X12_area (p_X12_area hW k_0 e_w o_w) mx_X12_area ml_X12_203 (by decide) rfl (cells1 := 0) (slots1 := 0) (by decide) (by decide) (Nat.le_of_ble_eq_true rfl) (Nat.le_of_ble_eq_true rfl) rfl (Nat.le_of_ble_eq_true rfl) dX12_alike_22 (fun r_671 L_672 f_673 h_674 => ?_)
        obtain ⟨rfl, rfl, rfl⟩ := h_674
        have ar_677 := area_v o_w
        refine v_icmp_ge hC dX12_alike_25 (tgt := 81) (by decide) (fun h_678 => ?_) (fun h_678 => ?_)
        · simp only [Int32.lt_iff_toInt_lt, Int32.le_iff_toInt_le, Int32.reduceToInt, ← Int32.toInt_inj] at h_678
          refine v_iload hC dX12_alike_81 rfl ?_
          exact hR _ _ _ _ _ _ _ dX12_alike_83 rfl (Nat.le_of_ble_eq_true rfl) (Nat.le_of_ble_eq_true rfl) ⟨rfl, rfl, (.inr (by first | omega | (simp only [Int32.lt_iff_toInt_lt, Int32.le_iff_toInt_le, Int32.reduceToInt, ← Int32.toInt_inj, true_and, and_true, or_true, true_or, false_or, or_false, false_and, and_false, not_true_eq_false, not_false_eq_true] <;> omega))), (.inr (by first | omega | (simp only [Int32.lt_iff_toInt_lt, Int32.le_iff_toInt_le, Int32.reduceToInt, ← Int32.toInt_inj, true_and, and_true, or_true, true_or, false_or, or_false, false_and, and_false, not_true_eq_false, not_false_eq_true] <;> omega)))⟩
        · simp only [Int32.lt_iff_toInt_lt, Int32.le_iff_toInt_le, Int32.reduceToInt, ← Int32.toInt_inj] at h_678
          refine v_iload hC dX12_alike_28 rfl ?_
          refine v_aload_n hC dX12_alike_30 rfl ?_
          refine v_iload hC dX12_alike_31 rfl ?_
          refine v_vi hC (rest := [.int i_665]) m_1 e_26 rfl mi_X12_isFree ms_X12_isFree (p_X12_isFree hW k_0 (by first | omega | (simp only [Int32.lt_iff_toInt_lt, Int32.le_iff_toInt_le, Int32.reduceToInt, ← Int32.toInt_inj, true_and, and_true, or_true, true_or, false_or, or_false, false_and, and_false, not_true_eq_false, not_false_eq_true] <;> omega)) e_w o_w (by first | omega | (simp only [Int32.lt_iff_toInt_lt, Int32.le_iff_toInt_le, Int32.reduceToInt, ← Int32.toInt_inj, true_and, and_true, or_true, true_or, false_or, or_false, false_and, and_false, not_true_eq_false, not_false_eq_true] <;> omega))) mx_X12_isFree ml_X12_206 (by decide) rfl (cells1 := 0) (slots1 := 0) (by decide) (by decide) (Nat.le_of_ble_eq_true rfl) (Nat.le_of_ble_eq_true rfl) rfl (Nat.le_of_ble_eq_true rfl) dX12_alike_33 (fun r_679 L_680 f_681 h_682 => ?_)
          obtain ⟨rfl, rfl, b_683⟩ := h_682
          refine v_if_eq hC dX12_alike_36 (tgt := 71) (by decide) (fun h_686 => ?_) (fun h_686 => ?_)
          · simp only [Int32.lt_iff_toInt_lt, Int32.le_iff_toInt_le, Int32.reduceToInt, ← Int32.toInt_inj] at h_686
            refine v_iconst hC dX12_alike_71 (v := 0) (by decide) ?_
            obtain ⟨v_687, h_688⟩ : ∃ v9 : Int32, i_665 + 0 = v9 := ⟨_, rfl⟩
            refine v_iadd hC dX12_alike_72 h_688 ?_
            have rg_690 := Int32.toInt_lt i_665
            have rg_691 := Int32.le_toInt i_665
            have h_689 := add_v h_688 (by first | omega | (simp only [Int32.lt_iff_toInt_lt, Int32.le_iff_toInt_le, Int32.reduceToInt, ← Int32.toInt_inj, true_and, and_true, or_true, true_or, false_or, or_false, false_and, and_false, not_true_eq_false, not_false_eq_true] <;> omega)) (by first | omega | (simp only [Int32.lt_iff_toInt_lt, Int32.le_iff_toInt_le, Int32.reduceToInt, ← Int32.toInt_inj, true_and, and_true, or_true, true_or, false_or, or_false, false_and, and_false, not_true_eq_false, not_false_eq_true] <;> omega))
            try simp only [Int32.reduceToInt] at h_689
            refine v_istore hC dX12_alike_73 (by decide) (lv' := [(4, .int v_687), (5, .int i_664), (0, .ref a_0), (1, .int a_1), (2, .int a_2)]) rfl ?_
            obtain ⟨v_692, h_693⟩ : ∃ v9 : Int32, i_664 + Int32.ofInt 1 = v9 := ⟨_, rfl⟩
            have h_694 := add_v (b := 1) h_693 (by first | omega | (simp only [Int32.lt_iff_toInt_lt, Int32.le_iff_toInt_le, Int32.reduceToInt, ← Int32.toInt_inj, true_and, and_true, or_true, true_or, false_or, or_false, false_and, and_false, not_true_eq_false, not_false_eq_true] <;> omega)) (by first | omega | (simp only [Int32.lt_iff_toInt_lt, Int32.le_iff_toInt_le, Int32.reduceToInt, ← Int32.toInt_inj, true_and, and_true, or_true, true_or, false_or, or_false, false_and, and_false, not_true_eq_false, not_false_eq_true] <;> omega))
            simp only [Int32.reduceToInt] at h_694
            refine v_iinc hC dX12_alike_75 (k := 1) rfl (v := v_692) h_693 (by decide) (lv' := [(5, .int v_692), (4, .int v_687), (0, .ref a_0), (1, .int a_1), (2, .int a_2)]) rfl ?_
            refine v_goto hC dX12_alike_78 (tgt := 19) (by decide) ?_
            refine v_pick [0, 1, 2, 3, 4] rfl ?_
            exact ih_669 v_692 (by first | omega | (simp only [Int32.lt_iff_toInt_lt, Int32.le_iff_toInt_le, Int32.reduceToInt, ← Int32.toInt_inj, true_and, and_true, or_true, true_or, false_or, or_false, false_and, and_false, not_true_eq_false, not_false_eq_true] <;> omega)) v_687 (by first | omega | (simp only [Int32.lt_iff_toInt_lt, Int32.le_iff_toInt_le, Int32.reduceToInt, ← Int32.toInt_inj, true_and, and_true, or_true, true_or, false_or, or_false, false_and, and_false, not_true_eq_false, not_false_eq_true] <;> omega))
          · simp only [Int32.lt_iff_toInt_lt, Int32.le_iff_toInt_le, Int32.reduceToInt, ← Int32.toInt_inj] at h_686
            refine v_aload_n hC dX12_alike_39 rfl ?_
            refine v_iload_n hC dX12_alike_40 rfl ?_
            refine v_iload hC dX12_alike_41 rfl ?_
            refine v_vi hC (rest := [.int i_665]) m_1 e_26 rfl mi_X12_stands ms_X12_stands (p_X12_stands hW k_0 (by first | omega | (simp only [Int32.lt_iff_toInt_lt, Int32.le_iff_toInt_le, Int32.reduceToInt, ← Int32.toInt_inj, true_and, and_true, or_true, true_or, false_or, or_false, false_and, and_false, not_true_eq_false, not_false_eq_true] <;> omega)) (by first | omega | (simp only [Int32.lt_iff_toInt_lt, Int32.le_iff_toInt_le, Int32.reduceToInt, ← Int32.toInt_inj, true_and, and_true, or_true, true_or, false_or, or_false, false_and, and_false, not_true_eq_false, not_false_eq_true] <;> omega)) e_w o_w) mx_X12_stands ml_X12_301 (by decide) rfl (cells1 := 0) (slots1 := 0) (by decide) (by decide) (Nat.le_of_ble_eq_true rfl) (Nat.le_of_ble_eq_true rfl) rfl (Nat.le_of_ble_eq_true rfl) dX12_alike_43 (fun r_695 L_696 f_697 h_698 => ?_)
            obtain ⟨rfl, rfl⟩ := h_698
            refine v_iconst hC dX12_alike_46 (v := 4) (by decide) ?_
            refine v_icmp_eq hC dX12_alike_47 (tgt := 71) (by decide) (fun h_701 => ?_) (fun h_701 => ?_)
            · simp only [Int32.lt_iff_toInt_lt, Int32.le_iff_toInt_le, Int32.reduceToInt, ← Int32.toInt_inj] at h_701
              refine v_iconst hC dX12_alike_71 (v := 0) (by decide) ?_
              obtain ⟨v_702, h_703⟩ : ∃ v9 : Int32, i_665 + 0 = v9 := ⟨_, rfl⟩
              refine v_iadd hC dX12_alike_72 h_703 ?_
              have rg_705 := Int32.toInt_lt i_665
              have rg_706 := Int32.le_toInt i_665
              have h_704 := add_v h_703 (by first | omega | (simp only [Int32.lt_iff_toInt_lt, Int32.le_iff_toInt_le, Int32.reduceToInt, ← Int32.toInt_inj, true_and, and_true, or_true, true_or, false_or, or_false, false_and, and_false, not_true_eq_false, not_false_eq_true] <;> omega)) (by first | omega | (simp only [Int32.lt_iff_toInt_lt, Int32.le_iff_toInt_le, Int32.reduceToInt, ← Int32.toInt_inj, true_and, and_true, or_true, true_or, false_or, or_false, false_and, and_false, not_true_eq_false, not_false_eq_true] <;> omega))
              try simp only [Int32.reduceToInt] at h_704
              refine v_istore hC dX12_alike_73 (by decide) (lv' := [(4, .int v_702), (5, .int i_664), (0, .ref a_0), (1, .int a_1), (2, .int a_2)]) rfl ?_
              obtain ⟨v_707, h_708⟩ : ∃ v9 : Int32, i_664 + Int32.ofInt 1 = v9 := ⟨_, rfl⟩
              have h_709 := add_v (b := 1) h_708 (by first | omega | (simp only [Int32.lt_iff_toInt_lt, Int32.le_iff_toInt_le, Int32.reduceToInt, ← Int32.toInt_inj, true_and, and_true, or_true, true_or, false_or, or_false, false_and, and_false, not_true_eq_false, not_false_eq_true] <;> omega)) (by first | omega | (simp only [Int32.lt_iff_toInt_lt, Int32.le_iff_toInt_le, Int32.reduceToInt, ← Int32.toInt_inj, true_and, and_true, or_true, true_or, false_or, or_false, false_and, and_false, not_true_eq_false, not_false_eq_true] <;> omega))
              simp only [Int32.reduceToInt] at h_709
              refine v_iinc hC dX12_alike_75 (k := 1) rfl (v := v_707) h_708 (by decide) (lv' := [(5, .int v_707), (4, .int v_702), (0, .ref a_0), (1, .int a_1), (2, .int a_2)]) rfl ?_
              refine v_goto hC dX12_alike_78 (tgt := 19) (by decide) ?_
              refine v_pick [0, 1, 2, 3, 4] rfl ?_
              exact ih_669 v_707 (by first | omega | (simp only [Int32.lt_iff_toInt_lt, Int32.le_iff_toInt_le, Int32.reduceToInt, ← Int32.toInt_inj, true_and, and_true, or_true, true_or, false_or, or_false, false_and, and_false, not_true_eq_false, not_false_eq_true] <;> omega)) v_702 (by first | omega | (simp only [Int32.lt_iff_toInt_lt, Int32.le_iff_toInt_le, Int32.reduceToInt, ← Int32.toInt_inj, true_and, and_true, or_true, true_or, false_or, or_false, false_and, and_false, not_true_eq_false, not_false_eq_true] <;> omega))
            · simp only [Int32.lt_iff_toInt_lt, Int32.le_iff_toInt_le, Int32.reduceToInt, ← Int32.toInt_inj] at h_701
              refine v_aload_n hC dX12_alike_50 rfl ?_
              refine v_iload_n hC dX12_alike_51 rfl ?_
              refine v_iload hC dX12_alike_52 rfl ?_
              refine v_vi hC (rest := [.int i_665]) m_1 e_26 rfl mi_X12_stands ms_X12_stands (p_X12_stands hW k_0 (by first | omega | (simp only [Int32.lt_iff_toInt_lt, Int32.le_iff_toInt_le, Int32.reduceToInt, ← Int32.toInt_inj, true_and, and_true, or_true, true_or, false_or, or_false, false_and, and_false, not_true_eq_false, not_false_eq_true] <;> omega)) (by first | omega | (simp only [Int32.lt_iff_toInt_lt, Int32.le_iff_toInt_le, Int32.reduceToInt, ← Int32.toInt_inj, true_and, and_true, or_true, true_or, false_or, or_false, false_and, and_false, not_true_eq_false, not_false_eq_true] <;> omega)) e_w o_w) mx_X12_stands ml_X12_301 (by decide) rfl (cells1 := 0) (slots1 := 0) (by decide) (by decide) (Nat.le_of_ble_eq_true rfl) (Nat.le_of_ble_eq_true rfl) rfl (Nat.le_of_ble_eq_true rfl) dX12_alike_54 (fun r_710 L_711 f_712 h_713 => ?_)
              obtain ⟨rfl, rfl⟩ := h_713
              refine v_aload_n hC dX12_alike_57 rfl ?_
              refine v_iload_n hC dX12_alike_58 rfl ?_
              refine v_iload hC dX12_alike_59 rfl ?_
              refine v_vi hC (rest := [.int r_710, .int i_665]) m_1 e_26 rfl mi_X12_stands ms_X12_stands (p_X12_stands hW k_0 (by first | omega | (simp only [Int32.lt_iff_toInt_lt, Int32.le_iff_toInt_le, Int32.reduceToInt, ← Int32.toInt_inj, true_and, and_true, or_true, true_or, false_or, or_false, false_and, and_false, not_true_eq_false, not_false_eq_true] <;> omega)) (by first | omega | (simp only [Int32.lt_iff_toInt_lt, Int32.le_iff_toInt_le, Int32.reduceToInt, ← Int32.toInt_inj, true_and, and_true, or_true, true_or, false_or, or_false, false_and, and_false, not_true_eq_false, not_false_eq_true] <;> omega)) e_w o_w) mx_X12_stands ml_X12_301 (by decide) rfl (cells1 := 0) (slots1 := 0) (by decide) (by decide) (Nat.le_of_ble_eq_true rfl) (Nat.le_of_ble_eq_true rfl) rfl (Nat.le_of_ble_eq_true rfl) dX12_alike_61 (fun r_716 L_717 f_718 h_719 => ?_)
              obtain ⟨rfl, rfl⟩ := h_719
              refine v_icmp_ne hC dX12_alike_64 (tgt := 71) (by decide) (fun h_722 => ?_) (fun h_722 => ?_)
              · simp only [Int32.lt_iff_toInt_lt, Int32.le_iff_toInt_le, Int32.reduceToInt, ← Int32.toInt_inj] at h_722
                refine v_iconst hC dX12_alike_71 (v := 0) (by decide) ?_
                obtain ⟨v_723, h_724⟩ : ∃ v9 : Int32, i_665 + 0 = v9 := ⟨_, rfl⟩
                refine v_iadd hC dX12_alike_72 h_724 ?_
                have rg_726 := Int32.toInt_lt i_665
                have rg_727 := Int32.le_toInt i_665
                have h_725 := add_v h_724 (by first | omega | (simp only [Int32.lt_iff_toInt_lt, Int32.le_iff_toInt_le, Int32.reduceToInt, ← Int32.toInt_inj, true_and, and_true, or_true, true_or, false_or, or_false, false_and, and_false, not_true_eq_false, not_false_eq_true] <;> omega)) (by first | omega | (simp only [Int32.lt_iff_toInt_lt, Int32.le_iff_toInt_le, Int32.reduceToInt, ← Int32.toInt_inj, true_and, and_true, or_true, true_or, false_or, or_false, false_and, and_false, not_true_eq_false, not_false_eq_true] <;> omega))
                try simp only [Int32.reduceToInt] at h_725
                refine v_istore hC dX12_alike_73 (by decide) (lv' := [(4, .int v_723), (5, .int i_664), (0, .ref a_0), (1, .int a_1), (2, .int a_2)]) rfl ?_
                obtain ⟨v_728, h_729⟩ : ∃ v9 : Int32, i_664 + Int32.ofInt 1 = v9 := ⟨_, rfl⟩
                have h_730 := add_v (b := 1) h_729 (by first | omega | (simp only [Int32.lt_iff_toInt_lt, Int32.le_iff_toInt_le, Int32.reduceToInt, ← Int32.toInt_inj, true_and, and_true, or_true, true_or, false_or, or_false, false_and, and_false, not_true_eq_false, not_false_eq_true] <;> omega)) (by first | omega | (simp only [Int32.lt_iff_toInt_lt, Int32.le_iff_toInt_le, Int32.reduceToInt, ← Int32.toInt_inj, true_and, and_true, or_true, true_or, false_or, or_false, false_and, and_false, not_true_eq_false, not_false_eq_true] <;> omega))
                simp only [Int32.reduceToInt] at h_730
                refine v_iinc hC dX12_alike_75 (k := 1) rfl (v := v_728) h_729 (by decide) (lv' := [(5, .int v_728), (4, .int v_723), (0, .ref a_0), (1, .int a_1), (2, .int a_2)]) rfl ?_
                refine v_goto hC dX12_alike_78 (tgt := 19) (by decide) ?_
                refine v_pick [0, 1, 2, 3, 4] rfl ?_
                exact ih_669 v_728 (by first | omega | (simp only [Int32.lt_iff_toInt_lt, Int32.le_iff_toInt_le, Int32.reduceToInt, ← Int32.toInt_inj, true_and, and_true, or_true, true_or, false_or, or_false, false_and, and_false, not_true_eq_false, not_false_eq_true] <;> omega)) v_723 (by first | omega | (simp only [Int32.lt_iff_toInt_lt, Int32.le_iff_toInt_le, Int32.reduceToInt, ← Int32.toInt_inj, true_and, and_true, or_true, true_or, false_or, or_false, false_and, and_false, not_true_eq_false, not_false_eq_true] <;> omega))
              · simp only [Int32.lt_iff_toInt_lt, Int32.le_iff_toInt_le, Int32.reduceToInt, ← Int32.toInt_inj] at h_722
                refine v_iconst hC dX12_alike_67 (v := 1) (by decide) ?_
                refine v_goto hC dX12_alike_68 (tgt := 72) (by decide) ?_
                obtain ⟨v_731, h_732⟩ : ∃ v9 : Int32, i_665 + 1 = v9 := ⟨_, rfl⟩
                refine v_iadd hC dX12_alike_72 h_732 ?_
                refine v_istore hC dX12_alike_73 (by decide) (lv' := [(4, .int v_731), (5, .int i_664), (0, .ref a_0), (1, .int a_1), (2, .int a_2)]) rfl ?_
                obtain ⟨v_734, h_735⟩ : ∃ v9 : Int32, i_664 + Int32.ofInt 1 = v9 := ⟨_, rfl⟩
                have h_736 := add_v (b := 1) h_735 (by first | omega | (simp only [Int32.lt_iff_toInt_lt, Int32.le_iff_toInt_le, Int32.reduceToInt, ← Int32.toInt_inj, true_and, and_true, or_true, true_or, false_or, or_false, false_and, and_false, not_true_eq_false, not_false_eq_true] <;> omega)) (by first | omega | (simp only [Int32.lt_iff_toInt_lt, Int32.le_iff_toInt_le, Int32.reduceToInt, ← Int32.toInt_inj, true_and, and_true, or_true, true_or, false_or, or_false, false_and, and_false, not_true_eq_false, not_false_eq_true] <;> omega))
                simp only [Int32.reduceToInt] at h_736
                refine v_iinc hC dX12_alike_75 (k := 1) rfl (v := v_734) h_735 (by decide) (lv' := [(5, .int v_734), (4, .int v_731), (0, .ref a_0), (1, .int a_1), (2, .int a_2)]) rfl ?_
                refine v_goto hC dX12_alike_78 (tgt := 19) (by decide) ?_
                refine v_pick [0, 1, 2, 3, 4] rfl ?_
                exact ih_669 v_734 (by first | omega | (simp only [Int32.lt_iff_toInt_lt, Int32.le_iff_toInt_le, Int32.reduceToInt, ← Int32.toInt_inj, true_and, and_true, or_true, true_or, false_or, or_false, false_and, and_false, not_true_eq_false, not_false_eq_true] <;> omega)) v_731 (by first | omega | (simp only [Int32.lt_iff_toInt_lt, Int32.le_iff_toInt_le, Int32.reduceToInt, ← Int32.toInt_inj, true_and, and_true, or_true, true_or, false_or, or_false, false_and, and_false, not_true_eq_false, not_false_eq_true] <;> omega))
    refine v_pick [0, 1, 3, 4, 5] rfl ?_
    exact lp_667 258 0 (by decide) 0 (by decide)
  · simp only [Int32.lt_iff_toInt_lt, Int32.le_iff_toInt_le, Int32.reduceToInt, ← Int32.toInt_inj] at h_54
    refine v_iload_n hC dX12_alike_11 rfl ?_
    exact hR _ _ _ _ _ _ _ dX12_alike_12 rfl (Nat.le_of_ble_eq_true rfl) (Nat.le_of_ble_eq_true rfl) ⟨rfl, rfl, (by first | omega | (simp only [Int32.lt_iff_toInt_lt, Int32.le_iff_toInt_le, Int32.reduceToInt, ← Int32.toInt_inj, true_and, and_true, or_true, true_or, false_or, or_false, false_and, and_false, not_true_eq_false, not_false_eq_true] <;> omega)), (by first | omega | (simp only [Int32.lt_iff_toInt_lt, Int32.le_iff_toInt_le, Int32.reduceToInt, ← Int32.toInt_inj, true_and, and_true, or_true, true_or, false_or, or_false, false_and, and_false, not_true_eq_false, not_false_eq_true] <;> omega))⟩
set_option maxRecDepth 100000 in
set_option maxHeartbeats 8000000 in
theorem p_X12_same {l : Launch} {E : Ez} {L : List Nat} {f : Nat → va_E} {T : Nat → va_E → Prop} {a_0 : Nat} {a_1 : Int32} {a_2 : Int32} {a_3 : Int32} {q : Nat → Nat} {g_w : Nat → Int32} (hW : WT T L f) (k_0 : isM T L E a_0 q) (e_w : f (q 1) = aI E 2076 g_w) (o_w : WOK g_w) : CI l yX12_same cX12_same 8 .int 4 0 0 E [.ref a_0, .int a_1, .int a_2, .int a_3] L f (fun r L1 f1 => L = L1 ∧ WT T L f1 ∧ FR [12, 356] f f1 ∧ (¬ r.toInt = 0 ∨ (0 ≤ a_1.toInt ∧ a_1.toInt ≤ 3)) ∧ (¬ r.toInt = 0 ∨ (0 ≤ a_2.toInt ∧ a_2.toInt ≤ 3)) ∧ (¬ r.toInt = 0 ∨ (0 ≤ a_3.toInt ∧ a_3.toInt ≤ 5))) := by
  refine ci_of (by decide) (Nat.le_of_ble_eq_true rfl) (fun z hz hnm hC hR => ?_)
  have hC : Cx z E cX12_same RX12 8 4 0 0 := hC
  subst hz
  show V z E 8 0 0 L f 0 [(0, .ref a_0), (1, .int a_1), (2, .int a_2), (3, .int a_3)] []
  obtain ⟨m_1, t_2, nq_21, k_3, k_4, k_5, k_6, k_7, k_8, k_9, k_10, k_11, k_12, k_13, k_14, k_15, k_16, k_17, k_18, k_19, k_20⟩ := id k_0
  obtain ⟨m_22, t_23⟩ := id k_3
  have b_24 := o_w.r0
  have b_25 := o_w.w0
  refine v_iload_n hC dX12_same_0 rfl ?_
  refine v_si hC (rest := []) mt_X12_isWay (p_X12_isWay hW) mx_X12_isWay ml_X12_221 (by decide) rfl (cells1 := 0) (slots1 := 0) (by decide) (by decide) (Nat.le_of_ble_eq_true rfl) (Nat.le_of_ble_eq_true rfl) rfl (Nat.le_of_ble_eq_true rfl) dX12_same_1 (fun r_26 L_27 f_28 h_29 => ?_)
  obtain ⟨rfl, rfl, b_30, h_31⟩ := h_29
  refine v_if_ne hC dX12_same_4 (tgt := 10) (by decide) (fun h_34 => ?_) (fun h_34 => ?_)
  · simp only [Int32.lt_iff_toInt_lt, Int32.le_iff_toInt_le, Int32.reduceToInt, ← Int32.toInt_inj] at h_34
    refine v_aload_n hC dX12_same_10 rfl ?_
    refine v_iload_n hC dX12_same_11 rfl ?_
    refine v_iload_n hC dX12_same_12 rfl ?_
    obtain ⟨v_36, v_37, v_39, v_41, v_43, v_45, v_47, v_48, v_49, v_50, v_52, e_35, b_38, b_40, b_42, b_44, b_46, b_51, b_53⟩ := hW.at m_1 t_2
    refine v_vi hC (rest := []) m_1 e_35 rfl mi_X12_asksTwo ms_X12_asksTwo (p_X12_asksTwo hW k_0 e_w o_w) mx_X12_asksTwo ml_X12_419 (by decide) rfl (cells1 := 0) (slots1 := 0) (by decide) (by decide) (Nat.le_of_ble_eq_true rfl) (Nat.le_of_ble_eq_true rfl) rfl (Nat.le_of_ble_eq_true rfl) dX12_same_13 (fun r_54 L_55 f_56 h_57 => ?_)
    obtain ⟨rfl, rfl, b_58, h_59, h_60⟩ := h_57
    refine v_istore hC dX12_same_16 (by decide) (lv' := [(4, .int r_54), (0, .ref a_0), (1, .int a_1), (2, .int a_2), (3, .int a_3)]) rfl ?_
    refine v_iload hC dX12_same_18 rfl ?_
    refine v_if_ge hC dX12_same_20 (tgt := 26) (by decide) (fun h_63 => ?_) (fun h_63 => ?_)
    · simp only [Int32.lt_iff_toInt_lt, Int32.le_iff_toInt_le, Int32.reduceToInt, ← Int32.toInt_inj] at h_63
      refine v_aload_n hC dX12_same_26 rfl ?_
      refine v_iload_n hC dX12_same_27 rfl ?_
      refine v_vi hC (rest := []) m_1 e_35 rfl mi_X12_isTold ms_X12_isTold (p_X12_isTold hW k_0 (by first | omega | (simp only [Int32.lt_iff_toInt_lt, Int32.le_iff_toInt_le, Int32.reduceToInt, ← Int32.toInt_inj, true_and, and_true, or_true, true_or, false_or, or_false, false_and, and_false, not_true_eq_false, not_false_eq_true] <;> omega)) e_w o_w) mx_X12_isTold ml_X12_354 (by decide) rfl (cells1 := 0) (slots1 := 0) (by decide) (by decide) (Nat.le_of_ble_eq_true rfl) (Nat.le_of_ble_eq_true rfl) rfl (Nat.le_of_ble_eq_true rfl) dX12_same_28 (fun r_64 L_65 f_66 h_67 => ?_)
      obtain ⟨rfl, rfl, b_68, x_69⟩ := h_67
      try simp only [Int32.reduceToInt, Int64.reduceToInt] at x_69
      refine v_if_ne hC dX12_same_31 (tgt := 37) (by decide) (fun h_72 => ?_) (fun h_72 => ?_)
      · simp only [Int32.lt_iff_toInt_lt, Int32.le_iff_toInt_le, Int32.reduceToInt, ← Int32.toInt_inj] at h_72
        refine v_aload_n hC dX12_same_37 rfl ?_
        refine v_iload_n hC dX12_same_38 rfl ?_
        refine v_vi hC (rest := []) m_1 e_35 rfl mi_X12_roomOf ms_X12_roomOf (p_X12_roomOf hW k_0 (by first | omega | (simp only [Int32.lt_iff_toInt_lt, Int32.le_iff_toInt_le, Int32.reduceToInt, ← Int32.toInt_inj, true_and, and_true, or_true, true_or, false_or, or_false, false_and, and_false, not_true_eq_false, not_false_eq_true] <;> omega)) e_w o_w (by first | omega | (simp only [Int32.lt_iff_toInt_lt, Int32.le_iff_toInt_le, Int32.reduceToInt, ← Int32.toInt_inj, true_and, and_true, or_true, true_or, false_or, or_false, false_and, and_false, not_true_eq_false, not_false_eq_true] <;> omega))) mx_X12_roomOf ml_X12_241 (by decide) rfl (cells1 := 0) (slots1 := 0) (by decide) (by decide) (Nat.le_of_ble_eq_true rfl) (Nat.le_of_ble_eq_true rfl) rfl (Nat.le_of_ble_eq_true rfl) dX12_same_39 (fun r_73 L_74 f_75 h_76 => ?_)
        obtain ⟨rfl, hW_81, hF_82, b_77, x_78, x_79, x_80⟩ := h_76
        have fe_83 : fld (f a_0) 20 = (v_52 : Int32).toInt := by rw [e_35]; rfl
        have hf_84 := hF_82.at e_w rfl
        obtain ⟨v_86, v_87, v_89, v_91, v_93, v_95, v_97, v_98, v_99, v_100, v_102, e_85, b_88, b_90, b_92, b_94, b_96, b_101, b_103⟩ := hW_81.at m_1 t_2
        have fe_104 : fld (f_75 a_0) 20 = (v_102 : Int32).toInt := by rw [e_85]; rfl
        rw [fe_104, fe_83] at x_80
        clear fe_83 fe_104
        try simp only [Int32.reduceToInt, Int64.reduceToInt] at x_78
        try simp only [Int32.reduceToInt, Int64.reduceToInt] at x_79
        try simp only [Int32.reduceToInt, Int64.reduceToInt] at x_80
        refine v_istore hC dX12_same_42 (by decide) (lv' := [(5, .int r_73), (4, .int r_54), (0, .ref a_0), (1, .int a_1), (2, .int a_2), (3, .int a_3)]) rfl ?_
        refine v_aload_n hC dX12_same_44 rfl ?_
        refine v_iload_n hC dX12_same_45 rfl ?_
        refine v_vv hC (rest := []) m_1 e_85 rfl mi_X12_takes0 ms_X12_takes0 (p_X12_takes0 hW_81 k_0 (by first | omega | (simp only [Int32.lt_iff_toInt_lt, Int32.le_iff_toInt_le, Int32.reduceToInt, ← Int32.toInt_inj, true_and, and_true, or_true, true_or, false_or, or_false, false_and, and_false, not_true_eq_false, not_false_eq_true] <;> omega)) hf_84 o_w) mx_X12_takes0 ml_X12_363 (by decide) rfl (cells1 := 0) (slots1 := 0) (by decide) (by decide) (Nat.le_of_ble_eq_true rfl) (Nat.le_of_ble_eq_true rfl) rfl (Nat.le_of_ble_eq_true rfl) dX12_same_46 (fun L_106 f_107 h_108 => ?_)
        obtain ⟨rfl, hW_109, hF_110⟩ := h_108
        have hf_111 := hF_110.at hf_84 rfl
        have hf_112 := hF_110.at e_85 rfl
        refine v_iconst hC dX12_same_49 (v := 0) (by decide) ?_
        refine v_istore hC dX12_same_50 (by decide) (lv' := [(6, .int 0), (5, .int r_73), (4, .int r_54), (0, .ref a_0), (1, .int a_1), (2, .int a_2), (3, .int a_3)]) rfl ?_
        have lp_2078 : ∀ (n_2079 : Nat) (f_2072 : Nat → va_E) (hW_2073 : WT T L f_2072) (hF_2074 : FR [356] f_107 f_2072) (i_2071 : Int32) (b_2077 : (0 ≤ i_2071.toInt ∧ i_2071.toInt ≤ 256)) (hm_2081 : 256 - i_2071.toInt < (n_2079 : Int)), V z E 8 0 0 L f_2072 52 [(6, .int i_2071), (5, .int r_73), (0, .ref a_0), (2, .int a_2), (3, .int a_3)] [] := by
          intro n_2079
          induction n_2079 with
          | zero =>
            intro f_2072 hW_2073 hF_2074 i_2071 b_2077 hm_2081
            have hf_2075 := hF_2074.at hf_111 rfl
            have hf_2076 := hF_2074.at hf_112 rfl
            exfalso; omega
          | succ n_2079 ih_2080 =>
            intro f_2072 hW_2073 hF_2074 i_2071 b_2077 hm_2081
            have hf_2075 := hF_2074.at hf_111 rfl
            have hf_2076 := hF_2074.at hf_112 rfl
            refine v_iload hC dX12_same_52 rfl ?_
            refine v_iload hC dX12_same_54 rfl ?_
            refine v_icmp_ge hC dX12_same_56 (tgt := 79) (by decide) (fun h_2082 => ?_) (fun h_2082 => ?_)
            · simp only [Int32.lt_iff_toInt_lt, Int32.le_iff_toInt_le, Int32.reduceToInt, ← Int32.toInt_inj] at h_2082
              refine v_aload_n hC dX12_same_79 rfl ?_
              refine v_iload_n hC dX12_same_80 rfl ?_
              refine v_vv hC (rest := []) m_1 hf_2076 rfl mi_X12_takes0 ms_X12_takes0 (p_X12_takes0 hW_2073 k_0 (by first | omega | (simp only [Int32.lt_iff_toInt_lt, Int32.le_iff_toInt_le, Int32.reduceToInt, ← Int32.toInt_inj, true_and, and_true, or_true, true_or, false_or, or_false, false_and, and_false, not_true_eq_false, not_false_eq_true] <;> omega)) hf_2075 o_w) mx_X12_takes0 ml_X12_363 (by decide) rfl (cells1 := 0) (slots1 := 0) (by decide) (by decide) (Nat.le_of_ble_eq_true rfl) (Nat.le_of_ble_eq_true rfl) rfl (Nat.le_of_ble_eq_true rfl) dX12_same_81 (fun L_2106 f_2107 h_2108 => ?_)
              obtain ⟨rfl, hW_2109, hF_2110⟩ := h_2108
              have hf_2111 := hF_2110.at hf_2075 rfl
              have hf_2112 := hF_2110.at hf_2076 rfl
              refine v_iconst hC dX12_same_84 (v := 0) (by decide) ?_
              refine v_istore hC dX12_same_85 (by decide) (lv' := [(6, .int 0), (5, .int r_73), (0, .ref a_0), (2, .int a_2), (3, .int a_3)]) rfl ?_
              refine v_iconst hC dX12_same_87 (v := 0) (by decide) ?_
              refine v_istore hC dX12_same_88 (by decide) (lv' := [(7, .int 0), (6, .int 0), (5, .int r_73), (0, .ref a_0), (2, .int a_2), (3, .int a_3)]) rfl ?_
              have lp_2499 : ∀ (n_2500 : Nat) (i_2496 : Int32) (b_2498 : (0 ≤ i_2496.toInt ∧ i_2496.toInt ≤ 256)) (i_2497 : Int32) (hm_2502 : 256 - i_2496.toInt < (n_2500 : Int)), V z E 8 0 0 L f_2107 90 [(7, .int i_2496), (6, .int i_2497), (5, .int r_73), (0, .ref a_0), (3, .int a_3)] [] := by
                intro n_2500
                induction n_2500 with
                | zero =>
                  intro i_2496 b_2498 i_2497 hm_2502
                  exfalso; omega
                | succ n_2500 ih_2501 =>
                  intro i_2496 b_2498 i_2497 hm_2502
                  refine v_iload hC dX12_same_90 rfl ?_
                  refine v_iload hC dX12_same_92 rfl ?_
                  refine v_icmp_ge hC dX12_same_94 (tgt := 141) (by decide) (fun h_2503 => ?_) (fun h_2503 => ?_)
                  · simp only [Int32.lt_iff_toInt_lt, Int32.le_iff_toInt_le, Int32.reduceToInt, ← Int32.toInt_inj] at h_2503
                    refine v_iload hC dX12_same_141 rfl ?_
                    exact hR _ _ _ _ _ _ _ dX12_same_143 rfl (Nat.le_of_ble_eq_true rfl) (Nat.le_of_ble_eq_true rfl) ⟨rfl, hW_2109, ((((hF_82.tr hF_110).tr hF_2074).tr hF_2110).mono rfl), (.inr (by first | omega | (simp only [Int32.lt_iff_toInt_lt, Int32.le_iff_toInt_le, Int32.reduceToInt, ← Int32.toInt_inj, true_and, and_true, or_true, true_or, false_or, or_false, false_and, and_false, not_true_eq_false, not_false_eq_true] <;> omega))), (.inr (by first | omega | (simp only [Int32.lt_iff_toInt_lt, Int32.le_iff_toInt_le, Int32.reduceToInt, ← Int32.toInt_inj, true_and, and_true, or_true, true_or, false_or, or_false, false_and, and_false, not_true_eq_false, not_false_eq_true] <;> omega))), (.inr (by first | omega | (simp only [Int32.lt_iff_toInt_lt, Int32.le_iff_toInt_le, Int32.reduceToInt, ← Int32.toInt_inj, true_and, and_true, or_true, true_or, false_or, or_false, false_and, and_false, not_true_eq_false, not_false_eq_true] <;> omega)))⟩
                  · simp only [Int32.lt_iff_toInt_lt, Int32.le_iff_toInt_le, Int32.reduceToInt, ← Int32.toInt_inj] at h_2503
                    refine v_iload hC dX12_same_97 rfl ?_
                    refine v_aload_n hC dX12_same_99 rfl ?_
                    refine v_get hC fl_X12_58 m_1 hf_2112 rfl dX12_same_100 ?_
                    refine v_iload hC dX12_same_103 rfl ?_
                    obtain ⟨m_2504, t_2505⟩ := id k_15
                    obtain ⟨g_2507, e_2506⟩ := hW_2109.at m_2504 t_2505
                    obtain ⟨v_2508, h_2509⟩ : ∃ v9 : Int32, g_2507 (i_2496 : Int32).toNatClampNeg = v9 := ⟨_, rfl⟩
                    refine v_iald hC m_2504 e_2506 (vp_in_iff.mpr (by first | omega | (simp only [Int32.lt_iff_toInt_lt, Int32.le_iff_toInt_le, Int32.reduceToInt, ← Int32.toInt_inj, true_and, and_true, or_true, true_or, false_or, or_false, false_and, and_false, not_true_eq_false, not_false_eq_true] <;> omega))) h_2509 dX12_same_105 ?_
                    refine v_iconst hC dX12_same_106 (v := 2) (by decide) ?_
                    refine v_icmp_ge hC dX12_same_107 (tgt := 131) (by decide) (fun h_2510 => ?_) (fun h_2510 => ?_)
                    · simp only [Int32.lt_iff_toInt_lt, Int32.le_iff_toInt_le, Int32.reduceToInt, ← Int32.toInt_inj] at h_2510
                      refine v_iconst hC dX12_same_131 (v := 0) (by decide) ?_
                      obtain ⟨v_2511, h_2512⟩ : ∃ v9 : Int32, i_2497 + 0 = v9 := ⟨_, rfl⟩
                      refine v_iadd hC dX12_same_132 h_2512 ?_
                      have rg_2514 := Int32.toInt_lt i_2497
                      have rg_2515 := Int32.le_toInt i_2497
                      have h_2513 := add_v h_2512 (by first | omega | (simp only [Int32.lt_iff_toInt_lt, Int32.le_iff_toInt_le, Int32.reduceToInt, ← Int32.toInt_inj, true_and, and_true, or_true, true_or, false_or, or_false, false_and, and_false, not_true_eq_false, not_false_eq_true] <;> omega)) (by first | omega | (simp only [Int32.lt_iff_toInt_lt, Int32.le_iff_toInt_le, Int32.reduceToInt, ← Int32.toInt_inj, true_and, and_true, or_true, true_or, false_or, or_false, false_and, and_false, not_true_eq_false, not_false_eq_true] <;> omega))
                      try simp only [Int32.reduceToInt] at h_2513
                      refine v_istore hC dX12_same_133 (by decide) (lv' := [(6, .int v_2511), (7, .int i_2496), (5, .int r_73), (0, .ref a_0), (3, .int a_3)]) rfl ?_
                      obtain ⟨v_2516, h_2517⟩ : ∃ v9 : Int32, i_2496 + Int32.ofInt 1 = v9 := ⟨_, rfl⟩
                      have h_2518 := add_v (b := 1) h_2517 (by first | omega | (simp only [Int32.lt_iff_toInt_lt, Int32.le_iff_toInt_le, Int32.reduceToInt, ← Int32.toInt_inj, true_and, and_true, or_true, true_or, false_or, or_false, false_and, and_false, not_true_eq_false, not_false_eq_true] <;> omega)) (by first | omega | (simp only [Int32.lt_iff_toInt_lt, Int32.le_iff_toInt_le, Int32.reduceToInt, ← Int32.toInt_inj, true_and, and_true, or_true, true_or, false_or, or_false, false_and, and_false, not_true_eq_false, not_false_eq_true] <;> omega))
                      simp only [Int32.reduceToInt] at h_2518
                      refine v_iinc hC dX12_same_135 (k := 1) rfl (v := v_2516) h_2517 (by decide) (lv' := [(7, .int v_2516), (6, .int v_2511), (5, .int r_73), (0, .ref a_0), (3, .int a_3)]) rfl ?_
                      refine v_goto hC dX12_same_138 (tgt := 90) (by decide) ?_
                      refine v_pick [0, 1, 2, 3, 4] rfl ?_
                      exact ih_2501 v_2516 (by first | omega | (simp only [Int32.lt_iff_toInt_lt, Int32.le_iff_toInt_le, Int32.reduceToInt, ← Int32.toInt_inj, true_and, and_true, or_true, true_or, false_or, or_false, false_and, and_false, not_true_eq_false, not_false_eq_true] <;> omega)) v_2511 (by first | omega | (simp only [Int32.lt_iff_toInt_lt, Int32.le_iff_toInt_le, Int32.reduceToInt, ← Int32.toInt_inj, true_and, and_true, or_true, true_or, false_or, or_false, false_and, and_false, not_true_eq_false, not_false_eq_true] <;> omega))
                    · simp only [Int32.lt_iff_toInt_lt, Int32.le_iff_toInt_le, Int32.reduceToInt, ← Int32.toInt_inj] at h_2510
                      refine v_aload_n hC dX12_same_110 rfl ?_
                      refine v_get hC fl_X12_58 m_1 hf_2112 rfl dX12_same_111 ?_
                      refine v_iload hC dX12_same_114 rfl ?_
                      obtain ⟨v_2519, h_2520⟩ : ∃ v9 : Int32, g_2507 (i_2496 : Int32).toNatClampNeg = v9 := ⟨_, rfl⟩
                      refine v_iald hC m_2504 e_2506 (vp_in_iff.mpr (by first | omega | (simp only [Int32.lt_iff_toInt_lt, Int32.le_iff_toInt_le, Int32.reduceToInt, ← Int32.toInt_inj, true_and, and_true, or_true, true_or, false_or, or_false, false_and, and_false, not_true_eq_false, not_false_eq_true] <;> omega))) h_2520 dX12_same_116 ?_
                      refine v_aload_n hC dX12_same_117 rfl ?_
                      refine v_iload_n hC dX12_same_118 rfl ?_
                      refine v_iload hC dX12_same_119 rfl ?_
                      refine v_vi hC (rest := [.int v_2519, .int i_2497]) m_1 hf_2112 rfl mi_X12_bitOf ms_X12_bitOf (p_X12_bitOf hW_2109 k_0 (by first | omega | (simp only [Int32.lt_iff_toInt_lt, Int32.le_iff_toInt_le, Int32.reduceToInt, ← Int32.toInt_inj, true_and, and_true, or_true, true_or, false_or, or_false, false_and, and_false, not_true_eq_false, not_false_eq_true] <;> omega)) (by first | omega | (simp only [Int32.lt_iff_toInt_lt, Int32.le_iff_toInt_le, Int32.reduceToInt, ← Int32.toInt_inj, true_and, and_true, or_true, true_or, false_or, or_false, false_and, and_false, not_true_eq_false, not_false_eq_true] <;> omega)) hf_2111 o_w (by first | omega | (simp only [Int32.lt_iff_toInt_lt, Int32.le_iff_toInt_le, Int32.reduceToInt, ← Int32.toInt_inj, true_and, and_true, or_true, true_or, false_or, or_false, false_and, and_false, not_true_eq_false, not_false_eq_true] <;> omega)) (x_78 _ (by omega) (by omega))) mx_X12_bitOf ml_X12_370 (by decide) rfl (cells1 := 0) (slots1 := 0) (by decide) (by decide) (Nat.le_of_ble_eq_true rfl) (Nat.le_of_ble_eq_true rfl) rfl (Nat.le_of_ble_eq_true rfl) dX12_same_121 (fun r_2521 L_2522 f_2523 h_2524 => ?_)
                      obtain ⟨rfl, rfl, b_2525⟩ := h_2524
                      refine v_icmp_ne hC dX12_same_124 (tgt := 131) (by decide) (fun h_2528 => ?_) (fun h_2528 => ?_)
                      · simp only [Int32.lt_iff_toInt_lt, Int32.le_iff_toInt_le, Int32.reduceToInt, ← Int32.toInt_inj] at h_2528
                        refine v_iconst hC dX12_same_131 (v := 0) (by decide) ?_
                        obtain ⟨v_2529, h_2530⟩ : ∃ v9 : Int32, i_2497 + 0 = v9 := ⟨_, rfl⟩
                        refine v_iadd hC dX12_same_132 h_2530 ?_
                        have rg_2532 := Int32.toInt_lt i_2497
                        have rg_2533 := Int32.le_toInt i_2497
                        have h_2531 := add_v h_2530 (by first | omega | (simp only [Int32.lt_iff_toInt_lt, Int32.le_iff_toInt_le, Int32.reduceToInt, ← Int32.toInt_inj, true_and, and_true, or_true, true_or, false_or, or_false, false_and, and_false, not_true_eq_false, not_false_eq_true] <;> omega)) (by first | omega | (simp only [Int32.lt_iff_toInt_lt, Int32.le_iff_toInt_le, Int32.reduceToInt, ← Int32.toInt_inj, true_and, and_true, or_true, true_or, false_or, or_false, false_and, and_false, not_true_eq_false, not_false_eq_true] <;> omega))
                        try simp only [Int32.reduceToInt] at h_2531
                        refine v_istore hC dX12_same_133 (by decide) (lv' := [(6, .int v_2529), (7, .int i_2496), (5, .int r_73), (0, .ref a_0), (3, .int a_3)]) rfl ?_
                        obtain ⟨v_2534, h_2535⟩ : ∃ v9 : Int32, i_2496 + Int32.ofInt 1 = v9 := ⟨_, rfl⟩
                        have h_2536 := add_v (b := 1) h_2535 (by first | omega | (simp only [Int32.lt_iff_toInt_lt, Int32.le_iff_toInt_le, Int32.reduceToInt, ← Int32.toInt_inj, true_and, and_true, or_true, true_or, false_or, or_false, false_and, and_false, not_true_eq_false, not_false_eq_true] <;> omega)) (by first | omega | (simp only [Int32.lt_iff_toInt_lt, Int32.le_iff_toInt_le, Int32.reduceToInt, ← Int32.toInt_inj, true_and, and_true, or_true, true_or, false_or, or_false, false_and, and_false, not_true_eq_false, not_false_eq_true] <;> omega))
                        simp only [Int32.reduceToInt] at h_2536
                        refine v_iinc hC dX12_same_135 (k := 1) rfl (v := v_2534) h_2535 (by decide) (lv' := [(7, .int v_2534), (6, .int v_2529), (5, .int r_73), (0, .ref a_0), (3, .int a_3)]) rfl ?_
                        refine v_goto hC dX12_same_138 (tgt := 90) (by decide) ?_
                        refine v_pick [0, 1, 2, 3, 4] rfl ?_
                        exact ih_2501 v_2534 (by first | omega | (simp only [Int32.lt_iff_toInt_lt, Int32.le_iff_toInt_le, Int32.reduceToInt, ← Int32.toInt_inj, true_and, and_true, or_true, true_or, false_or, or_false, false_and, and_false, not_true_eq_false, not_false_eq_true] <;> omega)) v_2529 (by first | omega | (simp only [Int32.lt_iff_toInt_lt, Int32.le_iff_toInt_le, Int32.reduceToInt, ← Int32.toInt_inj, true_and, and_true, or_true, true_or, false_or, or_false, false_and, and_false, not_true_eq_false, not_false_eq_true] <;> omega))
                      · simp only [Int32.lt_iff_toInt_lt, Int32.le_iff_toInt_le, Int32.reduceToInt, ← Int32.toInt_inj] at h_2528
                        refine v_iconst hC dX12_same_127 (v := 1) (by decide) ?_
                        refine v_goto hC dX12_same_128 (tgt := 132) (by decide) ?_
                        obtain ⟨v_2537, h_2538⟩ : ∃ v9 : Int32, i_2497 + 1 = v9 := ⟨_, rfl⟩
                        refine v_iadd hC dX12_same_132 h_2538 ?_
                        refine v_istore hC dX12_same_133 (by decide) (lv' := [(6, .int v_2537), (7, .int i_2496), (5, .int r_73), (0, .ref a_0), (3, .int a_3)]) rfl ?_
                        obtain ⟨v_2540, h_2541⟩ : ∃ v9 : Int32, i_2496 + Int32.ofInt 1 = v9 := ⟨_, rfl⟩
                        have h_2542 := add_v (b := 1) h_2541 (by first | omega | (simp only [Int32.lt_iff_toInt_lt, Int32.le_iff_toInt_le, Int32.reduceToInt, ← Int32.toInt_inj, true_and, and_true, or_true, true_or, false_or, or_false, false_and, and_false, not_true_eq_false, not_false_eq_true] <;> omega)) (by first | omega | (simp only [Int32.lt_iff_toInt_lt, Int32.le_iff_toInt_le, Int32.reduceToInt, ← Int32.toInt_inj, true_and, and_true, or_true, true_or, false_or, or_false, false_and, and_false, not_true_eq_false, not_false_eq_true] <;> omega))
                        simp only [Int32.reduceToInt] at h_2542
                        refine v_iinc hC dX12_same_135 (k := 1) rfl (v := v_2540) h_2541 (by decide) (lv' := [(7, .int v_2540), (6, .int v_2537), (5, .int r_73), (0, .ref a_0), (3, .int a_3)]) rfl ?_
                        refine v_goto hC dX12_same_138 (tgt := 90) (by decide) ?_
                        refine v_pick [0, 1, 2, 3, 4] rfl ?_
                        exact ih_2501 v_2540 (by first | omega | (simp only [Int32.lt_iff_toInt_lt, Int32.le_iff_toInt_le, Int32.reduceToInt, ← Int32.toInt_inj, true_and, and_true, or_true, true_or, false_or, or_false, false_and, and_false, not_true_eq_false, not_false_eq_true] <;> omega)) v_2537 (by first | omega | (simp only [Int32.lt_iff_toInt_lt, Int32.le_iff_toInt_le, Int32.reduceToInt, ← Int32.toInt_inj, true_and, and_true, or_true, true_or, false_or, or_false, false_and, and_false, not_true_eq_false, not_false_eq_true] <;> omega))
              refine v_pick [0, 1, 2, 3, 5] rfl ?_
              exact lp_2499 258 0 (by decide) 0 (by decide)
            · simp only [Int32.lt_iff_toInt_lt, Int32.le_iff_toInt_le, Int32.reduceToInt, ← Int32.toInt_inj] at h_2082
              refine v_aload_n hC dX12_same_59 rfl ?_
              refine v_get hC fl_X12_58 m_1 hf_2076 rfl dX12_same_60 ?_
              refine v_iload hC dX12_same_63 rfl ?_
              refine v_aload_n hC dX12_same_65 rfl ?_
              refine v_iload_n hC dX12_same_66 rfl ?_
              refine v_iload hC dX12_same_67 rfl ?_
              refine v_vi hC (rest := [.int i_2071, .ref (q 23)]) m_1 hf_2076 rfl mi_X12_bitOf ms_X12_bitOf (p_X12_bitOf hW_2073 k_0 (by first | omega | (simp only [Int32.lt_iff_toInt_lt, Int32.le_iff_toInt_le, Int32.reduceToInt, ← Int32.toInt_inj, true_and, and_true, or_true, true_or, false_or, or_false, false_and, and_false, not_true_eq_false, not_false_eq_true] <;> omega)) (by first | omega | (simp only [Int32.lt_iff_toInt_lt, Int32.le_iff_toInt_le, Int32.reduceToInt, ← Int32.toInt_inj, true_and, and_true, or_true, true_or, false_or, or_false, false_and, and_false, not_true_eq_false, not_false_eq_true] <;> omega)) hf_2075 o_w (by first | omega | (simp only [Int32.lt_iff_toInt_lt, Int32.le_iff_toInt_le, Int32.reduceToInt, ← Int32.toInt_inj, true_and, and_true, or_true, true_or, false_or, or_false, false_and, and_false, not_true_eq_false, not_false_eq_true] <;> omega)) (x_78 _ (by omega) (by omega))) mx_X12_bitOf ml_X12_370 (by decide) rfl (cells1 := 0) (slots1 := 0) (by decide) (by decide) (Nat.le_of_ble_eq_true rfl) (Nat.le_of_ble_eq_true rfl) rfl (Nat.le_of_ble_eq_true rfl) dX12_same_69 (fun r_2543 L_2544 f_2545 h_2546 => ?_)
              obtain ⟨rfl, rfl, b_2547⟩ := h_2546
              obtain ⟨m_2550, t_2551⟩ := id k_15
              obtain ⟨g_2553, e_2552⟩ := hW_2073.at m_2550 t_2551
              refine v_iast hC m_2550 e_2552 (vp_in_iff.mpr (by first | omega | (simp only [Int32.lt_iff_toInt_lt, Int32.le_iff_toInt_le, Int32.reduceToInt, ← Int32.toInt_inj, true_and, and_true, or_true, true_or, false_or, or_false, false_and, and_false, not_true_eq_false, not_false_eq_true] <;> omega))) dX12_same_72 (fun f_2554 hf_2555 hk_2556 => ?_)
              have hW_2558 := hW_2073.up hf_2555 hk_2556 t_2551 ⟨_, rfl⟩
              obtain ⟨g_2557, hf_2555⟩ : ∃ g9, f_2554 (q 23) = aI E 256 g9 := ⟨_, hf_2555⟩
              have hf_2559 := (hk_2556 (q 1) (ne_kd hf_2075 e_2552 rfl)).trans hf_2075
              have hf_2560 := (hk_2556 a_0 (ne_kd hf_2076 e_2552 rfl)).trans hf_2076
              have fr_2561 := FR.w hk_2556 e_2552 (k := 356) rfl
              obtain ⟨v_2562, h_2563⟩ : ∃ v9 : Int32, i_2071 + Int32.ofInt 1 = v9 := ⟨_, rfl⟩
              have h_2564 := add_v (b := 1) h_2563 (by first | omega | (simp only [Int32.lt_iff_toInt_lt, Int32.le_iff_toInt_le, Int32.reduceToInt, ← Int32.toInt_inj, true_and, and_true, or_true, true_or, false_or, or_false, false_and, and_false, not_true_eq_false, not_false_eq_true] <;> omega)) (by first | omega | (simp only [Int32.lt_iff_toInt_lt, Int32.le_iff_toInt_le, Int32.reduceToInt, ← Int32.toInt_inj, true_and, and_true, or_true, true_or, false_or, or_false, false_and, and_false, not_true_eq_false, not_false_eq_true] <;> omega))
              simp only [Int32.reduceToInt] at h_2564
              refine v_iinc hC dX12_same_73 (k := 0) rfl (v := v_2562) h_2563 (by decide) (lv' := [(6, .int v_2562), (5, .int r_73), (0, .ref a_0), (2, .int a_2), (3, .int a_3)]) rfl ?_
              refine v_goto hC dX12_same_76 (tgt := 52) (by decide) ?_
              refine v_pick [0, 1, 2, 3, 4] rfl ?_
              exact ih_2080 f_2554 hW_2558 ((hF_2074.tr fr_2561).mono rfl) v_2562 (by first | omega | (simp only [Int32.lt_iff_toInt_lt, Int32.le_iff_toInt_le, Int32.reduceToInt, ← Int32.toInt_inj, true_and, and_true, or_true, true_or, false_or, or_false, false_and, and_false, not_true_eq_false, not_false_eq_true] <;> omega)) (by first | omega | (simp only [Int32.lt_iff_toInt_lt, Int32.le_iff_toInt_le, Int32.reduceToInt, ← Int32.toInt_inj, true_and, and_true, or_true, true_or, false_or, or_false, false_and, and_false, not_true_eq_false, not_false_eq_true] <;> omega))
        refine v_pick [0, 1, 3, 5, 6] rfl ?_
        exact lp_2078 258 f_107 hW_109 FR.rf 0 (by decide) (by decide)
      · simp only [Int32.lt_iff_toInt_lt, Int32.le_iff_toInt_le, Int32.reduceToInt, ← Int32.toInt_inj] at h_72
        refine v_bipush hC dX12_same_34 (v := (-6)) (by decide) ?_
        exact hR _ _ _ _ _ _ _ dX12_same_36 rfl (Nat.le_of_ble_eq_true rfl) (Nat.le_of_ble_eq_true rfl) ⟨rfl, hW, FR.rf, (.inl (by decide)), (.inl (by decide)), (.inl (by decide))⟩
    · simp only [Int32.lt_iff_toInt_lt, Int32.le_iff_toInt_le, Int32.reduceToInt, ← Int32.toInt_inj] at h_63
      refine v_iload hC dX12_same_23 rfl ?_
      exact hR _ _ _ _ _ _ _ dX12_same_25 rfl (Nat.le_of_ble_eq_true rfl) (Nat.le_of_ble_eq_true rfl) ⟨rfl, hW, FR.rf, (by first | omega | (simp only [Int32.lt_iff_toInt_lt, Int32.le_iff_toInt_le, Int32.reduceToInt, ← Int32.toInt_inj, true_and, and_true, or_true, true_or, false_or, or_false, false_and, and_false, not_true_eq_false, not_false_eq_true] <;> omega)), (by first | omega | (simp only [Int32.lt_iff_toInt_lt, Int32.le_iff_toInt_le, Int32.reduceToInt, ← Int32.toInt_inj, true_and, and_true, or_true, true_or, false_or, or_false, false_and, and_false, not_true_eq_false, not_false_eq_true] <;> omega)), (.inr (by first | omega | (simp only [Int32.lt_iff_toInt_lt, Int32.le_iff_toInt_le, Int32.reduceToInt, ← Int32.toInt_inj, true_and, and_true, or_true, true_or, false_or, or_false, false_and, and_false, not_true_eq_false, not_false_eq_true] <;> omega)))⟩
  · simp only [Int32.lt_iff_toInt_lt, Int32.le_iff_toInt_le, Int32.reduceToInt, ← Int32.toInt_inj] at h_34
    refine v_bipush hC dX12_same_7 (v := (-2)) (by decide) ?_
    exact hR _ _ _ _ _ _ _ dX12_same_9 rfl (Nat.le_of_ble_eq_true rfl) (Nat.le_of_ble_eq_true rfl) ⟨rfl, hW, FR.rf, (.inl (by decide)), (.inl (by decide)), (.inl (by decide))⟩
