set_option maxRecDepth 100000 in
set_option maxHeartbeats 8000000 in
theorem p_X12_unravels {l : Launch} {E : Ez} {L : List Nat} {f : Nat → va_E} {T : Nat → va_E → Prop} {a_0 : Nat} {q : Nat → Nat} {g_w : Nat → Int32} (hW : WT T L f) (k_0 : isM T L E a_0 q) (e_w : f (q 1) = aI E 2076 g_w) (o_w : WOK g_w) : CI l yX12_unravels cX12_unravels 5 .int 1 0 0 E [.ref a_0] L f (fun r L1 f1 => L = L1 ∧ WT T L f1 ∧ FR [356] f f1 ∧ (0 ≤ r.toInt ∧ r.toInt ≤ 256)) := by
  refine ci_of (by decide) (Nat.le_of_ble_eq_true rfl) (fun z hz hnm hC hR => ?_)
  have hC : Cx z E cX12_unravels RX12 5 1 0 0 := hC
  subst hz
  show V z E 5 0 0 L f 0 [(0, .ref a_0)] []
  obtain ⟨m_1, t_2, nq_21, k_3, k_4, k_5, k_6, k_7, k_8, k_9, k_10, k_11, k_12, k_13, k_14, k_15, k_16, k_17, k_18, k_19, k_20⟩ := id k_0
  obtain ⟨m_22, t_23⟩ := id k_3
  have b_24 := o_w.r0
  have b_25 := o_w.w0
  refine v_iconst hC dX12_unravels_0 (v := 0) (by decide) ?_
  refine v_istore_n hC dX12_unravels_1 (by decide) (lv' := [(1, .int 0), (0, .ref a_0)]) rfl ?_
  refine v_aload_n hC dX12_unravels_2 rfl ?_
  obtain ⟨v_27, v_28, v_30, v_32, v_34, v_36, v_38, v_39, v_40, v_41, v_43, e_26, b_29, b_31, b_33, b_35, b_37, b_42, b_44⟩ := hW.at m_1 t_2
  refine v_vi hC (rest := []) m_1 e_26 rfl mi_X12_rows ms_X12_rows (p_X12_rows hW k_0 e_w o_w) mx_X12_rows ml_X12_83 (by decide) rfl (cells1 := 0) (slots1 := 0) (by decide) (by decide) (Nat.le_of_ble_eq_true rfl) (Nat.le_of_ble_eq_true rfl) rfl (Nat.le_of_ble_eq_true rfl) dX12_unravels_3 (fun r_45 L_46 f_47 h_48 => ?_)
  obtain ⟨rfl, rfl, rfl⟩ := h_48
  refine v_iconst hC dX12_unravels_6 (v := 1) (by decide) ?_
  obtain ⟨v_51, h_52⟩ : ∃ v9 : Int32, (g_w 0) - 1 = v9 := ⟨_, rfl⟩
  refine v_isub hC dX12_unravels_7 h_52 ?_
  have h_53 := sub_v h_52 (by first | omega | (simp only [Int32.lt_iff_toInt_lt, Int32.le_iff_toInt_le, Int32.reduceToInt, ← Int32.toInt_inj, true_and, and_true, or_true, true_or, false_or, or_false, false_and, and_false, not_true_eq_false, not_false_eq_true] <;> omega)) (by first | omega | (simp only [Int32.lt_iff_toInt_lt, Int32.le_iff_toInt_le, Int32.reduceToInt, ← Int32.toInt_inj, true_and, and_true, or_true, true_or, false_or, or_false, false_and, and_false, not_true_eq_false, not_false_eq_true] <;> omega))
  try simp only [Int32.reduceToInt] at h_53
  refine v_istore_n hC dX12_unravels_8 (by decide) (lv' := [(2, .int v_51), (1, .int 0), (0, .ref a_0)]) rfl ?_
  have lp_2934 : ∀ (n_2935 : Nat) (f_2926 : Nat → va_E) (hW_2927 : WT T L f_2926) (hF_2928 : FR [356] f f_2926) (i_2924 : Int32) (b_2931 : ((-1) ≤ i_2924.toInt ∧ i_2924.toInt ≤ 15)) (i_2925 : Int32) (b_2932 : (0 ≤ i_2925.toInt ∧ i_2925.toInt ≤ 256)) (nv_2933 : i_2925.toInt ≤ 16 * (15 - i_2924.toInt)) (hm_2937 : i_2924.toInt - (-1) < (n_2935 : Int)), V z E 5 0 0 L f_2926 9 [(2, .int i_2924), (1, .int i_2925), (0, .ref a_0)] [] := by
    intro n_2935
    induction n_2935 with
    | zero =>
      intro f_2926 hW_2927 hF_2928 i_2924 b_2931 i_2925 b_2932 nv_2933 hm_2937
      have hf_2929 := hF_2928.at e_w rfl
      have hf_2930 := hF_2928.at e_26 rfl
      exfalso; omega
    | succ n_2935 ih_2936 =>
      intro f_2926 hW_2927 hF_2928 i_2924 b_2931 i_2925 b_2932 nv_2933 hm_2937
      have hf_2929 := hF_2928.at e_w rfl
      have hf_2930 := hF_2928.at e_26 rfl
      refine v_iload_n hC dX12_unravels_9 rfl ?_
      refine v_if_lt hC dX12_unravels_10 (tgt := 88) (by decide) (fun h_2938 => ?_) (fun h_2938 => ?_)
      · simp only [Int32.lt_iff_toInt_lt, Int32.le_iff_toInt_le, Int32.reduceToInt, ← Int32.toInt_inj] at h_2938
        refine v_iload_n hC dX12_unravels_88 rfl ?_
        exact hR _ _ _ _ _ _ _ dX12_unravels_89 rfl (Nat.le_of_ble_eq_true rfl) (Nat.le_of_ble_eq_true rfl) ⟨rfl, hW_2927, (hF_2928.mono rfl), (by first | omega | (simp only [Int32.lt_iff_toInt_lt, Int32.le_iff_toInt_le, Int32.reduceToInt, ← Int32.toInt_inj, true_and, and_true, or_true, true_or, false_or, or_false, false_and, and_false, not_true_eq_false, not_false_eq_true] <;> omega))⟩
      · simp only [Int32.lt_iff_toInt_lt, Int32.le_iff_toInt_le, Int32.reduceToInt, ← Int32.toInt_inj] at h_2938
        refine v_iconst hC dX12_unravels_13 (v := 0) (by decide) ?_
        refine v_istore_n hC dX12_unravels_14 (by decide) (lv' := [(3, .int 0), (2, .int i_2924), (1, .int i_2925), (0, .ref a_0)]) rfl ?_
        have lp_3323 : ∀ (n_3324 : Nat) (f_3315 : Nat → va_E) (hW_3316 : WT T L f_3315) (hF_3317 : FR [356] f_2926 f_3315) (i_3313 : Int32) (b_3320 : (0 ≤ i_3313.toInt ∧ i_3313.toInt ≤ 16)) (i_3314 : Int32) (b_3321 : (0 ≤ i_3314.toInt ∧ i_3314.toInt ≤ 256)) (nv_3322 : i_3314.toInt ≤ 16 * (15 - i_2924.toInt) + i_3313.toInt) (hm_3326 : 16 - i_3313.toInt < (n_3324 : Int)), V z E 5 0 0 L f_3315 15 [(3, .int i_3313), (2, .int i_2924), (1, .int i_3314), (0, .ref a_0)] [] := by
          intro n_3324
          induction n_3324 with
          | zero =>
            intro f_3315 hW_3316 hF_3317 i_3313 b_3320 i_3314 b_3321 nv_3322 hm_3326
            have hf_3318 := hF_3317.at hf_2929 rfl
            have hf_3319 := hF_3317.at hf_2930 rfl
            exfalso; omega
          | succ n_3324 ih_3325 =>
            intro f_3315 hW_3316 hF_3317 i_3313 b_3320 i_3314 b_3321 nv_3322 hm_3326
            have hf_3318 := hF_3317.at hf_2929 rfl
            have hf_3319 := hF_3317.at hf_2930 rfl
            refine v_iload_n hC dX12_unravels_15 rfl ?_
            refine v_aload_n hC dX12_unravels_16 rfl ?_
            refine v_vi hC (rest := [.int i_3313]) m_1 hf_3319 rfl mi_X12_wide ms_X12_wide (p_X12_wide hW_3316 k_0 hf_3318 o_w) mx_X12_wide ml_X12_87 (by decide) rfl (cells1 := 0) (slots1 := 0) (by decide) (by decide) (Nat.le_of_ble_eq_true rfl) (Nat.le_of_ble_eq_true rfl) rfl (Nat.le_of_ble_eq_true rfl) dX12_unravels_17 (fun r_3327 L_3328 f_3329 h_3330 => ?_)
            obtain ⟨rfl, rfl, rfl⟩ := h_3330
            refine v_icmp_ge hC dX12_unravels_20 (tgt := 82) (by decide) (fun h_3333 => ?_) (fun h_3333 => ?_)
            · simp only [Int32.lt_iff_toInt_lt, Int32.le_iff_toInt_le, Int32.reduceToInt, ← Int32.toInt_inj] at h_3333
              obtain ⟨v_3334, h_3335⟩ : ∃ v9 : Int32, i_2924 + Int32.ofInt (-1) = v9 := ⟨_, rfl⟩
              have h_3336 := add_v (b := (-1)) h_3335 (by first | omega | (simp only [Int32.lt_iff_toInt_lt, Int32.le_iff_toInt_le, Int32.reduceToInt, ← Int32.toInt_inj, true_and, and_true, or_true, true_or, false_or, or_false, false_and, and_false, not_true_eq_false, not_false_eq_true] <;> omega)) (by first | omega | (simp only [Int32.lt_iff_toInt_lt, Int32.le_iff_toInt_le, Int32.reduceToInt, ← Int32.toInt_inj, true_and, and_true, or_true, true_or, false_or, or_false, false_and, and_false, not_true_eq_false, not_false_eq_true] <;> omega))
              simp only [Int32.reduceToInt] at h_3336
              refine v_iinc hC dX12_unravels_82 (k := 1) rfl (v := v_3334) h_3335 (by decide) (lv' := [(2, .int v_3334), (3, .int i_3313), (1, .int i_3314), (0, .ref a_0)]) rfl ?_
              refine v_goto hC dX12_unravels_85 (tgt := 9) (by decide) ?_
              refine v_pick [0, 2, 3] rfl ?_
              exact ih_2936 f_3315 hW_3316 ((hF_2928.tr hF_3317).mono rfl) v_3334 (by first | omega | (simp only [Int32.lt_iff_toInt_lt, Int32.le_iff_toInt_le, Int32.reduceToInt, ← Int32.toInt_inj, true_and, and_true, or_true, true_or, false_or, or_false, false_and, and_false, not_true_eq_false, not_false_eq_true] <;> omega)) i_3314 (by first | omega | (simp only [Int32.lt_iff_toInt_lt, Int32.le_iff_toInt_le, Int32.reduceToInt, ← Int32.toInt_inj, true_and, and_true, or_true, true_or, false_or, or_false, false_and, and_false, not_true_eq_false, not_false_eq_true] <;> omega)) (by first | omega | (simp only [Int32.lt_iff_toInt_lt, Int32.le_iff_toInt_le, Int32.reduceToInt, ← Int32.toInt_inj, true_and, and_true, or_true, true_or, false_or, or_false, false_and, and_false, not_true_eq_false, not_false_eq_true] <;> omega)) (by first | omega | (simp only [Int32.lt_iff_toInt_lt, Int32.le_iff_toInt_le, Int32.reduceToInt, ← Int32.toInt_inj, true_and, and_true, or_true, true_or, false_or, or_false, false_and, and_false, not_true_eq_false, not_false_eq_true] <;> omega))
            · simp only [Int32.lt_iff_toInt_lt, Int32.le_iff_toInt_le, Int32.reduceToInt, ← Int32.toInt_inj] at h_3333
              refine v_aload_n hC dX12_unravels_23 rfl ?_
              refine v_get hC fl_X12_37 m_1 hf_3319 rfl dX12_unravels_24 ?_
              refine v_iload_n hC dX12_unravels_27 rfl ?_
              refine v_aload_n hC dX12_unravels_28 rfl ?_
              refine v_vi hC (rest := [.int i_2924, .ref (q 15)]) m_1 hf_3319 rfl mi_X12_wide ms_X12_wide (p_X12_wide hW_3316 k_0 hf_3318 o_w) mx_X12_wide ml_X12_87 (by decide) rfl (cells1 := 0) (slots1 := 0) (by decide) (by decide) (Nat.le_of_ble_eq_true rfl) (Nat.le_of_ble_eq_true rfl) rfl (Nat.le_of_ble_eq_true rfl) dX12_unravels_29 (fun r_3337 L_3338 f_3339 h_3340 => ?_)
              obtain ⟨rfl, rfl, rfl⟩ := h_3340
              obtain ⟨v_3343, h_3344⟩ : ∃ v9 : Int32, i_2924 * (g_w 1) = v9 := ⟨_, rfl⟩
              refine v_imul hC dX12_unravels_32 h_3344 ?_
              have h_3345 := mul_v 15 16 240 h_3344 (by first | omega | (simp only [Int32.lt_iff_toInt_lt, Int32.le_iff_toInt_le, Int32.reduceToInt, ← Int32.toInt_inj, true_and, and_true, or_true, true_or, false_or, or_false, false_and, and_false, not_true_eq_false, not_false_eq_true] <;> omega)) (by first | omega | (simp only [Int32.lt_iff_toInt_lt, Int32.le_iff_toInt_le, Int32.reduceToInt, ← Int32.toInt_inj, true_and, and_true, or_true, true_or, false_or, or_false, false_and, and_false, not_true_eq_false, not_false_eq_true] <;> omega)) (by decide) (by decide)
              refine v_iload_n hC dX12_unravels_33 rfl ?_
              refine v_iconst hC dX12_unravels_34 (v := 2) (by decide) ?_
              obtain ⟨v_3346, h_3347⟩ : ∃ v9 : Int32, i_2924 - i_2924 / 2 * 2 = v9 := ⟨_, rfl⟩
              refine v_irem hC dX12_unravels_35 (by decide) h_3347 ?_
              have h_3348 := rem_v h_3347 (by first | omega | (simp only [Int32.lt_iff_toInt_lt, Int32.le_iff_toInt_le, Int32.reduceToInt, ← Int32.toInt_inj, true_and, and_true, or_true, true_or, false_or, or_false, false_and, and_false, not_true_eq_false, not_false_eq_true] <;> omega)) (by decide)
              try simp only [Int32.reduceToInt] at h_3348
              refine v_iconst hC dX12_unravels_36 (v := 1) (by decide) ?_
              have jn_3363 : ∀ (v_3364 : Int32) (b_3365 : (0 ≤ v_3364.toInt ∧ v_3364.toInt ≤ 15)), V z E 5 0 0 L f_3315 52 [(3, .int i_3313), (2, .int i_2924), (1, .int i_3314), (0, .ref a_0)] [.int v_3364, .int v_3343, .ref (q 15)] := by
                intro v_3364 b_3365
                obtain ⟨v_3366, h_3367⟩ : ∃ v9 : Int32, v_3343 + v_3364 = v9 := ⟨_, rfl⟩
                refine v_iadd hC dX12_unravels_52 h_3367 ?_
                have h_3368 := add_v h_3367 (by first | omega | (simp only [Int32.lt_iff_toInt_lt, Int32.le_iff_toInt_le, Int32.reduceToInt, ← Int32.toInt_inj, true_and, and_true, or_true, true_or, false_or, or_false, false_and, and_false, not_true_eq_false, not_false_eq_true] <;> omega)) (by first | omega | (simp only [Int32.lt_iff_toInt_lt, Int32.le_iff_toInt_le, Int32.reduceToInt, ← Int32.toInt_inj, true_and, and_true, or_true, true_or, false_or, or_false, false_and, and_false, not_true_eq_false, not_false_eq_true] <;> omega))
                obtain ⟨m_3369, t_3370⟩ := id k_9
                obtain ⟨g_3372, e_3371⟩ := hW_3316.at m_3369 t_3370
                obtain ⟨v_3373, h_3374⟩ : ∃ v9 : Int32, g_3372 (v_3366 : Int32).toNatClampNeg = v9 := ⟨_, rfl⟩
                refine v_iald hC m_3369 e_3371 (vp_in_iff.mpr (by first | omega | (simp only [Int32.lt_iff_toInt_lt, Int32.le_iff_toInt_le, Int32.reduceToInt, ← Int32.toInt_inj, true_and, and_true, or_true, true_or, false_or, or_false, false_and, and_false, not_true_eq_false, not_false_eq_true] <;> omega))) h_3374 dX12_unravels_53 ?_
                refine v_istore hC dX12_unravels_54 (by decide) (lv' := [(4, .int v_3373), (3, .int i_3313), (2, .int i_2924), (1, .int i_3314), (0, .ref a_0)]) rfl ?_
                refine v_iload hC dX12_unravels_56 rfl ?_
                refine v_iconst hC dX12_unravels_58 (v := 4) (by decide) ?_
                refine v_icmp_ne hC dX12_unravels_59 (tgt := 65) (by decide) (fun h_3375 => ?_) (fun h_3375 => ?_)
                · simp only [Int32.lt_iff_toInt_lt, Int32.le_iff_toInt_le, Int32.reduceToInt, ← Int32.toInt_inj] at h_3375
                  refine v_aload_n hC dX12_unravels_65 rfl ?_
                  refine v_get hC fl_X12_61 m_1 hf_3319 rfl dX12_unravels_66 ?_
                  refine v_iload_n hC dX12_unravels_69 rfl ?_
                  refine v_iload hC dX12_unravels_70 rfl ?_
                  obtain ⟨m_3376, t_3377⟩ := id k_16
                  obtain ⟨g_3379, e_3378⟩ := hW_3316.at m_3376 t_3377
                  refine v_iast hC m_3376 e_3378 (vp_in_iff.mpr (by first | omega | (simp only [Int32.lt_iff_toInt_lt, Int32.le_iff_toInt_le, Int32.reduceToInt, ← Int32.toInt_inj, true_and, and_true, or_true, true_or, false_or, or_false, false_and, and_false, not_true_eq_false, not_false_eq_true] <;> omega))) dX12_unravels_72 (fun f_3380 hf_3381 hk_3382 => ?_)
                  have hW_3384 := hW_3316.up hf_3381 hk_3382 t_3377 ⟨_, rfl⟩
                  obtain ⟨g_3383, hf_3381⟩ : ∃ g9, f_3380 (q 24) = aI E 256 g9 := ⟨_, hf_3381⟩
                  have hf_3385 := (hk_3382 (q 1) (ne_kd hf_3318 e_3378 rfl)).trans hf_3318
                  have hf_3386 := (hk_3382 a_0 (ne_kd hf_3319 e_3378 rfl)).trans hf_3319
                  have fr_3387 := FR.w hk_3382 e_3378 (k := 356) rfl
                  obtain ⟨v_3388, h_3389⟩ : ∃ v9 : Int32, i_3314 + Int32.ofInt 1 = v9 := ⟨_, rfl⟩
                  have h_3390 := add_v (b := 1) h_3389 (by first | omega | (simp only [Int32.lt_iff_toInt_lt, Int32.le_iff_toInt_le, Int32.reduceToInt, ← Int32.toInt_inj, true_and, and_true, or_true, true_or, false_or, or_false, false_and, and_false, not_true_eq_false, not_false_eq_true] <;> omega)) (by first | omega | (simp only [Int32.lt_iff_toInt_lt, Int32.le_iff_toInt_le, Int32.reduceToInt, ← Int32.toInt_inj, true_and, and_true, or_true, true_or, false_or, or_false, false_and, and_false, not_true_eq_false, not_false_eq_true] <;> omega))
                  simp only [Int32.reduceToInt] at h_3390
                  refine v_iinc hC dX12_unravels_73 (k := 3) rfl (v := v_3388) h_3389 (by decide) (lv' := [(1, .int v_3388), (4, .int v_3373), (3, .int i_3313), (2, .int i_2924), (0, .ref a_0)]) rfl ?_
                  obtain ⟨v_3391, h_3392⟩ : ∃ v9 : Int32, i_3313 + Int32.ofInt 1 = v9 := ⟨_, rfl⟩
                  have h_3393 := add_v (b := 1) h_3392 (by first | omega | (simp only [Int32.lt_iff_toInt_lt, Int32.le_iff_toInt_le, Int32.reduceToInt, ← Int32.toInt_inj, true_and, and_true, or_true, true_or, false_or, or_false, false_and, and_false, not_true_eq_false, not_false_eq_true] <;> omega)) (by first | omega | (simp only [Int32.lt_iff_toInt_lt, Int32.le_iff_toInt_le, Int32.reduceToInt, ← Int32.toInt_inj, true_and, and_true, or_true, true_or, false_or, or_false, false_and, and_false, not_true_eq_false, not_false_eq_true] <;> omega))
                  simp only [Int32.reduceToInt] at h_3393
                  refine v_iinc hC dX12_unravels_76 (k := 2) rfl (v := v_3391) h_3392 (by decide) (lv' := [(3, .int v_3391), (1, .int v_3388), (4, .int v_3373), (2, .int i_2924), (0, .ref a_0)]) rfl ?_
                  refine v_goto hC dX12_unravels_79 (tgt := 15) (by decide) ?_
                  refine v_pick [0, 3, 1, 4] rfl ?_
                  exact ih_3325 f_3380 hW_3384 ((hF_3317.tr fr_3387).mono rfl) v_3391 (by first | omega | (simp only [Int32.lt_iff_toInt_lt, Int32.le_iff_toInt_le, Int32.reduceToInt, ← Int32.toInt_inj, true_and, and_true, or_true, true_or, false_or, or_false, false_and, and_false, not_true_eq_false, not_false_eq_true] <;> omega)) v_3388 (by first | omega | (simp only [Int32.lt_iff_toInt_lt, Int32.le_iff_toInt_le, Int32.reduceToInt, ← Int32.toInt_inj, true_and, and_true, or_true, true_or, false_or, or_false, false_and, and_false, not_true_eq_false, not_false_eq_true] <;> omega)) (by first | omega | (simp only [Int32.lt_iff_toInt_lt, Int32.le_iff_toInt_le, Int32.reduceToInt, ← Int32.toInt_inj, true_and, and_true, or_true, true_or, false_or, or_false, false_and, and_false, not_true_eq_false, not_false_eq_true] <;> omega)) (by first | omega | (simp only [Int32.lt_iff_toInt_lt, Int32.le_iff_toInt_le, Int32.reduceToInt, ← Int32.toInt_inj, true_and, and_true, or_true, true_or, false_or, or_false, false_and, and_false, not_true_eq_false, not_false_eq_true] <;> omega))
                · simp only [Int32.lt_iff_toInt_lt, Int32.le_iff_toInt_le, Int32.reduceToInt, ← Int32.toInt_inj] at h_3375
                  refine v_goto hC dX12_unravels_62 (tgt := 76) (by decide) ?_
                  obtain ⟨v_3394, h_3395⟩ : ∃ v9 : Int32, i_3313 + Int32.ofInt 1 = v9 := ⟨_, rfl⟩
                  have h_3396 := add_v (b := 1) h_3395 (by first | omega | (simp only [Int32.lt_iff_toInt_lt, Int32.le_iff_toInt_le, Int32.reduceToInt, ← Int32.toInt_inj, true_and, and_true, or_true, true_or, false_or, or_false, false_and, and_false, not_true_eq_false, not_false_eq_true] <;> omega)) (by first | omega | (simp only [Int32.lt_iff_toInt_lt, Int32.le_iff_toInt_le, Int32.reduceToInt, ← Int32.toInt_inj, true_and, and_true, or_true, true_or, false_or, or_false, false_and, and_false, not_true_eq_false, not_false_eq_true] <;> omega))
                  simp only [Int32.reduceToInt] at h_3396
                  refine v_iinc hC dX12_unravels_76 (k := 1) rfl (v := v_3394) h_3395 (by decide) (lv' := [(3, .int v_3394), (4, .int v_3373), (2, .int i_2924), (1, .int i_3314), (0, .ref a_0)]) rfl ?_
                  refine v_goto hC dX12_unravels_79 (tgt := 15) (by decide) ?_
                  refine v_pick [0, 2, 3, 4] rfl ?_
                  exact ih_3325 f_3315 hW_3316 (hF_3317.mono rfl) v_3394 (by first | omega | (simp only [Int32.lt_iff_toInt_lt, Int32.le_iff_toInt_le, Int32.reduceToInt, ← Int32.toInt_inj, true_and, and_true, or_true, true_or, false_or, or_false, false_and, and_false, not_true_eq_false, not_false_eq_true] <;> omega)) i_3314 (by first | omega | (simp only [Int32.lt_iff_toInt_lt, Int32.le_iff_toInt_le, Int32.reduceToInt, ← Int32.toInt_inj, true_and, and_true, or_true, true_or, false_or, or_false, false_and, and_false, not_true_eq_false, not_false_eq_true] <;> omega)) (by first | omega | (simp only [Int32.lt_iff_toInt_lt, Int32.le_iff_toInt_le, Int32.reduceToInt, ← Int32.toInt_inj, true_and, and_true, or_true, true_or, false_or, or_false, false_and, and_false, not_true_eq_false, not_false_eq_true] <;> omega)) (by first | omega | (simp only [Int32.lt_iff_toInt_lt, Int32.le_iff_toInt_le, Int32.reduceToInt, ← Int32.toInt_inj, true_and, and_true, or_true, true_or, false_or, or_false, false_and, and_false, not_true_eq_false, not_false_eq_true] <;> omega))
              refine v_icmp_ne hC dX12_unravels_37 (tgt := 44) (by decide) (fun h_3349 => ?_) (fun h_3349 => ?_)
              · simp only [Int32.lt_iff_toInt_lt, Int32.le_iff_toInt_le, Int32.reduceToInt, ← Int32.toInt_inj] at h_3349
                refine v_aload_n hC dX12_unravels_44 rfl ?_
                refine v_vi hC (rest := [.int v_3343, .ref (q 15)]) m_1 hf_3319 rfl mi_X12_wide ms_X12_wide (p_X12_wide hW_3316 k_0 hf_3318 o_w) mx_X12_wide ml_X12_87 (by decide) rfl (cells1 := 0) (slots1 := 0) (by decide) (by decide) (Nat.le_of_ble_eq_true rfl) (Nat.le_of_ble_eq_true rfl) rfl (Nat.le_of_ble_eq_true rfl) dX12_unravels_45 (fun r_3397 L_3398 f_3399 h_3400 => ?_)
                obtain ⟨rfl, rfl, rfl⟩ := h_3400
                refine v_iconst hC dX12_unravels_48 (v := 1) (by decide) ?_
                obtain ⟨v_3403, h_3404⟩ : ∃ v9 : Int32, (g_w 1) - 1 = v9 := ⟨_, rfl⟩
                refine v_isub hC dX12_unravels_49 h_3404 ?_
                have h_3405 := sub_v h_3404 (by first | omega | (simp only [Int32.lt_iff_toInt_lt, Int32.le_iff_toInt_le, Int32.reduceToInt, ← Int32.toInt_inj, true_and, and_true, or_true, true_or, false_or, or_false, false_and, and_false, not_true_eq_false, not_false_eq_true] <;> omega)) (by first | omega | (simp only [Int32.lt_iff_toInt_lt, Int32.le_iff_toInt_le, Int32.reduceToInt, ← Int32.toInt_inj, true_and, and_true, or_true, true_or, false_or, or_false, false_and, and_false, not_true_eq_false, not_false_eq_true] <;> omega))
                try simp only [Int32.reduceToInt] at h_3405
                refine v_iload_n hC dX12_unravels_50 rfl ?_
                obtain ⟨v_3406, h_3407⟩ : ∃ v9 : Int32, v_3403 - i_3313 = v9 := ⟨_, rfl⟩
                refine v_isub hC dX12_unravels_51 h_3407 ?_
                have h_3408 := sub_v h_3407 (by first | omega | (simp only [Int32.lt_iff_toInt_lt, Int32.le_iff_toInt_le, Int32.reduceToInt, ← Int32.toInt_inj, true_and, and_true, or_true, true_or, false_or, or_false, false_and, and_false, not_true_eq_false, not_false_eq_true] <;> omega)) (by first | omega | (simp only [Int32.lt_iff_toInt_lt, Int32.le_iff_toInt_le, Int32.reduceToInt, ← Int32.toInt_inj, true_and, and_true, or_true, true_or, false_or, or_false, false_and, and_false, not_true_eq_false, not_false_eq_true] <;> omega))
                have b_3409 : (0 ≤ v_3406.toInt ∧ v_3406.toInt ≤ 15) := (by first | omega | (simp only [Int32.lt_iff_toInt_lt, Int32.le_iff_toInt_le, Int32.reduceToInt, ← Int32.toInt_inj, true_and, and_true, or_true, true_or, false_or, or_false, false_and, and_false, not_true_eq_false, not_false_eq_true] <;> omega))
                refine v_pick [0, 1, 2, 3] rfl ?_
                exact jn_3363 v_3406 (by first | omega | (simp only [Int32.lt_iff_toInt_lt, Int32.le_iff_toInt_le, Int32.reduceToInt, ← Int32.toInt_inj, true_and, and_true, or_true, true_or, false_or, or_false, false_and, and_false, not_true_eq_false, not_false_eq_true] <;> omega))
              · simp only [Int32.lt_iff_toInt_lt, Int32.le_iff_toInt_le, Int32.reduceToInt, ← Int32.toInt_inj] at h_3349
                refine v_iload_n hC dX12_unravels_40 rfl ?_
                refine v_goto hC dX12_unravels_41 (tgt := 52) (by decide) ?_
                refine v_pick [0, 1, 2, 3] rfl ?_
                exact jn_3363 i_3313 (by first | omega | (simp only [Int32.lt_iff_toInt_lt, Int32.le_iff_toInt_le, Int32.reduceToInt, ← Int32.toInt_inj, true_and, and_true, or_true, true_or, false_or, or_false, false_and, and_false, not_true_eq_false, not_false_eq_true] <;> omega))
        refine v_pick [0, 1, 2, 3] rfl ?_
        exact lp_3323 18 f_2926 hW_2927 FR.rf 0 (by decide) i_2925 (by first | omega | (simp only [Int32.lt_iff_toInt_lt, Int32.le_iff_toInt_le, Int32.reduceToInt, ← Int32.toInt_inj, true_and, and_true, or_true, true_or, false_or, or_false, false_and, and_false, not_true_eq_false, not_false_eq_true] <;> omega)) (by first | omega | (simp only [Int32.lt_iff_toInt_lt, Int32.le_iff_toInt_le, Int32.reduceToInt, ← Int32.toInt_inj, true_and, and_true, or_true, true_or, false_or, or_false, false_and, and_false, not_true_eq_false, not_false_eq_true] <;> omega)) (by decide)
  refine v_pick [0, 1, 2] rfl ?_
  exact lp_2934 18 f hW FR.rf v_51 (by first | omega | (simp only [Int32.lt_iff_toInt_lt, Int32.le_iff_toInt_le, Int32.reduceToInt, ← Int32.toInt_inj, true_and, and_true, or_true, true_or, false_or, or_false, false_and, and_false, not_true_eq_false, not_false_eq_true] <;> omega)) 0 (by decide) (by first | omega | (simp only [Int32.lt_iff_toInt_lt, Int32.le_iff_toInt_le, Int32.reduceToInt, ← Int32.toInt_inj, true_and, and_true, or_true, true_or, false_or, or_false, false_and, and_false, not_true_eq_false, not_false_eq_true] <;> omega)) (by first | omega | (simp only [Int32.lt_iff_toInt_lt, Int32.le_iff_toInt_le, Int32.reduceToInt, ← Int32.toInt_inj, true_and, and_true, or_true, true_or, false_or, or_false, false_and, and_false, not_true_eq_false, not_false_eq_true] <;> omega))
set_option maxRecDepth 100000 in
set_option maxHeartbeats 8000000 in
theorem p_X12_ball {l : Launch} {E : Ez} {L : List Nat} {f : Nat → va_E} {T : Nat → va_E → Prop} {a_0 : Nat} {a_1 : Int32} {a_2 : Int32} {q : Nat → Nat} {g_w : Nat → Int32} (hW : WT T L f) (k_0 : isM T L E a_0 q) (e_w : f (q 1) = aI E 2076 g_w) (o_w : WOK g_w) : CI l yX12_ball cX12_ball 4 .int 3 0 0 E [.ref a_0, .int a_1, .int a_2] L f (fun r L1 f1 => L = L1 ∧ WT T L f1 ∧ FR [356] f f1 ∧ (¬ r.toInt = 0 ∨ (0 ≤ a_1.toInt ∧ a_1.toInt ≤ 3)) ∧ (¬ r.toInt = 0 ∨ (0 ≤ a_2.toInt ∧ a_2.toInt ≤ 255))) := by
  refine ci_of (by decide) (Nat.le_of_ble_eq_true rfl) (fun z hz hnm hC hR => ?_)
  have hC : Cx z E cX12_ball RX12 4 3 0 0 := hC
  subst hz
  show V z E 4 0 0 L f 0 [(0, .ref a_0), (1, .int a_1), (2, .int a_2)] []
  obtain ⟨m_1, t_2, nq_21, k_3, k_4, k_5, k_6, k_7, k_8, k_9, k_10, k_11, k_12, k_13, k_14, k_15, k_16, k_17, k_18, k_19, k_20⟩ := id k_0
  obtain ⟨m_22, t_23⟩ := id k_3
  have b_24 := o_w.r0
  have b_25 := o_w.w0
  refine v_aload_n hC dX12_ball_0 rfl ?_
  refine v_iload_n hC dX12_ball_1 rfl ?_
  obtain ⟨v_27, v_28, v_30, v_32, v_34, v_36, v_38, v_39, v_40, v_41, v_43, e_26, b_29, b_31, b_33, b_35, b_37, b_42, b_44⟩ := hW.at m_1 t_2
  refine v_vi hC (rest := []) m_1 e_26 rfl mi_X12_asksCloth ms_X12_asksCloth (p_X12_asksCloth hW k_0 e_w o_w) mx_X12_asksCloth ml_X12_376 (by decide) rfl (cells1 := 0) (slots1 := 0) (by decide) (by decide) (Nat.le_of_ble_eq_true rfl) (Nat.le_of_ble_eq_true rfl) rfl (Nat.le_of_ble_eq_true rfl) dX12_ball_2 (fun r_45 L_46 f_47 h_48 => ?_)
  obtain ⟨rfl, rfl, b_49, h_50⟩ := h_48
  refine v_istore_n hC dX12_ball_5 (by decide) (lv' := [(3, .int r_45), (0, .ref a_0), (1, .int a_1), (2, .int a_2)]) rfl ?_
  refine v_iload_n hC dX12_ball_6 rfl ?_
  refine v_if_ge hC dX12_ball_7 (tgt := 12) (by decide) (fun h_53 => ?_) (fun h_53 => ?_)
  · simp only [Int32.lt_iff_toInt_lt, Int32.le_iff_toInt_le, Int32.reduceToInt, ← Int32.toInt_inj] at h_53
    refine v_aload_n hC dX12_ball_12 rfl ?_
    refine v_iload_n hC dX12_ball_13 rfl ?_
    refine v_vv hC (rest := []) m_1 e_26 rfl mi_X12_takes0 ms_X12_takes0 (p_X12_takes0 hW k_0 (by first | omega | (simp only [Int32.lt_iff_toInt_lt, Int32.le_iff_toInt_le, Int32.reduceToInt, ← Int32.toInt_inj, true_and, and_true, or_true, true_or, false_or, or_false, false_and, and_false, not_true_eq_false, not_false_eq_true] <;> omega)) e_w o_w) mx_X12_takes0 ml_X12_363 (by decide) rfl (cells1 := 0) (slots1 := 0) (by decide) (by decide) (Nat.le_of_ble_eq_true rfl) (Nat.le_of_ble_eq_true rfl) rfl (Nat.le_of_ble_eq_true rfl) dX12_ball_14 (fun L_55 f_56 h_57 => ?_)
    obtain ⟨rfl, hW_58, hF_59⟩ := h_57
    have hf_60 := hF_59.at e_w rfl
    have hf_61 := hF_59.at e_26 rfl
    refine v_iload_n hC dX12_ball_17 rfl ?_
    obtain ⟨v_62, h_63⟩ : ∃ v9 : Int64, a_2.toInt64 = v9 := ⟨_, rfl⟩
    refine v_i2l hC dX12_ball_18 h_63 ?_
    have h_64 : v_62.toInt = a_2.toInt := by rw [← h_63]; exact Int32.toInt_toInt64 _
    refine v_lconst hC dX12_ball_19 (v := 0) (by decide) ?_
    refine v_aload_n hC dX12_ball_20 rfl ?_
    refine v_vi hC (rest := [.long 0, .long v_62]) m_1 hf_61 rfl mi_X12_unravels ms_X12_unravels (p_X12_unravels hW_58 k_0 hf_60 o_w) mx_X12_unravels ml_X12_422 (by decide) rfl (cells1 := 0) (slots1 := 0) (by decide) (by decide) (Nat.le_of_ble_eq_true rfl) (Nat.le_of_ble_eq_true rfl) rfl (Nat.le_of_ble_eq_true rfl) dX12_ball_21 (fun r_65 L_66 f_67 h_68 => ?_)
    obtain ⟨rfl, hW_70, hF_71, b_69⟩ := h_68
    have hf_72 := hF_71.at hf_60 rfl
    have hf_73 := hF_71.at hf_61 rfl
    refine v_iconst hC dX12_ball_24 (v := 1) (by decide) ?_
    obtain ⟨v_74, h_75⟩ : ∃ v9 : Int32, r_65 - 1 = v9 := ⟨_, rfl⟩
    refine v_isub hC dX12_ball_25 h_75 ?_
    have h_76 := sub_v h_75 (by first | omega | (simp only [Int32.lt_iff_toInt_lt, Int32.le_iff_toInt_le, Int32.reduceToInt, ← Int32.toInt_inj, true_and, and_true, or_true, true_or, false_or, or_false, false_and, and_false, not_true_eq_false, not_false_eq_true] <;> omega)) (by first | omega | (simp only [Int32.lt_iff_toInt_lt, Int32.le_iff_toInt_le, Int32.reduceToInt, ← Int32.toInt_inj, true_and, and_true, or_true, true_or, false_or, or_false, false_and, and_false, not_true_eq_false, not_false_eq_true] <;> omega))
    try simp only [Int32.reduceToInt] at h_76
    obtain ⟨v_77, h_78⟩ : ∃ v9 : Int64, v_74.toInt64 = v9 := ⟨_, rfl⟩
    refine v_i2l hC dX12_ball_26 h_78 ?_
    have h_79 : v_77.toInt = v_74.toInt := by rw [← h_78]; exact Int32.toInt_toInt64 _
    refine v_si hC (rest := []) mt_X12_in (p_X12_in hW_70) mx_X12_in ml_X12_79 (by decide) rfl (cells1 := 0) (slots1 := 0) (by decide) (by decide) (Nat.le_of_ble_eq_true rfl) (Nat.le_of_ble_eq_true rfl) rfl (Nat.le_of_ble_eq_true rfl) dX12_ball_27 (fun r_80 L_81 f_82 h_83 => ?_)
    obtain ⟨rfl, rfl, b_84, x_85⟩ := h_83
    try simp only [Int32.reduceToInt, Int64.reduceToInt] at x_85
    refine v_if_eq hC dX12_ball_30 (tgt := 42) (by decide) (fun h_88 => ?_) (fun h_88 => ?_)
    · simp only [Int32.lt_iff_toInt_lt, Int32.le_iff_toInt_le, Int32.reduceToInt, ← Int32.toInt_inj] at h_88
      refine v_iconst hC dX12_ball_42 (v := (-1)) (by decide) ?_
      exact hR _ _ _ _ _ _ _ dX12_ball_43 rfl (Nat.le_of_ble_eq_true rfl) (Nat.le_of_ble_eq_true rfl) ⟨rfl, hW_70, ((hF_59.tr hF_71).mono rfl), (.inl (by decide)), (.inl (by decide))⟩
    · simp only [Int32.lt_iff_toInt_lt, Int32.le_iff_toInt_le, Int32.reduceToInt, ← Int32.toInt_inj] at h_88
      refine v_aload_n hC dX12_ball_33 rfl ?_
      refine v_get hC fl_X12_61 m_1 hf_73 rfl dX12_ball_34 ?_
      refine v_iload_n hC dX12_ball_37 rfl ?_
      obtain ⟨m_89, t_90⟩ := id k_16
      obtain ⟨g_92, e_91⟩ := hW_70.at m_89 t_90
      obtain ⟨v_93, h_94⟩ : ∃ v9 : Int32, g_92 (a_2 : Int32).toNatClampNeg = v9 := ⟨_, rfl⟩
      refine v_iald hC m_89 e_91 (vp_in_iff.mpr (by first | omega | (simp only [Int32.lt_iff_toInt_lt, Int32.le_iff_toInt_le, Int32.reduceToInt, ← Int32.toInt_inj, true_and, and_true, or_true, true_or, false_or, or_false, false_and, and_false, not_true_eq_false, not_false_eq_true] <;> omega))) h_94 dX12_ball_38 ?_
      refine v_goto hC dX12_ball_39 (tgt := 43) (by decide) ?_
      exact hR _ _ _ _ _ _ _ dX12_ball_43 rfl (Nat.le_of_ble_eq_true rfl) (Nat.le_of_ble_eq_true rfl) ⟨rfl, hW_70, ((hF_59.tr hF_71).mono rfl), (.inr (by first | omega | (simp only [Int32.lt_iff_toInt_lt, Int32.le_iff_toInt_le, Int32.reduceToInt, ← Int32.toInt_inj, true_and, and_true, or_true, true_or, false_or, or_false, false_and, and_false, not_true_eq_false, not_false_eq_true] <;> omega))), (.inr (by first | omega | (simp only [Int32.lt_iff_toInt_lt, Int32.le_iff_toInt_le, Int32.reduceToInt, ← Int32.toInt_inj, true_and, and_true, or_true, true_or, false_or, or_false, false_and, and_false, not_true_eq_false, not_false_eq_true] <;> omega)))⟩
  · simp only [Int32.lt_iff_toInt_lt, Int32.le_iff_toInt_le, Int32.reduceToInt, ← Int32.toInt_inj] at h_53
    refine v_iload_n hC dX12_ball_10 rfl ?_
    exact hR _ _ _ _ _ _ _ dX12_ball_11 rfl (Nat.le_of_ble_eq_true rfl) (Nat.le_of_ble_eq_true rfl) ⟨rfl, hW, FR.rf, (by first | omega | (simp only [Int32.lt_iff_toInt_lt, Int32.le_iff_toInt_le, Int32.reduceToInt, ← Int32.toInt_inj, true_and, and_true, or_true, true_or, false_or, or_false, false_and, and_false, not_true_eq_false, not_false_eq_true] <;> omega)), (by first | omega | (simp only [Int32.lt_iff_toInt_lt, Int32.le_iff_toInt_le, Int32.reduceToInt, ← Int32.toInt_inj, true_and, and_true, or_true, true_or, false_or, or_false, false_and, and_false, not_true_eq_false, not_false_eq_true] <;> omega))⟩
set_option maxRecDepth 100000 in
set_option maxHeartbeats 8000000 in
theorem p_X12_rewind {l : Launch} {E : Ez} {L : List Nat} {f : Nat → va_E} {T : Nat → va_E → Prop} {a_0 : Nat} {a_1 : Int32} {a_2 : Int32} {q : Nat → Nat} {g_w : Nat → Int32} (hW : WT T L f) (k_0 : isM T L E a_0 q) (e_w : f (q 1) = aI E 2076 g_w) (o_w : WOK g_w) : CI l yX12_rewind cX12_rewind 9 .int 2 0 0 E [.ref a_0, .int a_1, .int a_2] L f (fun r L1 f1 => L = L1 ∧ WT T L f1 ∧ FR [356, 2176] f f1 ∧ (¬ r.toInt = 0 ∨ (0 ≤ a_1.toInt ∧ a_1.toInt ≤ 3)) ∧ (¬ r.toInt = 0 ∨ (0 ≤ a_2.toInt ∧ a_2.toInt ≤ 3))) := by
  refine ci_of (by decide) (Nat.le_of_ble_eq_true rfl) (fun z hz hnm hC hR => ?_)
  have hC : Cx z E cX12_rewind RX12 9 2 0 0 := hC
  subst hz
  show V z E 9 0 0 L f 0 [(0, .ref a_0), (1, .int a_1), (2, .int a_2)] []
  obtain ⟨m_1, t_2, nq_21, k_3, k_4, k_5, k_6, k_7, k_8, k_9, k_10, k_11, k_12, k_13, k_14, k_15, k_16, k_17, k_18, k_19, k_20⟩ := id k_0
  obtain ⟨m_22, t_23⟩ := id k_3
  have b_24 := o_w.r0
  have b_25 := o_w.w0
  refine v_iload_n hC dX12_rewind_0 rfl ?_
  refine v_si hC (rest := []) mt_X12_isCloth (p_X12_isCloth hW) mx_X12_isCloth ml_X12_319 (by decide) rfl (cells1 := 0) (slots1 := 0) (by decide) (by decide) (Nat.le_of_ble_eq_true rfl) (Nat.le_of_ble_eq_true rfl) rfl (Nat.le_of_ble_eq_true rfl) dX12_rewind_1 (fun r_26 L_27 f_28 h_29 => ?_)
  obtain ⟨rfl, rfl, b_30, h_31⟩ := h_29
  refine v_if_eq hC dX12_rewind_4 (tgt := 14) (by decide) (fun h_34 => ?_) (fun h_34 => ?_)
  · simp only [Int32.lt_iff_toInt_lt, Int32.le_iff_toInt_le, Int32.reduceToInt, ← Int32.toInt_inj] at h_34
    refine v_bipush hC dX12_rewind_14 (v := (-2)) (by decide) ?_
    exact hR _ _ _ _ _ _ _ dX12_rewind_16 rfl (Nat.le_of_ble_eq_true rfl) (Nat.le_of_ble_eq_true rfl) ⟨rfl, hW, FR.rf, (.inl (by decide)), (.inl (by decide))⟩
  · simp only [Int32.lt_iff_toInt_lt, Int32.le_iff_toInt_le, Int32.reduceToInt, ← Int32.toInt_inj] at h_34
    refine v_iload_n hC dX12_rewind_7 rfl ?_
    refine v_si hC (rest := []) mt_X12_isCloth (p_X12_isCloth hW) mx_X12_isCloth ml_X12_319 (by decide) rfl (cells1 := 0) (slots1 := 0) (by decide) (by decide) (Nat.le_of_ble_eq_true rfl) (Nat.le_of_ble_eq_true rfl) rfl (Nat.le_of_ble_eq_true rfl) dX12_rewind_8 (fun r_35 L_36 f_37 h_38 => ?_)
    obtain ⟨rfl, rfl, b_39, h_40⟩ := h_38
    refine v_if_ne hC dX12_rewind_11 (tgt := 17) (by decide) (fun h_43 => ?_) (fun h_43 => ?_)
    · simp only [Int32.lt_iff_toInt_lt, Int32.le_iff_toInt_le, Int32.reduceToInt, ← Int32.toInt_inj] at h_43
      refine v_aload_n hC dX12_rewind_17 rfl ?_
      refine v_iload_n hC dX12_rewind_18 rfl ?_
      obtain ⟨v_45, v_46, v_48, v_50, v_52, v_54, v_56, v_57, v_58, v_59, v_61, e_44, b_47, b_49, b_51, b_53, b_55, b_60, b_62⟩ := hW.at m_1 t_2
      refine v_vi hC (rest := []) m_1 e_44 rfl mi_X12_isThere ms_X12_isThere (p_X12_isThere hW k_0 (by first | omega | (simp only [Int32.lt_iff_toInt_lt, Int32.le_iff_toInt_le, Int32.reduceToInt, ← Int32.toInt_inj, true_and, and_true, or_true, true_or, false_or, or_false, false_and, and_false, not_true_eq_false, not_false_eq_true] <;> omega)) e_w o_w) mx_X12_isThere ml_X12_351 (by decide) rfl (cells1 := 0) (slots1 := 0) (by decide) (by decide) (Nat.le_of_ble_eq_true rfl) (Nat.le_of_ble_eq_true rfl) rfl (Nat.le_of_ble_eq_true rfl) dX12_rewind_19 (fun r_63 L_64 f_65 h_66 => ?_)
      obtain ⟨rfl, rfl, b_67⟩ := h_66
      refine v_if_ne hC dX12_rewind_22 (tgt := 28) (by decide) (fun h_70 => ?_) (fun h_70 => ?_)
      · simp only [Int32.lt_iff_toInt_lt, Int32.le_iff_toInt_le, Int32.reduceToInt, ← Int32.toInt_inj] at h_70
        refine v_aload_n hC dX12_rewind_28 rfl ?_
        refine v_iload_n hC dX12_rewind_29 rfl ?_
        refine v_vv hC (rest := []) m_1 e_44 rfl mi_X12_takes0 ms_X12_takes0 (p_X12_takes0 hW k_0 (by first | omega | (simp only [Int32.lt_iff_toInt_lt, Int32.le_iff_toInt_le, Int32.reduceToInt, ← Int32.toInt_inj, true_and, and_true, or_true, true_or, false_or, or_false, false_and, and_false, not_true_eq_false, not_false_eq_true] <;> omega)) e_w o_w) mx_X12_takes0 ml_X12_363 (by decide) rfl (cells1 := 0) (slots1 := 0) (by decide) (by decide) (Nat.le_of_ble_eq_true rfl) (Nat.le_of_ble_eq_true rfl) rfl (Nat.le_of_ble_eq_true rfl) dX12_rewind_30 (fun L_72 f_73 h_74 => ?_)
        obtain ⟨rfl, hW_75, hF_76⟩ := h_74
        have hf_77 := hF_76.at e_w rfl
        have hf_78 := hF_76.at e_44 rfl
        refine v_aload_n hC dX12_rewind_33 rfl ?_
        refine v_vi hC (rest := []) m_1 hf_78 rfl mi_X12_unravels ms_X12_unravels (p_X12_unravels hW_75 k_0 hf_77 o_w) mx_X12_unravels ml_X12_422 (by decide) rfl (cells1 := 0) (slots1 := 0) (by decide) (by decide) (Nat.le_of_ble_eq_true rfl) (Nat.le_of_ble_eq_true rfl) rfl (Nat.le_of_ble_eq_true rfl) dX12_rewind_34 (fun r_79 L_80 f_81 h_82 => ?_)
        obtain ⟨rfl, hW_84, hF_85, b_83⟩ := h_82
        have hf_86 := hF_85.at hf_77 rfl
        have hf_87 := hF_85.at hf_78 rfl
        refine v_istore_n hC dX12_rewind_37 (by decide) (lv' := [(3, .int r_79), (0, .ref a_0), (1, .int a_1), (2, .int a_2)]) rfl ?_
        refine v_iconst hC dX12_rewind_38 (v := 0) (by decide) ?_
        refine v_istore hC dX12_rewind_39 (by decide) (lv' := [(4, .int 0), (3, .int r_79), (0, .ref a_0), (1, .int a_1), (2, .int a_2)]) rfl ?_
        refine v_iconst hC dX12_rewind_41 (v := 0) (by decide) ?_
        refine v_istore hC dX12_rewind_42 (by decide) (lv' := [(5, .int 0), (4, .int 0), (3, .int r_79), (0, .ref a_0), (1, .int a_1), (2, .int a_2)]) rfl ?_
        have lp_6122 : ∀ (n_6123 : Nat) (f_6114 : Nat → va_E) (hW_6115 : WT T L f_6114) (hF_6116 : FR [356] f_81 f_6114) (i_6111 : Int32) (b_6119 : (0 ≤ i_6111.toInt ∧ i_6111.toInt ≤ 16)) (i_6112 : Int32) (i_6113 : Int32) (b_6120 : ((-272) ≤ i_6113.toInt ∧ i_6113.toInt ≤ 256)) (nv_6121 : 0 ≤ i_6113.toInt + 16 * i_6111.toInt) (hm_6125 : 16 - i_6111.toInt < (n_6123 : Int)), V z E 9 0 0 L f_6114 44 [(5, .int i_6111), (4, .int i_6112), (3, .int i_6113), (0, .ref a_0), (2, .int a_2)] [] := by
          intro n_6123
          induction n_6123 with
          | zero =>
            intro f_6114 hW_6115 hF_6116 i_6111 b_6119 i_6112 i_6113 b_6120 nv_6121 hm_6125
            have hf_6117 := hF_6116.at hf_86 rfl
            have hf_6118 := hF_6116.at hf_87 rfl
            exfalso; omega
          | succ n_6123 ih_6124 =>
            intro f_6114 hW_6115 hF_6116 i_6111 b_6119 i_6112 i_6113 b_6120 nv_6121 hm_6125
            have hf_6117 := hF_6116.at hf_86 rfl
            have hf_6118 := hF_6116.at hf_87 rfl
            refine v_iload hC dX12_rewind_44 rfl ?_
            refine v_aload_n hC dX12_rewind_46 rfl ?_
            refine v_vi hC (rest := [.int i_6111]) m_1 hf_6118 rfl mi_X12_rows ms_X12_rows (p_X12_rows hW_6115 k_0 hf_6117 o_w) mx_X12_rows ml_X12_83 (by decide) rfl (cells1 := 0) (slots1 := 0) (by decide) (by decide) (Nat.le_of_ble_eq_true rfl) (Nat.le_of_ble_eq_true rfl) rfl (Nat.le_of_ble_eq_true rfl) dX12_rewind_47 (fun r_6126 L_6127 f_6128 h_6129 => ?_)
            obtain ⟨rfl, rfl, rfl⟩ := h_6129
            refine v_icmp_ge hC dX12_rewind_50 (tgt := 158) (by decide) (fun h_6132 => ?_) (fun h_6132 => ?_)
            · simp only [Int32.lt_iff_toInt_lt, Int32.le_iff_toInt_le, Int32.reduceToInt, ← Int32.toInt_inj] at h_6132
              refine v_aload_n hC dX12_rewind_158 rfl ?_
              refine v_iload_n hC dX12_rewind_159 rfl ?_
              refine v_vv hC (rest := []) m_1 hf_6118 rfl mi_X12_gives ms_X12_gives (p_X12_gives hW_6115 k_0 (by first | omega | (simp only [Int32.lt_iff_toInt_lt, Int32.le_iff_toInt_le, Int32.reduceToInt, ← Int32.toInt_inj, true_and, and_true, or_true, true_or, false_or, or_false, false_and, and_false, not_true_eq_false, not_false_eq_true] <;> omega)) hf_6117 o_w) mx_X12_gives ml_X12_332 (by decide) rfl (cells1 := 0) (slots1 := 0) (by decide) (by decide) (Nat.le_of_ble_eq_true rfl) (Nat.le_of_ble_eq_true rfl) rfl (Nat.le_of_ble_eq_true rfl) dX12_rewind_160 (fun L_6134 f_6135 h_6136 => ?_)
              obtain ⟨rfl, hW_6137, hF_6138⟩ := h_6136
              have hf_6139 := hF_6138.at hf_6118 rfl
              refine v_iload hC dX12_rewind_163 rfl ?_
              exact hR _ _ _ _ _ _ _ dX12_rewind_165 rfl (Nat.le_of_ble_eq_true rfl) (Nat.le_of_ble_eq_true rfl) ⟨rfl, hW_6137, ((((hF_76.tr hF_85).tr hF_6116).tr hF_6138).mono rfl), (.inr (by first | omega | (simp only [Int32.lt_iff_toInt_lt, Int32.le_iff_toInt_le, Int32.reduceToInt, ← Int32.toInt_inj, true_and, and_true, or_true, true_or, false_or, or_false, false_and, and_false, not_true_eq_false, not_false_eq_true] <;> omega))), (.inr (by first | omega | (simp only [Int32.lt_iff_toInt_lt, Int32.le_iff_toInt_le, Int32.reduceToInt, ← Int32.toInt_inj, true_and, and_true, or_true, true_or, false_or, or_false, false_and, and_false, not_true_eq_false, not_false_eq_true] <;> omega)))⟩
            · simp only [Int32.lt_iff_toInt_lt, Int32.le_iff_toInt_le, Int32.reduceToInt, ← Int32.toInt_inj] at h_6132
              refine v_iconst hC dX12_rewind_53 (v := 0) (by decide) ?_
              refine v_istore hC dX12_rewind_54 (by decide) (lv' := [(6, .int 0), (5, .int i_6111), (4, .int i_6112), (3, .int i_6113), (0, .ref a_0), (2, .int a_2)]) rfl ?_
              have lp_6758 : ∀ (n_6759 : Nat) (f_6750 : Nat → va_E) (hW_6751 : WT T L f_6750) (hF_6752 : FR [356] f_6114 f_6750) (i_6747 : Int32) (b_6755 : (0 ≤ i_6747.toInt ∧ i_6747.toInt ≤ 16)) (i_6748 : Int32) (i_6749 : Int32) (b_6756 : ((-272) ≤ i_6749.toInt ∧ i_6749.toInt ≤ 256)) (nv_6757 : 0 ≤ i_6749.toInt + 16 * i_6111.toInt + i_6747.toInt) (hm_6761 : 16 - i_6747.toInt < (n_6759 : Int)), V z E 9 0 0 L f_6750 56 [(6, .int i_6747), (5, .int i_6111), (4, .int i_6748), (3, .int i_6749), (0, .ref a_0), (2, .int a_2)] [] := by
                intro n_6759
                induction n_6759 with
                | zero =>
                  intro f_6750 hW_6751 hF_6752 i_6747 b_6755 i_6748 i_6749 b_6756 nv_6757 hm_6761
                  have hf_6753 := hF_6752.at hf_6117 rfl
                  have hf_6754 := hF_6752.at hf_6118 rfl
                  exfalso; omega
                | succ n_6759 ih_6760 =>
                  intro f_6750 hW_6751 hF_6752 i_6747 b_6755 i_6748 i_6749 b_6756 nv_6757 hm_6761
                  have hf_6753 := hF_6752.at hf_6117 rfl
                  have hf_6754 := hF_6752.at hf_6118 rfl
                  refine v_iload hC dX12_rewind_56 rfl ?_
                  refine v_aload_n hC dX12_rewind_58 rfl ?_
                  refine v_vi hC (rest := [.int i_6747]) m_1 hf_6754 rfl mi_X12_wide ms_X12_wide (p_X12_wide hW_6751 k_0 hf_6753 o_w) mx_X12_wide ml_X12_87 (by decide) rfl (cells1 := 0) (slots1 := 0) (by decide) (by decide) (Nat.le_of_ble_eq_true rfl) (Nat.le_of_ble_eq_true rfl) rfl (Nat.le_of_ble_eq_true rfl) dX12_rewind_59 (fun r_6762 L_6763 f_6764 h_6765 => ?_)
                  obtain ⟨rfl, rfl, rfl⟩ := h_6765
                  refine v_icmp_ge hC dX12_rewind_62 (tgt := 152) (by decide) (fun h_6768 => ?_) (fun h_6768 => ?_)
                  · simp only [Int32.lt_iff_toInt_lt, Int32.le_iff_toInt_le, Int32.reduceToInt, ← Int32.toInt_inj] at h_6768
                    obtain ⟨v_6769, h_6770⟩ : ∃ v9 : Int32, i_6111 + Int32.ofInt 1 = v9 := ⟨_, rfl⟩
                    have h_6771 := add_v (b := 1) h_6770 (by first | omega | (simp only [Int32.lt_iff_toInt_lt, Int32.le_iff_toInt_le, Int32.reduceToInt, ← Int32.toInt_inj, true_and, and_true, or_true, true_or, false_or, or_false, false_and, and_false, not_true_eq_false, not_false_eq_true] <;> omega)) (by first | omega | (simp only [Int32.lt_iff_toInt_lt, Int32.le_iff_toInt_le, Int32.reduceToInt, ← Int32.toInt_inj, true_and, and_true, or_true, true_or, false_or, or_false, false_and, and_false, not_true_eq_false, not_false_eq_true] <;> omega))
                    simp only [Int32.reduceToInt] at h_6771
                    refine v_iinc hC dX12_rewind_152 (k := 1) rfl (v := v_6769) h_6770 (by decide) (lv' := [(5, .int v_6769), (6, .int i_6747), (4, .int i_6748), (3, .int i_6749), (0, .ref a_0), (2, .int a_2)]) rfl ?_
                    refine v_goto hC dX12_rewind_155 (tgt := 44) (by decide) ?_
                    refine v_pick [0, 2, 3, 4, 5] rfl ?_
                    exact ih_6124 f_6750 hW_6751 ((hF_6116.tr hF_6752).mono rfl) v_6769 (by first | omega | (simp only [Int32.lt_iff_toInt_lt, Int32.le_iff_toInt_le, Int32.reduceToInt, ← Int32.toInt_inj, true_and, and_true, or_true, true_or, false_or, or_false, false_and, and_false, not_true_eq_false, not_false_eq_true] <;> omega)) i_6748 i_6749 (by first | omega | (simp only [Int32.lt_iff_toInt_lt, Int32.le_iff_toInt_le, Int32.reduceToInt, ← Int32.toInt_inj, true_and, and_true, or_true, true_or, false_or, or_false, false_and, and_false, not_true_eq_false, not_false_eq_true] <;> omega)) (by first | omega | (simp only [Int32.lt_iff_toInt_lt, Int32.le_iff_toInt_le, Int32.reduceToInt, ← Int32.toInt_inj, true_and, and_true, or_true, true_or, false_or, or_false, false_and, and_false, not_true_eq_false, not_false_eq_true] <;> omega)) (by first | omega | (simp only [Int32.lt_iff_toInt_lt, Int32.le_iff_toInt_le, Int32.reduceToInt, ← Int32.toInt_inj, true_and, and_true, or_true, true_or, false_or, or_false, false_and, and_false, not_true_eq_false, not_false_eq_true] <;> omega))
                  · simp only [Int32.lt_iff_toInt_lt, Int32.le_iff_toInt_le, Int32.reduceToInt, ← Int32.toInt_inj] at h_6768
                    refine v_iload hC dX12_rewind_65 rfl ?_
                    refine v_aload_n hC dX12_rewind_67 rfl ?_
                    refine v_vi hC (rest := [.int i_6111]) m_1 hf_6754 rfl mi_X12_wide ms_X12_wide (p_X12_wide hW_6751 k_0 hf_6753 o_w) mx_X12_wide ml_X12_87 (by decide) rfl (cells1 := 0) (slots1 := 0) (by decide) (by decide) (Nat.le_of_ble_eq_true rfl) (Nat.le_of_ble_eq_true rfl) rfl (Nat.le_of_ble_eq_true rfl) dX12_rewind_68 (fun r_6772 L_6773 f_6774 h_6775 => ?_)
                    obtain ⟨rfl, rfl, rfl⟩ := h_6775
                    obtain ⟨v_6778, h_6779⟩ : ∃ v9 : Int32, i_6111 * (g_w 1) = v9 := ⟨_, rfl⟩
                    refine v_imul hC dX12_rewind_71 h_6779 ?_
                    have h_6780 := mul_v 15 16 240 h_6779 (by first | omega | (simp only [Int32.lt_iff_toInt_lt, Int32.le_iff_toInt_le, Int32.reduceToInt, ← Int32.toInt_inj, true_and, and_true, or_true, true_or, false_or, or_false, false_and, and_false, not_true_eq_false, not_false_eq_true] <;> omega)) (by first | omega | (simp only [Int32.lt_iff_toInt_lt, Int32.le_iff_toInt_le, Int32.reduceToInt, ← Int32.toInt_inj, true_and, and_true, or_true, true_or, false_or, or_false, false_and, and_false, not_true_eq_false, not_false_eq_true] <;> omega)) (by decide) (by decide)
                    refine v_iload hC dX12_rewind_72 rfl ?_
                    refine v_iconst hC dX12_rewind_74 (v := 2) (by decide) ?_
                    obtain ⟨v_6781, h_6782⟩ : ∃ v9 : Int32, i_6111 - i_6111 / 2 * 2 = v9 := ⟨_, rfl⟩
                    refine v_irem hC dX12_rewind_75 (by decide) h_6782 ?_
                    have h_6783 := rem_v h_6782 (by first | omega | (simp only [Int32.lt_iff_toInt_lt, Int32.le_iff_toInt_le, Int32.reduceToInt, ← Int32.toInt_inj, true_and, and_true, or_true, true_or, false_or, or_false, false_and, and_false, not_true_eq_false, not_false_eq_true] <;> omega)) (by decide)
                    try simp only [Int32.reduceToInt] at h_6783
                    have jn_6798 : ∀ (v_6799 : Int32) (b_6800 : (0 ≤ v_6799.toInt ∧ v_6799.toInt ≤ 15)), V z E 9 0 0 L f_6750 93 [(6, .int i_6747), (5, .int i_6111), (4, .int i_6748), (3, .int i_6749), (0, .ref a_0), (2, .int a_2)] [.int v_6799, .int v_6778] := by
                      intro v_6799 b_6800
                      obtain ⟨v_6801, h_6802⟩ : ∃ v9 : Int32, v_6778 + v_6799 = v9 := ⟨_, rfl⟩
                      refine v_iadd hC dX12_rewind_93 h_6802 ?_
                      have h_6803 := add_v h_6802 (by first | omega | (simp only [Int32.lt_iff_toInt_lt, Int32.le_iff_toInt_le, Int32.reduceToInt, ← Int32.toInt_inj, true_and, and_true, or_true, true_or, false_or, or_false, false_and, and_false, not_true_eq_false, not_false_eq_true] <;> omega)) (by first | omega | (simp only [Int32.lt_iff_toInt_lt, Int32.le_iff_toInt_le, Int32.reduceToInt, ← Int32.toInt_inj, true_and, and_true, or_true, true_or, false_or, or_false, false_and, and_false, not_true_eq_false, not_false_eq_true] <;> omega))
                      refine v_istore hC dX12_rewind_94 (by decide) (lv' := [(7, .int v_6801), (6, .int i_6747), (5, .int i_6111), (4, .int i_6748), (3, .int i_6749), (0, .ref a_0), (2, .int a_2)]) rfl ?_
                      obtain ⟨v_6804, h_6805⟩ : ∃ v9 : Int32, i_6749 + Int32.ofInt (-1) = v9 := ⟨_, rfl⟩
                      have h_6806 := add_v (b := (-1)) h_6805 (by first | omega | (simp only [Int32.lt_iff_toInt_lt, Int32.le_iff_toInt_le, Int32.reduceToInt, ← Int32.toInt_inj, true_and, and_true, or_true, true_or, false_or, or_false, false_and, and_false, not_true_eq_false, not_false_eq_true] <;> omega)) (by first | omega | (simp only [Int32.lt_iff_toInt_lt, Int32.le_iff_toInt_le, Int32.reduceToInt, ← Int32.toInt_inj, true_and, and_true, or_true, true_or, false_or, or_false, false_and, and_false, not_true_eq_false, not_false_eq_true] <;> omega))
                      simp only [Int32.reduceToInt] at h_6806
                      refine v_iinc hC dX12_rewind_96 (k := 4) rfl (v := v_6804) h_6805 (by decide) (lv' := [(3, .int v_6804), (7, .int v_6801), (6, .int i_6747), (5, .int i_6111), (4, .int i_6748), (0, .ref a_0), (2, .int a_2)]) rfl ?_
                      refine v_iload_n hC dX12_rewind_99 rfl ?_
                      have jn_6814 : ∀ (v_6815 : Int32), V z E 9 0 0 L f_6750 113 [(3, .int v_6804), (7, .int v_6801), (6, .int i_6747), (5, .int i_6111), (4, .int i_6748), (0, .ref a_0), (2, .int a_2)] [.int v_6815] := by
                        intro v_6815
                        refine v_istore hC dX12_rewind_113 (by decide) (lv' := [(8, .int v_6815), (3, .int v_6804), (7, .int v_6801), (6, .int i_6747), (5, .int i_6111), (4, .int i_6748), (0, .ref a_0), (2, .int a_2)]) rfl ?_
                        refine v_iload hC dX12_rewind_115 rfl ?_
                        refine v_iload hC dX12_rewind_117 rfl ?_
                        refine v_aload_n hC dX12_rewind_119 rfl ?_
                        refine v_get hC fl_X12_37 m_1 hf_6754 rfl dX12_rewind_120 ?_
                        refine v_iload hC dX12_rewind_123 rfl ?_
                        obtain ⟨m_6816, t_6817⟩ := id k_9
                        obtain ⟨g_6819, e_6818⟩ := hW_6751.at m_6816 t_6817
                        obtain ⟨v_6820, h_6821⟩ : ∃ v9 : Int32, g_6819 (v_6801 : Int32).toNatClampNeg = v9 := ⟨_, rfl⟩
                        refine v_iald hC m_6816 e_6818 (vp_in_iff.mpr (by first | omega | (simp only [Int32.lt_iff_toInt_lt, Int32.le_iff_toInt_le, Int32.reduceToInt, ← Int32.toInt_inj, true_and, and_true, or_true, true_or, false_or, or_false, false_and, and_false, not_true_eq_false, not_false_eq_true] <;> omega))) h_6821 dX12_rewind_125 ?_
                        refine v_icmp_ne hC dX12_rewind_126 (tgt := 133) (by decide) (fun h_6822 => ?_) (fun h_6822 => ?_)
                        · simp only [Int32.lt_iff_toInt_lt, Int32.le_iff_toInt_le, Int32.reduceToInt, ← Int32.toInt_inj] at h_6822
                          refine v_iconst hC dX12_rewind_133 (v := 1) (by decide) ?_
                          obtain ⟨v_6823, h_6824⟩ : ∃ v9 : Int32, i_6748 + 1 = v9 := ⟨_, rfl⟩
                          refine v_iadd hC dX12_rewind_134 h_6824 ?_
                          refine v_istore hC dX12_rewind_135 (by decide) (lv' := [(4, .int v_6823), (8, .int v_6815), (3, .int v_6804), (7, .int v_6801), (6, .int i_6747), (5, .int i_6111), (0, .ref a_0), (2, .int a_2)]) rfl ?_
                          refine v_aload_n hC dX12_rewind_137 rfl ?_
                          refine v_get hC fl_X12_37 m_1 hf_6754 rfl dX12_rewind_138 ?_
                          refine v_iload hC dX12_rewind_141 rfl ?_
                          refine v_iload hC dX12_rewind_143 rfl ?_
                          refine v_iast hC m_6816 e_6818 (vp_in_iff.mpr (by first | omega | (simp only [Int32.lt_iff_toInt_lt, Int32.le_iff_toInt_le, Int32.reduceToInt, ← Int32.toInt_inj, true_and, and_true, or_true, true_or, false_or, or_false, false_and, and_false, not_true_eq_false, not_false_eq_true] <;> omega))) dX12_rewind_145 (fun f_6826 hf_6827 hk_6828 => ?_)
                          have hW_6830 := hW_6751.up hf_6827 hk_6828 t_6817 ⟨_, rfl⟩
                          obtain ⟨g_6829, hf_6827⟩ : ∃ g9, f_6826 (q 15) = aI E 256 g9 := ⟨_, hf_6827⟩
                          have hf_6831 := (hk_6828 (q 1) (ne_kd hf_6753 e_6818 rfl)).trans hf_6753
                          have hf_6832 := (hk_6828 a_0 (ne_kd hf_6754 e_6818 rfl)).trans hf_6754
                          have fr_6833 := FR.w hk_6828 e_6818 (k := 356) rfl
                          obtain ⟨v_6834, h_6835⟩ : ∃ v9 : Int32, i_6747 + Int32.ofInt 1 = v9 := ⟨_, rfl⟩
                          have h_6836 := add_v (b := 1) h_6835 (by first | omega | (simp only [Int32.lt_iff_toInt_lt, Int32.le_iff_toInt_le, Int32.reduceToInt, ← Int32.toInt_inj, true_and, and_true, or_true, true_or, false_or, or_false, false_and, and_false, not_true_eq_false, not_false_eq_true] <;> omega)) (by first | omega | (simp only [Int32.lt_iff_toInt_lt, Int32.le_iff_toInt_le, Int32.reduceToInt, ← Int32.toInt_inj, true_and, and_true, or_true, true_or, false_or, or_false, false_and, and_false, not_true_eq_false, not_false_eq_true] <;> omega))
                          simp only [Int32.reduceToInt] at h_6836
                          refine v_iinc hC dX12_rewind_146 (k := 4) rfl (v := v_6834) h_6835 (by decide) (lv' := [(6, .int v_6834), (4, .int v_6823), (8, .int v_6815), (3, .int v_6804), (7, .int v_6801), (5, .int i_6111), (0, .ref a_0), (2, .int a_2)]) rfl ?_
                          refine v_goto hC dX12_rewind_149 (tgt := 56) (by decide) ?_
                          refine v_pick [0, 5, 1, 3, 6, 7] rfl ?_
                          exact ih_6760 f_6826 hW_6830 ((hF_6752.tr fr_6833).mono rfl) v_6834 (by first | omega | (simp only [Int32.lt_iff_toInt_lt, Int32.le_iff_toInt_le, Int32.reduceToInt, ← Int32.toInt_inj, true_and, and_true, or_true, true_or, false_or, or_false, false_and, and_false, not_true_eq_false, not_false_eq_true] <;> omega)) v_6823 v_6804 (by first | omega | (simp only [Int32.lt_iff_toInt_lt, Int32.le_iff_toInt_le, Int32.reduceToInt, ← Int32.toInt_inj, true_and, and_true, or_true, true_or, false_or, or_false, false_and, and_false, not_true_eq_false, not_false_eq_true] <;> omega)) (by first | omega | (simp only [Int32.lt_iff_toInt_lt, Int32.le_iff_toInt_le, Int32.reduceToInt, ← Int32.toInt_inj, true_and, and_true, or_true, true_or, false_or, or_false, false_and, and_false, not_true_eq_false, not_false_eq_true] <;> omega)) (by first | omega | (simp only [Int32.lt_iff_toInt_lt, Int32.le_iff_toInt_le, Int32.reduceToInt, ← Int32.toInt_inj, true_and, and_true, or_true, true_or, false_or, or_false, false_and, and_false, not_true_eq_false, not_false_eq_true] <;> omega))
                        · simp only [Int32.lt_iff_toInt_lt, Int32.le_iff_toInt_le, Int32.reduceToInt, ← Int32.toInt_inj] at h_6822
                          refine v_iconst hC dX12_rewind_129 (v := 0) (by decide) ?_
                          refine v_goto hC dX12_rewind_130 (tgt := 134) (by decide) ?_
                          obtain ⟨v_6837, h_6838⟩ : ∃ v9 : Int32, i_6748 + 0 = v9 := ⟨_, rfl⟩
                          refine v_iadd hC dX12_rewind_134 h_6838 ?_
                          have rg_6840 := Int32.toInt_lt i_6748
                          have rg_6841 := Int32.le_toInt i_6748
                          have h_6839 := add_v h_6838 (by first | omega | (simp only [Int32.lt_iff_toInt_lt, Int32.le_iff_toInt_le, Int32.reduceToInt, ← Int32.toInt_inj, true_and, and_true, or_true, true_or, false_or, or_false, false_and, and_false, not_true_eq_false, not_false_eq_true] <;> omega)) (by first | omega | (simp only [Int32.lt_iff_toInt_lt, Int32.le_iff_toInt_le, Int32.reduceToInt, ← Int32.toInt_inj, true_and, and_true, or_true, true_or, false_or, or_false, false_and, and_false, not_true_eq_false, not_false_eq_true] <;> omega))
                          try simp only [Int32.reduceToInt] at h_6839
                          refine v_istore hC dX12_rewind_135 (by decide) (lv' := [(4, .int v_6837), (8, .int v_6815), (3, .int v_6804), (7, .int v_6801), (6, .int i_6747), (5, .int i_6111), (0, .ref a_0), (2, .int a_2)]) rfl ?_
                          refine v_aload_n hC dX12_rewind_137 rfl ?_
                          refine v_get hC fl_X12_37 m_1 hf_6754 rfl dX12_rewind_138 ?_
                          refine v_iload hC dX12_rewind_141 rfl ?_
                          refine v_iload hC dX12_rewind_143 rfl ?_
                          refine v_iast hC m_6816 e_6818 (vp_in_iff.mpr (by first | omega | (simp only [Int32.lt_iff_toInt_lt, Int32.le_iff_toInt_le, Int32.reduceToInt, ← Int32.toInt_inj, true_and, and_true, or_true, true_or, false_or, or_false, false_and, and_false, not_true_eq_false, not_false_eq_true] <;> omega))) dX12_rewind_145 (fun f_6842 hf_6843 hk_6844 => ?_)
                          have hW_6846 := hW_6751.up hf_6843 hk_6844 t_6817 ⟨_, rfl⟩
                          obtain ⟨g_6845, hf_6843⟩ : ∃ g9, f_6842 (q 15) = aI E 256 g9 := ⟨_, hf_6843⟩
                          have hf_6847 := (hk_6844 (q 1) (ne_kd hf_6753 e_6818 rfl)).trans hf_6753
                          have hf_6848 := (hk_6844 a_0 (ne_kd hf_6754 e_6818 rfl)).trans hf_6754
                          have fr_6849 := FR.w hk_6844 e_6818 (k := 356) rfl
                          obtain ⟨v_6850, h_6851⟩ : ∃ v9 : Int32, i_6747 + Int32.ofInt 1 = v9 := ⟨_, rfl⟩
                          have h_6852 := add_v (b := 1) h_6851 (by first | omega | (simp only [Int32.lt_iff_toInt_lt, Int32.le_iff_toInt_le, Int32.reduceToInt, ← Int32.toInt_inj, true_and, and_true, or_true, true_or, false_or, or_false, false_and, and_false, not_true_eq_false, not_false_eq_true] <;> omega)) (by first | omega | (simp only [Int32.lt_iff_toInt_lt, Int32.le_iff_toInt_le, Int32.reduceToInt, ← Int32.toInt_inj, true_and, and_true, or_true, true_or, false_or, or_false, false_and, and_false, not_true_eq_false, not_false_eq_true] <;> omega))
                          simp only [Int32.reduceToInt] at h_6852
                          refine v_iinc hC dX12_rewind_146 (k := 4) rfl (v := v_6850) h_6851 (by decide) (lv' := [(6, .int v_6850), (4, .int v_6837), (8, .int v_6815), (3, .int v_6804), (7, .int v_6801), (5, .int i_6111), (0, .ref a_0), (2, .int a_2)]) rfl ?_
                          refine v_goto hC dX12_rewind_149 (tgt := 56) (by decide) ?_
                          refine v_pick [0, 5, 1, 3, 6, 7] rfl ?_
                          exact ih_6760 f_6842 hW_6846 ((hF_6752.tr fr_6849).mono rfl) v_6850 (by first | omega | (simp only [Int32.lt_iff_toInt_lt, Int32.le_iff_toInt_le, Int32.reduceToInt, ← Int32.toInt_inj, true_and, and_true, or_true, true_or, false_or, or_false, false_and, and_false, not_true_eq_false, not_false_eq_true] <;> omega)) v_6837 v_6804 (by first | omega | (simp only [Int32.lt_iff_toInt_lt, Int32.le_iff_toInt_le, Int32.reduceToInt, ← Int32.toInt_inj, true_and, and_true, or_true, true_or, false_or, or_false, false_and, and_false, not_true_eq_false, not_false_eq_true] <;> omega)) (by first | omega | (simp only [Int32.lt_iff_toInt_lt, Int32.le_iff_toInt_le, Int32.reduceToInt, ← Int32.toInt_inj, true_and, and_true, or_true, true_or, false_or, or_false, false_and, and_false, not_true_eq_false, not_false_eq_true] <;> omega)) (by first | omega | (simp only [Int32.lt_iff_toInt_lt, Int32.le_iff_toInt_le, Int32.reduceToInt, ← Int32.toInt_inj, true_and, and_true, or_true, true_or, false_or, or_false, false_and, and_false, not_true_eq_false, not_false_eq_true] <;> omega))
                      refine v_if_lt hC dX12_rewind_100 (tgt := 112) (by decide) (fun h_6807 => ?_) (fun h_6807 => ?_)
                      · simp only [Int32.lt_iff_toInt_lt, Int32.le_iff_toInt_le, Int32.reduceToInt, ← Int32.toInt_inj] at h_6807
                        refine v_iconst hC dX12_rewind_112 (v := 4) (by decide) ?_
                        refine v_pick [0, 1, 2, 3, 4, 5, 6] rfl ?_
                        exact jn_6814 4
                      · simp only [Int32.lt_iff_toInt_lt, Int32.le_iff_toInt_le, Int32.reduceToInt, ← Int32.toInt_inj] at h_6807
                        refine v_aload_n hC dX12_rewind_103 rfl ?_
                        refine v_get hC fl_X12_61 m_1 hf_6754 rfl dX12_rewind_104 ?_
                        refine v_iload_n hC dX12_rewind_107 rfl ?_
                        obtain ⟨m_6853, t_6854⟩ := id k_16
                        obtain ⟨g_6856, e_6855⟩ := hW_6751.at m_6853 t_6854
                        obtain ⟨v_6857, h_6858⟩ : ∃ v9 : Int32, g_6856 (v_6804 : Int32).toNatClampNeg = v9 := ⟨_, rfl⟩
                        refine v_iald hC m_6853 e_6855 (vp_in_iff.mpr (by first | omega | (simp only [Int32.lt_iff_toInt_lt, Int32.le_iff_toInt_le, Int32.reduceToInt, ← Int32.toInt_inj, true_and, and_true, or_true, true_or, false_or, or_false, false_and, and_false, not_true_eq_false, not_false_eq_true] <;> omega))) h_6858 dX12_rewind_108 ?_
                        refine v_goto hC dX12_rewind_109 (tgt := 113) (by decide) ?_
                        refine v_pick [0, 1, 2, 3, 4, 5, 6] rfl ?_
                        exact jn_6814 v_6857
                    refine v_if_ne hC dX12_rewind_76 (tgt := 84) (by decide) (fun h_6784 => ?_) (fun h_6784 => ?_)
                    · simp only [Int32.lt_iff_toInt_lt, Int32.le_iff_toInt_le, Int32.reduceToInt, ← Int32.toInt_inj] at h_6784
                      refine v_aload_n hC dX12_rewind_84 rfl ?_
                      refine v_vi hC (rest := [.int v_6778]) m_1 hf_6754 rfl mi_X12_wide ms_X12_wide (p_X12_wide hW_6751 k_0 hf_6753 o_w) mx_X12_wide ml_X12_87 (by decide) rfl (cells1 := 0) (slots1 := 0) (by decide) (by decide) (Nat.le_of_ble_eq_true rfl) (Nat.le_of_ble_eq_true rfl) rfl (Nat.le_of_ble_eq_true rfl) dX12_rewind_85 (fun r_6859 L_6860 f_6861 h_6862 => ?_)
                      obtain ⟨rfl, rfl, rfl⟩ := h_6862
                      refine v_iconst hC dX12_rewind_88 (v := 1) (by decide) ?_
                      obtain ⟨v_6865, h_6866⟩ : ∃ v9 : Int32, (g_w 1) - 1 = v9 := ⟨_, rfl⟩
                      refine v_isub hC dX12_rewind_89 h_6866 ?_
                      have h_6867 := sub_v h_6866 (by first | omega | (simp only [Int32.lt_iff_toInt_lt, Int32.le_iff_toInt_le, Int32.reduceToInt, ← Int32.toInt_inj, true_and, and_true, or_true, true_or, false_or, or_false, false_and, and_false, not_true_eq_false, not_false_eq_true] <;> omega)) (by first | omega | (simp only [Int32.lt_iff_toInt_lt, Int32.le_iff_toInt_le, Int32.reduceToInt, ← Int32.toInt_inj, true_and, and_true, or_true, true_or, false_or, or_false, false_and, and_false, not_true_eq_false, not_false_eq_true] <;> omega))
                      try simp only [Int32.reduceToInt] at h_6867
                      refine v_iload hC dX12_rewind_90 rfl ?_
                      obtain ⟨v_6868, h_6869⟩ : ∃ v9 : Int32, v_6865 - i_6747 = v9 := ⟨_, rfl⟩
                      refine v_isub hC dX12_rewind_92 h_6869 ?_
                      have h_6870 := sub_v h_6869 (by first | omega | (simp only [Int32.lt_iff_toInt_lt, Int32.le_iff_toInt_le, Int32.reduceToInt, ← Int32.toInt_inj, true_and, and_true, or_true, true_or, false_or, or_false, false_and, and_false, not_true_eq_false, not_false_eq_true] <;> omega)) (by first | omega | (simp only [Int32.lt_iff_toInt_lt, Int32.le_iff_toInt_le, Int32.reduceToInt, ← Int32.toInt_inj, true_and, and_true, or_true, true_or, false_or, or_false, false_and, and_false, not_true_eq_false, not_false_eq_true] <;> omega))
                      have b_6871 : (0 ≤ v_6868.toInt ∧ v_6868.toInt ≤ 15) := (by first | omega | (simp only [Int32.lt_iff_toInt_lt, Int32.le_iff_toInt_le, Int32.reduceToInt, ← Int32.toInt_inj, true_and, and_true, or_true, true_or, false_or, or_false, false_and, and_false, not_true_eq_false, not_false_eq_true] <;> omega))
                      refine v_pick [0, 1, 2, 3, 4, 5] rfl ?_
                      exact jn_6798 v_6868 (by first | omega | (simp only [Int32.lt_iff_toInt_lt, Int32.le_iff_toInt_le, Int32.reduceToInt, ← Int32.toInt_inj, true_and, and_true, or_true, true_or, false_or, or_false, false_and, and_false, not_true_eq_false, not_false_eq_true] <;> omega))
                    · simp only [Int32.lt_iff_toInt_lt, Int32.le_iff_toInt_le, Int32.reduceToInt, ← Int32.toInt_inj] at h_6784
                      refine v_iload hC dX12_rewind_79 rfl ?_
                      refine v_goto hC dX12_rewind_81 (tgt := 93) (by decide) ?_
                      refine v_pick [0, 1, 2, 3, 4, 5] rfl ?_
                      exact jn_6798 i_6747 (by first | omega | (simp only [Int32.lt_iff_toInt_lt, Int32.le_iff_toInt_le, Int32.reduceToInt, ← Int32.toInt_inj, true_and, and_true, or_true, true_or, false_or, or_false, false_and, and_false, not_true_eq_false, not_false_eq_true] <;> omega))
              refine v_pick [0, 1, 2, 3, 4, 5] rfl ?_
              exact lp_6758 18 f_6114 hW_6115 FR.rf 0 (by decide) i_6112 i_6113 (by first | omega | (simp only [Int32.lt_iff_toInt_lt, Int32.le_iff_toInt_le, Int32.reduceToInt, ← Int32.toInt_inj, true_and, and_true, or_true, true_or, false_or, or_false, false_and, and_false, not_true_eq_false, not_false_eq_true] <;> omega)) (by first | omega | (simp only [Int32.lt_iff_toInt_lt, Int32.le_iff_toInt_le, Int32.reduceToInt, ← Int32.toInt_inj, true_and, and_true, or_true, true_or, false_or, or_false, false_and, and_false, not_true_eq_false, not_false_eq_true] <;> omega)) (by decide)
        refine v_pick [0, 1, 2, 3, 5] rfl ?_
        exact lp_6122 18 f_81 hW_84 FR.rf 0 (by decide) 0 r_79 (by first | omega | (simp only [Int32.lt_iff_toInt_lt, Int32.le_iff_toInt_le, Int32.reduceToInt, ← Int32.toInt_inj, true_and, and_true, or_true, true_or, false_or, or_false, false_and, and_false, not_true_eq_false, not_false_eq_true] <;> omega)) (by first | omega | (simp only [Int32.lt_iff_toInt_lt, Int32.le_iff_toInt_le, Int32.reduceToInt, ← Int32.toInt_inj, true_and, and_true, or_true, true_or, false_or, or_false, false_and, and_false, not_true_eq_false, not_false_eq_true] <;> omega)) (by decide)
      · simp only [Int32.lt_iff_toInt_lt, Int32.le_iff_toInt_le, Int32.reduceToInt, ← Int32.toInt_inj] at h_70
        refine v_bipush hC dX12_rewind_25 (v := (-6)) (by decide) ?_
        exact hR _ _ _ _ _ _ _ dX12_rewind_27 rfl (Nat.le_of_ble_eq_true rfl) (Nat.le_of_ble_eq_true rfl) ⟨rfl, hW, FR.rf, (.inl (by decide)), (.inl (by decide))⟩
    · simp only [Int32.lt_iff_toInt_lt, Int32.le_iff_toInt_le, Int32.reduceToInt, ← Int32.toInt_inj] at h_43
      refine v_bipush hC dX12_rewind_14 (v := (-2)) (by decide) ?_
      exact hR _ _ _ _ _ _ _ dX12_rewind_16 rfl (Nat.le_of_ble_eq_true rfl) (Nat.le_of_ble_eq_true rfl) ⟨rfl, hW, FR.rf, (.inl (by decide)), (.inl (by decide))⟩
set_option maxRecDepth 100000 in
set_option maxHeartbeats 8000000 in
theorem p_X12_copy {l : Launch} {E : Ez} {L : List Nat} {f : Nat → va_E} {T : Nat → va_E → Prop} {a_0 : Nat} {a_1 : Int32} {a_2 : Int32} {q : Nat → Nat} {g_w : Nat → Int32} (hW : WT T L f) (k_0 : isM T L E a_0 q) (e_w : f (q 1) = aI E 2076 g_w) (o_w : WOK g_w) : CI l yX12_copy cX12_copy 3 .int 2 0 0 E [.ref a_0, .int a_1, .int a_2] L f (fun r L1 f1 => L = L1 ∧ WT T L f1 ∧ FR [356, 2176] f f1 ∧ ((-6) ≤ r.toInt ∧ r.toInt ≤ 0) ∧ (¬ r.toInt = 0 ∨ (0 ≤ a_1.toInt ∧ a_1.toInt ≤ 3)) ∧ (¬ r.toInt = 0 ∨ (0 ≤ a_2.toInt ∧ a_2.toInt ≤ 3))) := by
  refine ci_of (by decide) (Nat.le_of_ble_eq_true rfl) (fun z hz hnm hC hR => ?_)
  have hC : Cx z E cX12_copy RX12 3 2 0 0 := hC
  subst hz
  show V z E 3 0 0 L f 0 [(0, .ref a_0), (1, .int a_1), (2, .int a_2)] []
  obtain ⟨m_1, t_2, nq_21, k_3, k_4, k_5, k_6, k_7, k_8, k_9, k_10, k_11, k_12, k_13, k_14, k_15, k_16, k_17, k_18, k_19, k_20⟩ := id k_0
  obtain ⟨m_22, t_23⟩ := id k_3
  have b_24 := o_w.r0
  have b_25 := o_w.w0
  refine v_iload_n hC dX12_copy_0 rfl ?_
  refine v_si hC (rest := []) mt_X12_isCloth (p_X12_isCloth hW) mx_X12_isCloth ml_X12_319 (by decide) rfl (cells1 := 0) (slots1 := 0) (by decide) (by decide) (Nat.le_of_ble_eq_true rfl) (Nat.le_of_ble_eq_true rfl) rfl (Nat.le_of_ble_eq_true rfl) dX12_copy_1 (fun r_26 L_27 f_28 h_29 => ?_)
  obtain ⟨rfl, rfl, b_30, h_31⟩ := h_29
  refine v_if_eq hC dX12_copy_4 (tgt := 14) (by decide) (fun h_34 => ?_) (fun h_34 => ?_)
  · simp only [Int32.lt_iff_toInt_lt, Int32.le_iff_toInt_le, Int32.reduceToInt, ← Int32.toInt_inj] at h_34
    refine v_bipush hC dX12_copy_14 (v := (-2)) (by decide) ?_
    exact hR _ _ _ _ _ _ _ dX12_copy_16 rfl (Nat.le_of_ble_eq_true rfl) (Nat.le_of_ble_eq_true rfl) ⟨rfl, hW, FR.rf, (by decide), (.inl (by decide)), (.inl (by decide))⟩
  · simp only [Int32.lt_iff_toInt_lt, Int32.le_iff_toInt_le, Int32.reduceToInt, ← Int32.toInt_inj] at h_34
    refine v_iload_n hC dX12_copy_7 rfl ?_
    refine v_si hC (rest := []) mt_X12_isCloth (p_X12_isCloth hW) mx_X12_isCloth ml_X12_319 (by decide) rfl (cells1 := 0) (slots1 := 0) (by decide) (by decide) (Nat.le_of_ble_eq_true rfl) (Nat.le_of_ble_eq_true rfl) rfl (Nat.le_of_ble_eq_true rfl) dX12_copy_8 (fun r_35 L_36 f_37 h_38 => ?_)
    obtain ⟨rfl, rfl, b_39, h_40⟩ := h_38
    refine v_if_ne hC dX12_copy_11 (tgt := 17) (by decide) (fun h_43 => ?_) (fun h_43 => ?_)
    · simp only [Int32.lt_iff_toInt_lt, Int32.le_iff_toInt_le, Int32.reduceToInt, ← Int32.toInt_inj] at h_43
      refine v_aload_n hC dX12_copy_17 rfl ?_
      refine v_iload_n hC dX12_copy_18 rfl ?_
      obtain ⟨v_45, v_46, v_48, v_50, v_52, v_54, v_56, v_57, v_58, v_59, v_61, e_44, b_47, b_49, b_51, b_53, b_55, b_60, b_62⟩ := hW.at m_1 t_2
      refine v_vi hC (rest := []) m_1 e_44 rfl mi_X12_isThere ms_X12_isThere (p_X12_isThere hW k_0 (by first | omega | (simp only [Int32.lt_iff_toInt_lt, Int32.le_iff_toInt_le, Int32.reduceToInt, ← Int32.toInt_inj, true_and, and_true, or_true, true_or, false_or, or_false, false_and, and_false, not_true_eq_false, not_false_eq_true] <;> omega)) e_w o_w) mx_X12_isThere ml_X12_351 (by decide) rfl (cells1 := 0) (slots1 := 0) (by decide) (by decide) (Nat.le_of_ble_eq_true rfl) (Nat.le_of_ble_eq_true rfl) rfl (Nat.le_of_ble_eq_true rfl) dX12_copy_19 (fun r_63 L_64 f_65 h_66 => ?_)
      obtain ⟨rfl, rfl, b_67⟩ := h_66
      refine v_if_ne hC dX12_copy_22 (tgt := 28) (by decide) (fun h_70 => ?_) (fun h_70 => ?_)
      · simp only [Int32.lt_iff_toInt_lt, Int32.le_iff_toInt_le, Int32.reduceToInt, ← Int32.toInt_inj] at h_70
        refine v_aload_n hC dX12_copy_28 rfl ?_
        refine v_iload_n hC dX12_copy_29 rfl ?_
        refine v_vv hC (rest := []) m_1 e_44 rfl mi_X12_takes0 ms_X12_takes0 (p_X12_takes0 hW k_0 (by first | omega | (simp only [Int32.lt_iff_toInt_lt, Int32.le_iff_toInt_le, Int32.reduceToInt, ← Int32.toInt_inj, true_and, and_true, or_true, true_or, false_or, or_false, false_and, and_false, not_true_eq_false, not_false_eq_true] <;> omega)) e_w o_w) mx_X12_takes0 ml_X12_363 (by decide) rfl (cells1 := 0) (slots1 := 0) (by decide) (by decide) (Nat.le_of_ble_eq_true rfl) (Nat.le_of_ble_eq_true rfl) rfl (Nat.le_of_ble_eq_true rfl) dX12_copy_30 (fun L_72 f_73 h_74 => ?_)
        obtain ⟨rfl, hW_75, hF_76⟩ := h_74
        have hf_77 := hF_76.at e_w rfl
        have hf_78 := hF_76.at e_44 rfl
        refine v_aload_n hC dX12_copy_33 rfl ?_
        refine v_iload_n hC dX12_copy_34 rfl ?_
        refine v_vv hC (rest := []) m_1 hf_78 rfl mi_X12_gives ms_X12_gives (p_X12_gives hW_75 k_0 (by first | omega | (simp only [Int32.lt_iff_toInt_lt, Int32.le_iff_toInt_le, Int32.reduceToInt, ← Int32.toInt_inj, true_and, and_true, or_true, true_or, false_or, or_false, false_and, and_false, not_true_eq_false, not_false_eq_true] <;> omega)) hf_77 o_w) mx_X12_gives ml_X12_332 (by decide) rfl (cells1 := 0) (slots1 := 0) (by decide) (by decide) (Nat.le_of_ble_eq_true rfl) (Nat.le_of_ble_eq_true rfl) rfl (Nat.le_of_ble_eq_true rfl) dX12_copy_35 (fun L_80 f_81 h_82 => ?_)
        obtain ⟨rfl, hW_83, hF_84⟩ := h_82
        have hf_85 := hF_84.at hf_78 rfl
        refine v_iconst hC dX12_copy_38 (v := 0) (by decide) ?_
        exact hR _ _ _ _ _ _ _ dX12_copy_39 rfl (Nat.le_of_ble_eq_true rfl) (Nat.le_of_ble_eq_true rfl) ⟨rfl, hW_83, ((hF_76.tr hF_84).mono rfl), (by decide), (.inr (by first | omega | (simp only [Int32.lt_iff_toInt_lt, Int32.le_iff_toInt_le, Int32.reduceToInt, ← Int32.toInt_inj, true_and, and_true, or_true, true_or, false_or, or_false, false_and, and_false, not_true_eq_false, not_false_eq_true] <;> omega))), (.inr (by first | omega | (simp only [Int32.lt_iff_toInt_lt, Int32.le_iff_toInt_le, Int32.reduceToInt, ← Int32.toInt_inj, true_and, and_true, or_true, true_or, false_or, or_false, false_and, and_false, not_true_eq_false, not_false_eq_true] <;> omega)))⟩
      · simp only [Int32.lt_iff_toInt_lt, Int32.le_iff_toInt_le, Int32.reduceToInt, ← Int32.toInt_inj] at h_70
        refine v_bipush hC dX12_copy_25 (v := (-6)) (by decide) ?_
        exact hR _ _ _ _ _ _ _ dX12_copy_27 rfl (Nat.le_of_ble_eq_true rfl) (Nat.le_of_ble_eq_true rfl) ⟨rfl, hW, FR.rf, (by decide), (.inl (by decide)), (.inl (by decide))⟩
    · simp only [Int32.lt_iff_toInt_lt, Int32.le_iff_toInt_le, Int32.reduceToInt, ← Int32.toInt_inj] at h_43
      refine v_bipush hC dX12_copy_14 (v := (-2)) (by decide) ?_
      exact hR _ _ _ _ _ _ _ dX12_copy_16 rfl (Nat.le_of_ble_eq_true rfl) (Nat.le_of_ble_eq_true rfl) ⟨rfl, hW, FR.rf, (by decide), (.inl (by decide)), (.inl (by decide))⟩
set_option maxRecDepth 100000 in
set_option maxHeartbeats 8000000 in
theorem p_X12_turn {l : Launch} {E : Ez} {L : List Nat} {f : Nat → va_E} {T : Nat → va_E → Prop} {a_0 : Nat} {a_1 : Int32} {a_2 : Int32} {a_3 : Int32} {q : Nat → Nat} {g_w : Nat → Int32} (hW : WT T L f) (k_0 : isM T L E a_0 q) (e_w : f (q 1) = aI E 2076 g_w) (o_w : WOK g_w) : CI l yX12_turn cX12_turn 5 .int 4 0 0 E [.ref a_0, .int a_1, .int a_2, .int a_3] L f (fun r L1 f1 => L = L1 ∧ WT T L f1 ∧ FR [356, 2176] f f1 ∧ (¬ r.toInt = 0 ∨ (0 ≤ a_1.toInt ∧ a_1.toInt ≤ 3)) ∧ (¬ r.toInt = 0 ∨ (0 ≤ a_2.toInt ∧ a_2.toInt ≤ 15)) ∧ (¬ r.toInt = 0 ∨ (0 ≤ a_3.toInt ∧ a_3.toInt ≤ 15))) := by
  refine ci_of (by decide) (Nat.le_of_ble_eq_true rfl) (fun z hz hnm hC hR => ?_)
  have hC : Cx z E cX12_turn RX12 5 4 0 0 := hC
  subst hz
  show V z E 5 0 0 L f 0 [(0, .ref a_0), (1, .int a_1), (2, .int a_2), (3, .int a_3)] []
  obtain ⟨m_1, t_2, nq_21, k_3, k_4, k_5, k_6, k_7, k_8, k_9, k_10, k_11, k_12, k_13, k_14, k_15, k_16, k_17, k_18, k_19, k_20⟩ := id k_0
  obtain ⟨m_22, t_23⟩ := id k_3
  have b_24 := o_w.r0
  have b_25 := o_w.w0
  refine v_iload_n hC dX12_turn_0 rfl ?_
  refine v_si hC (rest := []) mt_X12_isCloth (p_X12_isCloth hW) mx_X12_isCloth ml_X12_319 (by decide) rfl (cells1 := 0) (slots1 := 0) (by decide) (by decide) (Nat.le_of_ble_eq_true rfl) (Nat.le_of_ble_eq_true rfl) rfl (Nat.le_of_ble_eq_true rfl) dX12_turn_1 (fun r_26 L_27 f_28 h_29 => ?_)
  obtain ⟨rfl, rfl, b_30, h_31⟩ := h_29
  refine v_if_eq hC dX12_turn_4 (tgt := 31) (by decide) (fun h_34 => ?_) (fun h_34 => ?_)
  · simp only [Int32.lt_iff_toInt_lt, Int32.le_iff_toInt_le, Int32.reduceToInt, ← Int32.toInt_inj] at h_34
    refine v_bipush hC dX12_turn_31 (v := (-2)) (by decide) ?_
    exact hR _ _ _ _ _ _ _ dX12_turn_33 rfl (Nat.le_of_ble_eq_true rfl) (Nat.le_of_ble_eq_true rfl) ⟨rfl, hW, FR.rf, (.inl (by decide)), (.inl (by decide)), (.inl (by decide))⟩
  · simp only [Int32.lt_iff_toInt_lt, Int32.le_iff_toInt_le, Int32.reduceToInt, ← Int32.toInt_inj] at h_34
    refine v_aload_n hC dX12_turn_7 rfl ?_
    refine v_iload_n hC dX12_turn_8 rfl ?_
    refine v_iload_n hC dX12_turn_9 rfl ?_
    obtain ⟨v_36, v_37, v_39, v_41, v_43, v_45, v_47, v_48, v_49, v_50, v_52, e_35, b_38, b_40, b_42, b_44, b_46, b_51, b_53⟩ := hW.at m_1 t_2
    refine v_vi hC (rest := []) m_1 e_35 rfl mi_X12_isPlace ms_X12_isPlace (p_X12_isPlace hW k_0 e_w o_w) mx_X12_isPlace ml_X12_379 (by decide) rfl (cells1 := 0) (slots1 := 0) (by decide) (by decide) (Nat.le_of_ble_eq_true rfl) (Nat.le_of_ble_eq_true rfl) rfl (Nat.le_of_ble_eq_true rfl) dX12_turn_10 (fun r_54 L_55 f_56 h_57 => ?_)
    obtain ⟨rfl, rfl, b_58, h_59, h_60, x_61⟩ := h_57
    try simp only [Int32.reduceToInt, Int64.reduceToInt] at x_61
    refine v_if_eq hC dX12_turn_13 (tgt := 31) (by decide) (fun h_64 => ?_) (fun h_64 => ?_)
    · simp only [Int32.lt_iff_toInt_lt, Int32.le_iff_toInt_le, Int32.reduceToInt, ← Int32.toInt_inj] at h_64
      refine v_bipush hC dX12_turn_31 (v := (-2)) (by decide) ?_
      exact hR _ _ _ _ _ _ _ dX12_turn_33 rfl (Nat.le_of_ble_eq_true rfl) (Nat.le_of_ble_eq_true rfl) ⟨rfl, hW, FR.rf, (.inl (by decide)), (.inl (by decide)), (.inl (by decide))⟩
    · simp only [Int32.lt_iff_toInt_lt, Int32.le_iff_toInt_le, Int32.reduceToInt, ← Int32.toInt_inj] at h_64
      refine v_aload_n hC dX12_turn_16 rfl ?_
      refine v_iload_n hC dX12_turn_17 rfl ?_
      refine v_aload_n hC dX12_turn_18 rfl ?_
      refine v_vi hC (rest := [.int a_2, .ref a_0]) m_1 e_35 rfl mi_X12_wide ms_X12_wide (p_X12_wide hW k_0 e_w o_w) mx_X12_wide ml_X12_87 (by decide) rfl (cells1 := 0) (slots1 := 0) (by decide) (by decide) (Nat.le_of_ble_eq_true rfl) (Nat.le_of_ble_eq_true rfl) rfl (Nat.le_of_ble_eq_true rfl) dX12_turn_19 (fun r_65 L_66 f_67 h_68 => ?_)
      obtain ⟨rfl, rfl, rfl⟩ := h_68
      obtain ⟨v_71, h_72⟩ : ∃ v9 : Int32, a_2 * (g_w 1) = v9 := ⟨_, rfl⟩
      refine v_imul hC dX12_turn_22 h_72 ?_
      have h_73 := mul_v 15 16 240 h_72 (by first | omega | (simp only [Int32.lt_iff_toInt_lt, Int32.le_iff_toInt_le, Int32.reduceToInt, ← Int32.toInt_inj, true_and, and_true, or_true, true_or, false_or, or_false, false_and, and_false, not_true_eq_false, not_false_eq_true] <;> omega)) (by first | omega | (simp only [Int32.lt_iff_toInt_lt, Int32.le_iff_toInt_le, Int32.reduceToInt, ← Int32.toInt_inj, true_and, and_true, or_true, true_or, false_or, or_false, false_and, and_false, not_true_eq_false, not_false_eq_true] <;> omega)) (by decide) (by decide)
      refine v_iload_n hC dX12_turn_23 rfl ?_
      obtain ⟨v_74, h_75⟩ : ∃ v9 : Int32, v_71 + a_3 = v9 := ⟨_, rfl⟩
      refine v_iadd hC dX12_turn_24 h_75 ?_
      have h_76 := add_v h_75 (by first | omega | (simp only [Int32.lt_iff_toInt_lt, Int32.le_iff_toInt_le, Int32.reduceToInt, ← Int32.toInt_inj, true_and, and_true, or_true, true_or, false_or, or_false, false_and, and_false, not_true_eq_false, not_false_eq_true] <;> omega)) (by first | omega | (simp only [Int32.lt_iff_toInt_lt, Int32.le_iff_toInt_le, Int32.reduceToInt, ← Int32.toInt_inj, true_and, and_true, or_true, true_or, false_or, or_false, false_and, and_false, not_true_eq_false, not_false_eq_true] <;> omega))
      refine v_vi hC (rest := []) m_1 e_35 rfl mi_X12_isFree ms_X12_isFree (p_X12_isFree hW k_0 (by first | omega | (simp only [Int32.lt_iff_toInt_lt, Int32.le_iff_toInt_le, Int32.reduceToInt, ← Int32.toInt_inj, true_and, and_true, or_true, true_or, false_or, or_false, false_and, and_false, not_true_eq_false, not_false_eq_true] <;> omega)) e_w o_w (by first | omega | (simp only [Int32.lt_iff_toInt_lt, Int32.le_iff_toInt_le, Int32.reduceToInt, ← Int32.toInt_inj, true_and, and_true, or_true, true_or, false_or, or_false, false_and, and_false, not_true_eq_false, not_false_eq_true] <;> omega))) mx_X12_isFree ml_X12_206 (by decide) rfl (cells1 := 0) (slots1 := 0) (by decide) (by decide) (Nat.le_of_ble_eq_true rfl) (Nat.le_of_ble_eq_true rfl) rfl (Nat.le_of_ble_eq_true rfl) dX12_turn_25 (fun r_77 L_78 f_79 h_80 => ?_)
      obtain ⟨rfl, rfl, b_81⟩ := h_80
      refine v_if_ne hC dX12_turn_28 (tgt := 34) (by decide) (fun h_84 => ?_) (fun h_84 => ?_)
      · simp only [Int32.lt_iff_toInt_lt, Int32.le_iff_toInt_le, Int32.reduceToInt, ← Int32.toInt_inj] at h_84
        refine v_aload_n hC dX12_turn_34 rfl ?_
        refine v_iload_n hC dX12_turn_35 rfl ?_
        refine v_vi hC (rest := []) m_1 e_35 rfl mi_X12_isThere ms_X12_isThere (p_X12_isThere hW k_0 (by first | omega | (simp only [Int32.lt_iff_toInt_lt, Int32.le_iff_toInt_le, Int32.reduceToInt, ← Int32.toInt_inj, true_and, and_true, or_true, true_or, false_or, or_false, false_and, and_false, not_true_eq_false, not_false_eq_true] <;> omega)) e_w o_w) mx_X12_isThere ml_X12_351 (by decide) rfl (cells1 := 0) (slots1 := 0) (by decide) (by decide) (Nat.le_of_ble_eq_true rfl) (Nat.le_of_ble_eq_true rfl) rfl (Nat.le_of_ble_eq_true rfl) dX12_turn_36 (fun r_85 L_86 f_87 h_88 => ?_)
        obtain ⟨rfl, rfl, b_89⟩ := h_88
        refine v_if_ne hC dX12_turn_39 (tgt := 45) (by decide) (fun h_92 => ?_) (fun h_92 => ?_)
        · simp only [Int32.lt_iff_toInt_lt, Int32.le_iff_toInt_le, Int32.reduceToInt, ← Int32.toInt_inj] at h_92
          refine v_aload_n hC dX12_turn_45 rfl ?_
          refine v_iload_n hC dX12_turn_46 rfl ?_
          refine v_vv hC (rest := []) m_1 e_35 rfl mi_X12_takes0 ms_X12_takes0 (p_X12_takes0 hW k_0 (by first | omega | (simp only [Int32.lt_iff_toInt_lt, Int32.le_iff_toInt_le, Int32.reduceToInt, ← Int32.toInt_inj, true_and, and_true, or_true, true_or, false_or, or_false, false_and, and_false, not_true_eq_false, not_false_eq_true] <;> omega)) e_w o_w) mx_X12_takes0 ml_X12_363 (by decide) rfl (cells1 := 0) (slots1 := 0) (by decide) (by decide) (Nat.le_of_ble_eq_true rfl) (Nat.le_of_ble_eq_true rfl) rfl (Nat.le_of_ble_eq_true rfl) dX12_turn_47 (fun L_94 f_95 h_96 => ?_)
          obtain ⟨rfl, hW_97, hF_98⟩ := h_96
          have hf_99 := hF_98.at e_w rfl
          have hf_100 := hF_98.at e_35 rfl
          refine v_iload_n hC dX12_turn_50 rfl ?_
          refine v_aload_n hC dX12_turn_51 rfl ?_
          refine v_vi hC (rest := [.int a_2]) m_1 hf_100 rfl mi_X12_wide ms_X12_wide (p_X12_wide hW_97 k_0 hf_99 o_w) mx_X12_wide ml_X12_87 (by decide) rfl (cells1 := 0) (slots1 := 0) (by decide) (by decide) (Nat.le_of_ble_eq_true rfl) (Nat.le_of_ble_eq_true rfl) rfl (Nat.le_of_ble_eq_true rfl) dX12_turn_52 (fun r_101 L_102 f_103 h_104 => ?_)
          obtain ⟨rfl, rfl, rfl⟩ := h_104
          obtain ⟨v_107, h_108⟩ : ∃ v9 : Int32, a_2 * (g_w 1) = v9 := ⟨_, rfl⟩
          refine v_imul hC dX12_turn_55 h_108 ?_
          have h_109 := mul_v 15 16 240 h_108 (by first | omega | (simp only [Int32.lt_iff_toInt_lt, Int32.le_iff_toInt_le, Int32.reduceToInt, ← Int32.toInt_inj, true_and, and_true, or_true, true_or, false_or, or_false, false_and, and_false, not_true_eq_false, not_false_eq_true] <;> omega)) (by first | omega | (simp only [Int32.lt_iff_toInt_lt, Int32.le_iff_toInt_le, Int32.reduceToInt, ← Int32.toInt_inj, true_and, and_true, or_true, true_or, false_or, or_false, false_and, and_false, not_true_eq_false, not_false_eq_true] <;> omega)) (by decide) (by decide)
          refine v_iload_n hC dX12_turn_56 rfl ?_
          obtain ⟨v_110, h_111⟩ : ∃ v9 : Int32, v_107 + a_3 = v9 := ⟨_, rfl⟩
          refine v_iadd hC dX12_turn_57 h_111 ?_
          have h_112 := add_v h_111 (by first | omega | (simp only [Int32.lt_iff_toInt_lt, Int32.le_iff_toInt_le, Int32.reduceToInt, ← Int32.toInt_inj, true_and, and_true, or_true, true_or, false_or, or_false, false_and, and_false, not_true_eq_false, not_false_eq_true] <;> omega)) (by first | omega | (simp only [Int32.lt_iff_toInt_lt, Int32.le_iff_toInt_le, Int32.reduceToInt, ← Int32.toInt_inj, true_and, and_true, or_true, true_or, false_or, or_false, false_and, and_false, not_true_eq_false, not_false_eq_true] <;> omega))
          refine v_istore hC dX12_turn_58 (by decide) (lv' := [(4, .int v_110), (0, .ref a_0), (1, .int a_1), (2, .int a_2), (3, .int a_3)]) rfl ?_
          refine v_aload_n hC dX12_turn_60 rfl ?_
          refine v_get hC fl_X12_37 m_1 hf_100 rfl dX12_turn_61 ?_
          refine v_iload hC dX12_turn_64 rfl ?_
          obtain ⟨m_113, t_114⟩ := id k_9
          obtain ⟨g_116, e_115⟩ := hW_97.at m_113 t_114
          obtain ⟨v_117, h_118⟩ : ∃ v9 : Int32, g_116 (v_110 : Int32).toNatClampNeg = v9 := ⟨_, rfl⟩
          refine v_iald hC m_113 e_115 (vp_in_iff.mpr (by first | omega | (simp only [Int32.lt_iff_toInt_lt, Int32.le_iff_toInt_le, Int32.reduceToInt, ← Int32.toInt_inj, true_and, and_true, or_true, true_or, false_or, or_false, false_and, and_false, not_true_eq_false, not_false_eq_true] <;> omega))) h_118 dX12_turn_66 ?_
          refine v_iconst hC dX12_turn_67 (v := 4) (by decide) ?_
          refine v_icmp_ne hC dX12_turn_68 (tgt := 74) (by decide) (fun h_119 => ?_) (fun h_119 => ?_)
          · simp only [Int32.lt_iff_toInt_lt, Int32.le_iff_toInt_le, Int32.reduceToInt, ← Int32.toInt_inj] at h_119
            refine v_aload_n hC dX12_turn_74 rfl ?_
            refine v_get hC fl_X12_37 m_1 hf_100 rfl dX12_turn_75 ?_
            refine v_iload hC dX12_turn_78 rfl ?_
            refine v_aload_n hC dX12_turn_80 rfl ?_
            refine v_iload hC dX12_turn_81 rfl ?_
            refine v_vi hC (rest := [.int v_110, .ref (q 15)]) m_1 hf_100 rfl mi_X12_turnOver ms_X12_turnOver (p_X12_turnOver hW_97 k_0 (by first | omega | (simp only [Int32.lt_iff_toInt_lt, Int32.le_iff_toInt_le, Int32.reduceToInt, ← Int32.toInt_inj, true_and, and_true, or_true, true_or, false_or, or_false, false_and, and_false, not_true_eq_false, not_false_eq_true] <;> omega)) hf_99 o_w (by first | omega | (simp only [Int32.lt_iff_toInt_lt, Int32.le_iff_toInt_le, Int32.reduceToInt, ← Int32.toInt_inj, true_and, and_true, or_true, true_or, false_or, or_false, false_and, and_false, not_true_eq_false, not_false_eq_true] <;> omega))) mx_X12_turnOver ml_X12_344 (by decide) rfl (cells1 := 0) (slots1 := 0) (by decide) (by decide) (Nat.le_of_ble_eq_true rfl) (Nat.le_of_ble_eq_true rfl) rfl (Nat.le_of_ble_eq_true rfl) dX12_turn_83 (fun r_120 L_121 f_122 h_123 => ?_)
            obtain ⟨rfl, rfl, b_124⟩ := h_123
            refine v_iast hC m_113 e_115 (vp_in_iff.mpr (by first | omega | (simp only [Int32.lt_iff_toInt_lt, Int32.le_iff_toInt_le, Int32.reduceToInt, ← Int32.toInt_inj, true_and, and_true, or_true, true_or, false_or, or_false, false_and, and_false, not_true_eq_false, not_false_eq_true] <;> omega))) dX12_turn_86 (fun f_127 hf_128 hk_129 => ?_)
            have hW_131 := hW_97.up hf_128 hk_129 t_114 ⟨_, rfl⟩
            obtain ⟨g_130, hf_128⟩ : ∃ g9, f_127 (q 15) = aI E 256 g9 := ⟨_, hf_128⟩
            have hf_132 := (hk_129 (q 1) (ne_kd hf_99 e_115 rfl)).trans hf_99
            have hf_133 := (hk_129 a_0 (ne_kd hf_100 e_115 rfl)).trans hf_100
            have fr_134 := FR.w hk_129 e_115 (k := 356) rfl
            refine v_aload_n hC dX12_turn_87 rfl ?_
            refine v_iload_n hC dX12_turn_88 rfl ?_
            refine v_vv hC (rest := []) m_1 hf_133 rfl mi_X12_gives ms_X12_gives (p_X12_gives hW_131 k_0 (by first | omega | (simp only [Int32.lt_iff_toInt_lt, Int32.le_iff_toInt_le, Int32.reduceToInt, ← Int32.toInt_inj, true_and, and_true, or_true, true_or, false_or, or_false, false_and, and_false, not_true_eq_false, not_false_eq_true] <;> omega)) hf_132 o_w) mx_X12_gives ml_X12_332 (by decide) rfl (cells1 := 0) (slots1 := 0) (by decide) (by decide) (Nat.le_of_ble_eq_true rfl) (Nat.le_of_ble_eq_true rfl) rfl (Nat.le_of_ble_eq_true rfl) dX12_turn_89 (fun L_136 f_137 h_138 => ?_)
            obtain ⟨rfl, hW_139, hF_140⟩ := h_138
            have hf_141 := hF_140.at hf_133 rfl
            have hf_142 := hF_140.at hf_128 rfl
            refine v_aload_n hC dX12_turn_92 rfl ?_
            refine v_get hC fl_X12_37 m_1 hf_141 rfl dX12_turn_93 ?_
            refine v_iload hC dX12_turn_96 rfl ?_
            obtain ⟨v_143, h_144⟩ : ∃ v9 : Int32, g_130 (v_110 : Int32).toNatClampNeg = v9 := ⟨_, rfl⟩
            refine v_iald hC m_113 hf_142 (vp_in_iff.mpr (by first | omega | (simp only [Int32.lt_iff_toInt_lt, Int32.le_iff_toInt_le, Int32.reduceToInt, ← Int32.toInt_inj, true_and, and_true, or_true, true_or, false_or, or_false, false_and, and_false, not_true_eq_false, not_false_eq_true] <;> omega))) h_144 dX12_turn_98 ?_
            exact hR _ _ _ _ _ _ _ dX12_turn_99 rfl (Nat.le_of_ble_eq_true rfl) (Nat.le_of_ble_eq_true rfl) ⟨rfl, hW_139, (((hF_98.tr fr_134).tr hF_140).mono rfl), (.inr (by first | omega | (simp only [Int32.lt_iff_toInt_lt, Int32.le_iff_toInt_le, Int32.reduceToInt, ← Int32.toInt_inj, true_and, and_true, or_true, true_or, false_or, or_false, false_and, and_false, not_true_eq_false, not_false_eq_true] <;> omega))), (.inr (by first | omega | (simp only [Int32.lt_iff_toInt_lt, Int32.le_iff_toInt_le, Int32.reduceToInt, ← Int32.toInt_inj, true_and, and_true, or_true, true_or, false_or, or_false, false_and, and_false, not_true_eq_false, not_false_eq_true] <;> omega))), (.inr (by first | omega | (simp only [Int32.lt_iff_toInt_lt, Int32.le_iff_toInt_le, Int32.reduceToInt, ← Int32.toInt_inj, true_and, and_true, or_true, true_or, false_or, or_false, false_and, and_false, not_true_eq_false, not_false_eq_true] <;> omega)))⟩
          · simp only [Int32.lt_iff_toInt_lt, Int32.le_iff_toInt_le, Int32.reduceToInt, ← Int32.toInt_inj] at h_119
            refine v_bipush hC dX12_turn_71 (v := (-5)) (by decide) ?_
            exact hR _ _ _ _ _ _ _ dX12_turn_73 rfl (Nat.le_of_ble_eq_true rfl) (Nat.le_of_ble_eq_true rfl) ⟨rfl, hW_97, (hF_98.mono rfl), (.inl (by decide)), (.inl (by decide)), (.inl (by decide))⟩
        · simp only [Int32.lt_iff_toInt_lt, Int32.le_iff_toInt_le, Int32.reduceToInt, ← Int32.toInt_inj] at h_92
          refine v_bipush hC dX12_turn_42 (v := (-6)) (by decide) ?_
          exact hR _ _ _ _ _ _ _ dX12_turn_44 rfl (Nat.le_of_ble_eq_true rfl) (Nat.le_of_ble_eq_true rfl) ⟨rfl, hW, FR.rf, (.inl (by decide)), (.inl (by decide)), (.inl (by decide))⟩
      · simp only [Int32.lt_iff_toInt_lt, Int32.le_iff_toInt_le, Int32.reduceToInt, ← Int32.toInt_inj] at h_84
        refine v_bipush hC dX12_turn_31 (v := (-2)) (by decide) ?_
        exact hR _ _ _ _ _ _ _ dX12_turn_33 rfl (Nat.le_of_ble_eq_true rfl) (Nat.le_of_ble_eq_true rfl) ⟨rfl, hW, FR.rf, (.inl (by decide)), (.inl (by decide)), (.inl (by decide))⟩
set_option maxRecDepth 100000 in
set_option maxHeartbeats 8000000 in
theorem p_X12_mend {l : Launch} {E : Ez} {L : List Nat} {f : Nat → va_E} {T : Nat → va_E → Prop} {a_0 : Nat} {a_1 : Int32} {q : Nat → Nat} {g_w : Nat → Int32} (hW : WT T L f) (k_0 : isM T L E a_0 q) (e_w : f (q 1) = aI E 2076 g_w) (o_w : WOK g_w) : CI l yX12_mend cX12_mend 8 .int 5 0 0 E [.ref a_0, .int a_1] L f (fun r L1 f1 => L = L1 ∧ WT T L f1 ∧ FR [108, 356] f f1 ∧ ((-6) ≤ r.toInt ∧ r.toInt ≤ 2) ∧ (¬ r.toInt = 0 ∨ (0 ≤ a_1.toInt ∧ a_1.toInt ≤ 3))) := by
  refine ci_of (by decide) (Nat.le_of_ble_eq_true rfl) (fun z hz hnm hC hR => ?_)
  have hC : Cx z E cX12_mend RX12 8 5 0 0 := hC
  subst hz
  show V z E 8 0 0 L f 0 [(0, .ref a_0), (1, .int a_1)] []
  obtain ⟨m_1, t_2, nq_21, k_3, k_4, k_5, k_6, k_7, k_8, k_9, k_10, k_11, k_12, k_13, k_14, k_15, k_16, k_17, k_18, k_19, k_20⟩ := id k_0
  obtain ⟨m_22, t_23⟩ := id k_3
  have b_24 := o_w.r0
  have b_25 := o_w.w0
  refine v_aload_n hC dX12_mend_0 rfl ?_
  refine v_iload_n hC dX12_mend_1 rfl ?_
  obtain ⟨v_27, v_28, v_30, v_32, v_34, v_36, v_38, v_39, v_40, v_41, v_43, e_26, b_29, b_31, b_33, b_35, b_37, b_42, b_44⟩ := hW.at m_1 t_2
  refine v_vi hC (rest := []) m_1 e_26 rfl mi_X12_asksCloth ms_X12_asksCloth (p_X12_asksCloth hW k_0 e_w o_w) mx_X12_asksCloth ml_X12_376 (by decide) rfl (cells1 := 0) (slots1 := 0) (by decide) (by decide) (Nat.le_of_ble_eq_true rfl) (Nat.le_of_ble_eq_true rfl) rfl (Nat.le_of_ble_eq_true rfl) dX12_mend_2 (fun r_45 L_46 f_47 h_48 => ?_)
  obtain ⟨rfl, rfl, b_49, h_50⟩ := h_48
  refine v_istore_n hC dX12_mend_5 (by decide) (lv' := [(2, .int r_45), (0, .ref a_0), (1, .int a_1)]) rfl ?_
  refine v_iload_n hC dX12_mend_6 rfl ?_
  refine v_if_ge hC dX12_mend_7 (tgt := 12) (by decide) (fun h_53 => ?_) (fun h_53 => ?_)
  · simp only [Int32.lt_iff_toInt_lt, Int32.le_iff_toInt_le, Int32.reduceToInt, ← Int32.toInt_inj] at h_53
    refine v_aload_n hC dX12_mend_12 rfl ?_
    refine v_iload_n hC dX12_mend_13 rfl ?_
    refine v_vv hC (rest := []) m_1 e_26 rfl mi_X12_takes0 ms_X12_takes0 (p_X12_takes0 hW k_0 (by first | omega | (simp only [Int32.lt_iff_toInt_lt, Int32.le_iff_toInt_le, Int32.reduceToInt, ← Int32.toInt_inj, true_and, and_true, or_true, true_or, false_or, or_false, false_and, and_false, not_true_eq_false, not_false_eq_true] <;> omega)) e_w o_w) mx_X12_takes0 ml_X12_363 (by decide) rfl (cells1 := 0) (slots1 := 0) (by decide) (by decide) (Nat.le_of_ble_eq_true rfl) (Nat.le_of_ble_eq_true rfl) rfl (Nat.le_of_ble_eq_true rfl) dX12_mend_14 (fun L_55 f_56 h_57 => ?_)
    obtain ⟨rfl, hW_58, hF_59⟩ := h_57
    have hf_60 := hF_59.at e_w rfl
    have hf_61 := hF_59.at e_26 rfl
    refine v_aload_n hC dX12_mend_17 rfl ?_
    refine v_vi hC (rest := []) m_1 hf_61 rfl mi_X12_stopping ms_X12_stopping (p_X12_stopping hW_58 k_0 hf_60 o_w) mx_X12_stopping ml_X12_405 (by decide) rfl (cells1 := 0) (slots1 := 0) (by decide) (by decide) (Nat.le_of_ble_eq_true rfl) (Nat.le_of_ble_eq_true rfl) rfl (Nat.le_of_ble_eq_true rfl) dX12_mend_18 (fun r_62 L_63 f_64 h_65 => ?_)
    obtain ⟨rfl, hW_67, hF_68, b_66⟩ := h_65
    have hf_69 := hF_68.at hf_60 rfl
    have hf_70 := hF_68.at hf_61 rfl
    refine v_iconst hC dX12_mend_21 (v := (-1)) (by decide) ?_
    refine v_icmp_ne hC dX12_mend_22 (tgt := 27) (by decide) (fun h_71 => ?_) (fun h_71 => ?_)
    · simp only [Int32.lt_iff_toInt_lt, Int32.le_iff_toInt_le, Int32.reduceToInt, ← Int32.toInt_inj] at h_71
      refine v_iconst hC dX12_mend_27 (v := 0) (by decide) ?_
      refine v_istore_n hC dX12_mend_28 (by decide) (lv' := [(3, .int 0), (2, .int r_45), (0, .ref a_0), (1, .int a_1)]) rfl ?_
      refine v_iconst hC dX12_mend_29 (v := 0) (by decide) ?_
      refine v_istore hC dX12_mend_30 (by decide) (lv' := [(4, .int 0), (3, .int 0), (2, .int r_45), (0, .ref a_0), (1, .int a_1)]) rfl ?_
      have lp_4044 : ∀ (n_4045 : Nat) (f_4037 : Nat → va_E) (hW_4038 : WT T L f_4037) (hF_4039 : FR [108, 356] f_64 f_4037) (i_4035 : Int32) (b_4042 : (0 ≤ i_4035.toInt ∧ i_4035.toInt ≤ 256)) (i_4036 : Int32) (b_4043 : (0 ≤ i_4036.toInt ∧ i_4036.toInt ≤ 1)) (hm_4047 : 256 - i_4035.toInt < (n_4045 : Int)), V z E 8 0 0 L f_4037 32 [(4, .int i_4035), (3, .int i_4036), (0, .ref a_0)] [] := by
        intro n_4045
        induction n_4045 with
        | zero =>
          intro f_4037 hW_4038 hF_4039 i_4035 b_4042 i_4036 b_4043 hm_4047
          have hf_4040 := hF_4039.at hf_69 rfl
          have hf_4041 := hF_4039.at hf_70 rfl
          exfalso; omega
        | succ n_4045 ih_4046 =>
          intro f_4037 hW_4038 hF_4039 i_4035 b_4042 i_4036 b_4043 hm_4047
          have hf_4040 := hF_4039.at hf_69 rfl
          have hf_4041 := hF_4039.at hf_70 rfl
          refine v_iload hC dX12_mend_32 rfl ?_
          refine v_aload_n hC dX12_mend_34 rfl ?_
          refine v_vi hC (rest := [.int i_4035]) m_1 hf_4041 rfl mi_X12_area ms_X12_area (p_X12_area hW_4038 k_0 hf_4040 o_w) mx_X12_area ml_X12_203 (by decide) rfl (cells1 := 0) (slots1 := 0) (by decide) (by decide) (Nat.le_of_ble_eq_true rfl) (Nat.le_of_ble_eq_true rfl) rfl (Nat.le_of_ble_eq_true rfl) dX12_mend_35 (fun r_4048 L_4049 f_4050 h_4051 => ?_)
          obtain ⟨rfl, rfl, rfl⟩ := h_4051
          have ar_4054 := area_v o_w
          refine v_icmp_ge hC dX12_mend_38 (tgt := 199) (by decide) (fun h_4055 => ?_) (fun h_4055 => ?_)
          · simp only [Int32.lt_iff_toInt_lt, Int32.le_iff_toInt_le, Int32.reduceToInt, ← Int32.toInt_inj] at h_4055
            refine v_iload_n hC dX12_mend_199 rfl ?_
            refine v_if_eq hC dX12_mend_200 (tgt := 207) (by decide) (fun h_4056 => ?_) (fun h_4056 => ?_)
            · simp only [Int32.lt_iff_toInt_lt, Int32.le_iff_toInt_le, Int32.reduceToInt, ← Int32.toInt_inj] at h_4056
              refine v_iconst hC dX12_mend_207 (v := (-1)) (by decide) ?_
              exact hR _ _ _ _ _ _ _ dX12_mend_208 rfl (Nat.le_of_ble_eq_true rfl) (Nat.le_of_ble_eq_true rfl) ⟨rfl, hW_4038, (((hF_59.tr hF_68).tr hF_4039).mono rfl), (by decide), (.inl (by decide))⟩
            · simp only [Int32.lt_iff_toInt_lt, Int32.le_iff_toInt_le, Int32.reduceToInt, ← Int32.toInt_inj] at h_4056
              refine v_iconst hC dX12_mend_203 (v := 2) (by decide) ?_
              refine v_goto hC dX12_mend_204 (tgt := 208) (by decide) ?_
              exact hR _ _ _ _ _ _ _ dX12_mend_208 rfl (Nat.le_of_ble_eq_true rfl) (Nat.le_of_ble_eq_true rfl) ⟨rfl, hW_4038, (((hF_59.tr hF_68).tr hF_4039).mono rfl), (by decide), (.inl (by decide))⟩
          · simp only [Int32.lt_iff_toInt_lt, Int32.le_iff_toInt_le, Int32.reduceToInt, ← Int32.toInt_inj] at h_4055
            refine v_aload_n hC dX12_mend_41 rfl ?_
            refine v_iload hC dX12_mend_42 rfl ?_
            refine v_vi hC (rest := []) m_1 hf_4041 rfl mi_X12_isFree ms_X12_isFree (p_X12_isFree hW_4038 k_0 (by first | omega | (simp only [Int32.lt_iff_toInt_lt, Int32.le_iff_toInt_le, Int32.reduceToInt, ← Int32.toInt_inj, true_and, and_true, or_true, true_or, false_or, or_false, false_and, and_false, not_true_eq_false, not_false_eq_true] <;> omega)) hf_4040 o_w (by first | omega | (simp only [Int32.lt_iff_toInt_lt, Int32.le_iff_toInt_le, Int32.reduceToInt, ← Int32.toInt_inj, true_and, and_true, or_true, true_or, false_or, or_false, false_and, and_false, not_true_eq_false, not_false_eq_true] <;> omega))) mx_X12_isFree ml_X12_206 (by decide) rfl (cells1 := 0) (slots1 := 0) (by decide) (by decide) (Nat.le_of_ble_eq_true rfl) (Nat.le_of_ble_eq_true rfl) rfl (Nat.le_of_ble_eq_true rfl) dX12_mend_44 (fun r_4057 L_4058 f_4059 h_4060 => ?_)
            obtain ⟨rfl, rfl, b_4061⟩ := h_4060
            refine v_if_eq hC dX12_mend_47 (tgt := 193) (by decide) (fun h_4064 => ?_) (fun h_4064 => ?_)
            · simp only [Int32.lt_iff_toInt_lt, Int32.le_iff_toInt_le, Int32.reduceToInt, ← Int32.toInt_inj] at h_4064
              obtain ⟨v_4065, h_4066⟩ : ∃ v9 : Int32, i_4035 + Int32.ofInt 1 = v9 := ⟨_, rfl⟩
              have h_4067 := add_v (b := 1) h_4066 (by first | omega | (simp only [Int32.lt_iff_toInt_lt, Int32.le_iff_toInt_le, Int32.reduceToInt, ← Int32.toInt_inj, true_and, and_true, or_true, true_or, false_or, or_false, false_and, and_false, not_true_eq_false, not_false_eq_true] <;> omega)) (by first | omega | (simp only [Int32.lt_iff_toInt_lt, Int32.le_iff_toInt_le, Int32.reduceToInt, ← Int32.toInt_inj, true_and, and_true, or_true, true_or, false_or, or_false, false_and, and_false, not_true_eq_false, not_false_eq_true] <;> omega))
              simp only [Int32.reduceToInt] at h_4067
              refine v_iinc hC dX12_mend_193 (k := 0) rfl (v := v_4065) h_4066 (by decide) (lv' := [(4, .int v_4065), (3, .int i_4036), (0, .ref a_0)]) rfl ?_
              refine v_goto hC dX12_mend_196 (tgt := 32) (by decide) ?_
              refine v_pick [0, 1, 2] rfl ?_
              exact ih_4046 f_4037 hW_4038 (hF_4039.mono rfl) v_4065 (by first | omega | (simp only [Int32.lt_iff_toInt_lt, Int32.le_iff_toInt_le, Int32.reduceToInt, ← Int32.toInt_inj, true_and, and_true, or_true, true_or, false_or, or_false, false_and, and_false, not_true_eq_false, not_false_eq_true] <;> omega)) i_4036 (by first | omega | (simp only [Int32.lt_iff_toInt_lt, Int32.le_iff_toInt_le, Int32.reduceToInt, ← Int32.toInt_inj, true_and, and_true, or_true, true_or, false_or, or_false, false_and, and_false, not_true_eq_false, not_false_eq_true] <;> omega)) (by first | omega | (simp only [Int32.lt_iff_toInt_lt, Int32.le_iff_toInt_le, Int32.reduceToInt, ← Int32.toInt_inj, true_and, and_true, or_true, true_or, false_or, or_false, false_and, and_false, not_true_eq_false, not_false_eq_true] <;> omega))
            · simp only [Int32.lt_iff_toInt_lt, Int32.le_iff_toInt_le, Int32.reduceToInt, ← Int32.toInt_inj] at h_4064
              refine v_aload_n hC dX12_mend_50 rfl ?_
              refine v_get hC fl_X12_37 m_1 hf_4041 rfl dX12_mend_51 ?_
              refine v_iload hC dX12_mend_54 rfl ?_
              obtain ⟨m_4068, t_4069⟩ := id k_9
              obtain ⟨g_4071, e_4070⟩ := hW_4038.at m_4068 t_4069
              obtain ⟨v_4072, h_4073⟩ : ∃ v9 : Int32, g_4071 (i_4035 : Int32).toNatClampNeg = v9 := ⟨_, rfl⟩
              refine v_iald hC m_4068 e_4070 (vp_in_iff.mpr (by first | omega | (simp only [Int32.lt_iff_toInt_lt, Int32.le_iff_toInt_le, Int32.reduceToInt, ← Int32.toInt_inj, true_and, and_true, or_true, true_or, false_or, or_false, false_and, and_false, not_true_eq_false, not_false_eq_true] <;> omega))) h_4073 dX12_mend_56 ?_
              refine v_iconst hC dX12_mend_57 (v := 4) (by decide) ?_
              refine v_icmp_ne hC dX12_mend_58 (tgt := 64) (by decide) (fun h_4074 => ?_) (fun h_4074 => ?_)
              · simp only [Int32.lt_iff_toInt_lt, Int32.le_iff_toInt_le, Int32.reduceToInt, ← Int32.toInt_inj] at h_4074
                refine v_aload_n hC dX12_mend_64 rfl ?_
                refine v_get hC fl_X12_37 m_1 hf_4041 rfl dX12_mend_65 ?_
                refine v_iload hC dX12_mend_68 rfl ?_
                obtain ⟨v_4075, h_4076⟩ : ∃ v9 : Int32, g_4071 (i_4035 : Int32).toNatClampNeg = v9 := ⟨_, rfl⟩
                refine v_iald hC m_4068 e_4070 (vp_in_iff.mpr (by first | omega | (simp only [Int32.lt_iff_toInt_lt, Int32.le_iff_toInt_le, Int32.reduceToInt, ← Int32.toInt_inj, true_and, and_true, or_true, true_or, false_or, or_false, false_and, and_false, not_true_eq_false, not_false_eq_true] <;> omega))) h_4076 dX12_mend_70 ?_
                refine v_istore hC dX12_mend_71 (by decide) (lv' := [(5, .int v_4075), (4, .int i_4035), (3, .int i_4036), (0, .ref a_0)]) rfl ?_
                refine v_aload_n hC dX12_mend_73 rfl ?_
                refine v_get hC fl_X12_37 m_1 hf_4041 rfl dX12_mend_74 ?_
                refine v_iload hC dX12_mend_77 rfl ?_
                refine v_aload_n hC dX12_mend_79 rfl ?_
                refine v_iload hC dX12_mend_80 rfl ?_
                refine v_vi hC (rest := [.int i_4035, .ref (q 15)]) m_1 hf_4041 rfl mi_X12_turnOver ms_X12_turnOver (p_X12_turnOver hW_4038 k_0 (by first | omega | (simp only [Int32.lt_iff_toInt_lt, Int32.le_iff_toInt_le, Int32.reduceToInt, ← Int32.toInt_inj, true_and, and_true, or_true, true_or, false_or, or_false, false_and, and_false, not_true_eq_false, not_false_eq_true] <;> omega)) hf_4040 o_w (by first | omega | (simp only [Int32.lt_iff_toInt_lt, Int32.le_iff_toInt_le, Int32.reduceToInt, ← Int32.toInt_inj, true_and, and_true, or_true, true_or, false_or, or_false, false_and, and_false, not_true_eq_false, not_false_eq_true] <;> omega))) mx_X12_turnOver ml_X12_344 (by decide) rfl (cells1 := 0) (slots1 := 0) (by decide) (by decide) (Nat.le_of_ble_eq_true rfl) (Nat.le_of_ble_eq_true rfl) rfl (Nat.le_of_ble_eq_true rfl) dX12_mend_82 (fun r_4077 L_4078 f_4079 h_4080 => ?_)
                obtain ⟨rfl, rfl, b_4081⟩ := h_4080
                refine v_iast hC m_4068 e_4070 (vp_in_iff.mpr (by first | omega | (simp only [Int32.lt_iff_toInt_lt, Int32.le_iff_toInt_le, Int32.reduceToInt, ← Int32.toInt_inj, true_and, and_true, or_true, true_or, false_or, or_false, false_and, and_false, not_true_eq_false, not_false_eq_true] <;> omega))) dX12_mend_85 (fun f_4084 hf_4085 hk_4086 => ?_)
                have hW_4088 := hW_4038.up hf_4085 hk_4086 t_4069 ⟨_, rfl⟩
                obtain ⟨g_4087, hf_4085⟩ : ∃ g9, f_4084 (q 15) = aI E 256 g9 := ⟨_, hf_4085⟩
                have hf_4089 := (hk_4086 (q 1) (ne_kd hf_4040 e_4070 rfl)).trans hf_4040
                have hf_4090 := (hk_4086 a_0 (ne_kd hf_4041 e_4070 rfl)).trans hf_4041
                have fr_4091 := FR.w hk_4086 e_4070 (k := 356) rfl
                refine v_aload_n hC dX12_mend_86 rfl ?_
                refine v_vi hC (rest := []) m_1 hf_4090 rfl mi_X12_stopping ms_X12_stopping (p_X12_stopping hW_4088 k_0 hf_4089 o_w) mx_X12_stopping ml_X12_405 (by decide) rfl (cells1 := 0) (slots1 := 0) (by decide) (by decide) (Nat.le_of_ble_eq_true rfl) (Nat.le_of_ble_eq_true rfl) rfl (Nat.le_of_ble_eq_true rfl) dX12_mend_87 (fun r_4092 L_4093 f_4094 h_4095 => ?_)
                obtain ⟨rfl, hW_4097, hF_4098, b_4096⟩ := h_4095
                have hf_4099 := hF_4098.at hf_4089 rfl
                have hf_4100 := hF_4098.at hf_4090 rfl
                have hf_4101 := hF_4098.at hf_4085 rfl
                refine v_iconst hC dX12_mend_90 (v := (-1)) (by decide) ?_
                refine v_icmp_ne hC dX12_mend_91 (tgt := 96) (by decide) (fun h_4102 => ?_) (fun h_4102 => ?_)
                · simp only [Int32.lt_iff_toInt_lt, Int32.le_iff_toInt_le, Int32.reduceToInt, ← Int32.toInt_inj] at h_4102
                  refine v_iconst hC dX12_mend_96 (v := 0) (by decide) ?_
                  refine v_istore hC dX12_mend_97 (by decide) (lv' := [(6, .int 0), (5, .int v_4075), (4, .int i_4035), (3, .int i_4036), (0, .ref a_0)]) rfl ?_
                  have lp_4527 : ∀ (n_4528 : Nat) (f_4520 : Nat → va_E) (hW_4521 : WT T L f_4520) (hF_4522 : FR [108, 356] f_4094 f_4520) (i_4518 : Int32) (b_4525 : (0 ≤ i_4518.toInt ∧ i_4518.toInt ≤ 255)) (i_4519 : Int32) (b_4526 : (0 ≤ i_4519.toInt ∧ i_4519.toInt ≤ 1)) (hm_4530 : 255 - i_4518.toInt < (n_4528 : Int)), V z E 8 0 0 L f_4520 99 [(6, .int i_4518), (5, .int v_4075), (4, .int i_4035), (3, .int i_4519), (0, .ref a_0)] [] := by
                    intro n_4528
                    induction n_4528 with
                    | zero =>
                      intro f_4520 hW_4521 hF_4522 i_4518 b_4525 i_4519 b_4526 hm_4530
                      have hf_4523 := hF_4522.at hf_4099 rfl
                      have hf_4524 := hF_4522.at hf_4100 rfl
                      exfalso; omega
                    | succ n_4528 ih_4529 =>
                      intro f_4520 hW_4521 hF_4522 i_4518 b_4525 i_4519 b_4526 hm_4530
                      have hf_4523 := hF_4522.at hf_4099 rfl
                      have hf_4524 := hF_4522.at hf_4100 rfl
                      refine v_iload hC dX12_mend_99 rfl ?_
                      refine v_iload hC dX12_mend_101 rfl ?_
                      refine v_icmp_ge hC dX12_mend_103 (tgt := 184) (by decide) (fun h_4531 => ?_) (fun h_4531 => ?_)
                      · simp only [Int32.lt_iff_toInt_lt, Int32.le_iff_toInt_le, Int32.reduceToInt, ← Int32.toInt_inj] at h_4531
                        refine v_aload_n hC dX12_mend_184 rfl ?_
                        refine v_get hC fl_X12_37 m_1 hf_4524 rfl dX12_mend_185 ?_
                        refine v_iload hC dX12_mend_188 rfl ?_
                        refine v_iload hC dX12_mend_190 rfl ?_
                        obtain ⟨g_4533, e_4532⟩ := hW_4521.at m_4068 t_4069
                        refine v_iast hC m_4068 e_4532 (vp_in_iff.mpr (by first | omega | (simp only [Int32.lt_iff_toInt_lt, Int32.le_iff_toInt_le, Int32.reduceToInt, ← Int32.toInt_inj, true_and, and_true, or_true, true_or, false_or, or_false, false_and, and_false, not_true_eq_false, not_false_eq_true] <;> omega))) dX12_mend_192 (fun f_4534 hf_4535 hk_4536 => ?_)
                        have hW_4538 := hW_4521.up hf_4535 hk_4536 t_4069 ⟨_, rfl⟩
                        obtain ⟨g_4537, hf_4535⟩ : ∃ g9, f_4534 (q 15) = aI E 256 g9 := ⟨_, hf_4535⟩
                        have hf_4539 := (hk_4536 (q 1) (ne_kd hf_4523 e_4532 rfl)).trans hf_4523
                        have hf_4540 := (hk_4536 a_0 (ne_kd hf_4524 e_4532 rfl)).trans hf_4524
                        have fr_4541 := FR.w hk_4536 e_4532 (k := 356) rfl
                        obtain ⟨v_4542, h_4543⟩ : ∃ v9 : Int32, i_4035 + Int32.ofInt 1 = v9 := ⟨_, rfl⟩
                        have h_4544 := add_v (b := 1) h_4543 (by first | omega | (simp only [Int32.lt_iff_toInt_lt, Int32.le_iff_toInt_le, Int32.reduceToInt, ← Int32.toInt_inj, true_and, and_true, or_true, true_or, false_or, or_false, false_and, and_false, not_true_eq_false, not_false_eq_true] <;> omega)) (by first | omega | (simp only [Int32.lt_iff_toInt_lt, Int32.le_iff_toInt_le, Int32.reduceToInt, ← Int32.toInt_inj, true_and, and_true, or_true, true_or, false_or, or_false, false_and, and_false, not_true_eq_false, not_false_eq_true] <;> omega))
                        simp only [Int32.reduceToInt] at h_4544
                        refine v_iinc hC dX12_mend_193 (k := 2) rfl (v := v_4542) h_4543 (by decide) (lv' := [(4, .int v_4542), (6, .int i_4518), (5, .int v_4075), (3, .int i_4519), (0, .ref a_0)]) rfl ?_
                        refine v_goto hC dX12_mend_196 (tgt := 32) (by decide) ?_
                        refine v_pick [0, 3, 4] rfl ?_
                        exact ih_4046 f_4534 hW_4538 (((((hF_4039.tr fr_4091).tr hF_4098).tr hF_4522).tr fr_4541).mono rfl) v_4542 (by first | omega | (simp only [Int32.lt_iff_toInt_lt, Int32.le_iff_toInt_le, Int32.reduceToInt, ← Int32.toInt_inj, true_and, and_true, or_true, true_or, false_or, or_false, false_and, and_false, not_true_eq_false, not_false_eq_true] <;> omega)) i_4519 (by first | omega | (simp only [Int32.lt_iff_toInt_lt, Int32.le_iff_toInt_le, Int32.reduceToInt, ← Int32.toInt_inj, true_and, and_true, or_true, true_or, false_or, or_false, false_and, and_false, not_true_eq_false, not_false_eq_true] <;> omega)) (by first | omega | (simp only [Int32.lt_iff_toInt_lt, Int32.le_iff_toInt_le, Int32.reduceToInt, ← Int32.toInt_inj, true_and, and_true, or_true, true_or, false_or, or_false, false_and, and_false, not_true_eq_false, not_false_eq_true] <;> omega))
                      · simp only [Int32.lt_iff_toInt_lt, Int32.le_iff_toInt_le, Int32.reduceToInt, ← Int32.toInt_inj] at h_4531
                        refine v_iload_n hC dX12_mend_106 rfl ?_
                        refine v_if_ne hC dX12_mend_107 (tgt := 184) (by decide) (fun h_4545 => ?_) (fun h_4545 => ?_)
                        · simp only [Int32.lt_iff_toInt_lt, Int32.le_iff_toInt_le, Int32.reduceToInt, ← Int32.toInt_inj] at h_4545
                          refine v_aload_n hC dX12_mend_184 rfl ?_
                          refine v_get hC fl_X12_37 m_1 hf_4524 rfl dX12_mend_185 ?_
                          refine v_iload hC dX12_mend_188 rfl ?_
                          refine v_iload hC dX12_mend_190 rfl ?_
                          obtain ⟨g_4547, e_4546⟩ := hW_4521.at m_4068 t_4069
                          refine v_iast hC m_4068 e_4546 (vp_in_iff.mpr (by first | omega | (simp only [Int32.lt_iff_toInt_lt, Int32.le_iff_toInt_le, Int32.reduceToInt, ← Int32.toInt_inj, true_and, and_true, or_true, true_or, false_or, or_false, false_and, and_false, not_true_eq_false, not_false_eq_true] <;> omega))) dX12_mend_192 (fun f_4548 hf_4549 hk_4550 => ?_)
                          have hW_4552 := hW_4521.up hf_4549 hk_4550 t_4069 ⟨_, rfl⟩
                          obtain ⟨g_4551, hf_4549⟩ : ∃ g9, f_4548 (q 15) = aI E 256 g9 := ⟨_, hf_4549⟩
                          have hf_4553 := (hk_4550 (q 1) (ne_kd hf_4523 e_4546 rfl)).trans hf_4523
                          have hf_4554 := (hk_4550 a_0 (ne_kd hf_4524 e_4546 rfl)).trans hf_4524
                          have fr_4555 := FR.w hk_4550 e_4546 (k := 356) rfl
                          obtain ⟨v_4556, h_4557⟩ : ∃ v9 : Int32, i_4035 + Int32.ofInt 1 = v9 := ⟨_, rfl⟩
                          have h_4558 := add_v (b := 1) h_4557 (by first | omega | (simp only [Int32.lt_iff_toInt_lt, Int32.le_iff_toInt_le, Int32.reduceToInt, ← Int32.toInt_inj, true_and, and_true, or_true, true_or, false_or, or_false, false_and, and_false, not_true_eq_false, not_false_eq_true] <;> omega)) (by first | omega | (simp only [Int32.lt_iff_toInt_lt, Int32.le_iff_toInt_le, Int32.reduceToInt, ← Int32.toInt_inj, true_and, and_true, or_true, true_or, false_or, or_false, false_and, and_false, not_true_eq_false, not_false_eq_true] <;> omega))
                          simp only [Int32.reduceToInt] at h_4558
                          refine v_iinc hC dX12_mend_193 (k := 2) rfl (v := v_4556) h_4557 (by decide) (lv' := [(4, .int v_4556), (6, .int i_4518), (5, .int v_4075), (3, .int i_4519), (0, .ref a_0)]) rfl ?_
                          refine v_goto hC dX12_mend_196 (tgt := 32) (by decide) ?_
                          refine v_pick [0, 3, 4] rfl ?_
                          exact ih_4046 f_4548 hW_4552 (((((hF_4039.tr fr_4091).tr hF_4098).tr hF_4522).tr fr_4555).mono rfl) v_4556 (by first | omega | (simp only [Int32.lt_iff_toInt_lt, Int32.le_iff_toInt_le, Int32.reduceToInt, ← Int32.toInt_inj, true_and, and_true, or_true, true_or, false_or, or_false, false_and, and_false, not_true_eq_false, not_false_eq_true] <;> omega)) i_4519 (by first | omega | (simp only [Int32.lt_iff_toInt_lt, Int32.le_iff_toInt_le, Int32.reduceToInt, ← Int32.toInt_inj, true_and, and_true, or_true, true_or, false_or, or_false, false_and, and_false, not_true_eq_false, not_false_eq_true] <;> omega)) (by first | omega | (simp only [Int32.lt_iff_toInt_lt, Int32.le_iff_toInt_le, Int32.reduceToInt, ← Int32.toInt_inj, true_and, and_true, or_true, true_or, false_or, or_false, false_and, and_false, not_true_eq_false, not_false_eq_true] <;> omega))
                        · simp only [Int32.lt_iff_toInt_lt, Int32.le_iff_toInt_le, Int32.reduceToInt, ← Int32.toInt_inj] at h_4545
                          refine v_aload_n hC dX12_mend_110 rfl ?_
                          refine v_iload hC dX12_mend_111 rfl ?_
                          refine v_vi hC (rest := []) m_1 hf_4524 rfl mi_X12_isFree ms_X12_isFree (p_X12_isFree hW_4521 k_0 (by first | omega | (simp only [Int32.lt_iff_toInt_lt, Int32.le_iff_toInt_le, Int32.reduceToInt, ← Int32.toInt_inj, true_and, and_true, or_true, true_or, false_or, or_false, false_and, and_false, not_true_eq_false, not_false_eq_true] <;> omega)) hf_4523 o_w (by first | omega | (simp only [Int32.lt_iff_toInt_lt, Int32.le_iff_toInt_le, Int32.reduceToInt, ← Int32.toInt_inj, true_and, and_true, or_true, true_or, false_or, or_false, false_and, and_false, not_true_eq_false, not_false_eq_true] <;> omega))) mx_X12_isFree ml_X12_206 (by decide) rfl (cells1 := 0) (slots1 := 0) (by decide) (by decide) (Nat.le_of_ble_eq_true rfl) (Nat.le_of_ble_eq_true rfl) rfl (Nat.le_of_ble_eq_true rfl) dX12_mend_113 (fun r_4559 L_4560 f_4561 h_4562 => ?_)
                          obtain ⟨rfl, rfl, b_4563⟩ := h_4562
                          refine v_if_eq hC dX12_mend_116 (tgt := 178) (by decide) (fun h_4566 => ?_) (fun h_4566 => ?_)
                          · simp only [Int32.lt_iff_toInt_lt, Int32.le_iff_toInt_le, Int32.reduceToInt, ← Int32.toInt_inj] at h_4566
                            obtain ⟨v_4567, h_4568⟩ : ∃ v9 : Int32, i_4518 + Int32.ofInt 1 = v9 := ⟨_, rfl⟩
                            have h_4569 := add_v (b := 1) h_4568 (by first | omega | (simp only [Int32.lt_iff_toInt_lt, Int32.le_iff_toInt_le, Int32.reduceToInt, ← Int32.toInt_inj, true_and, and_true, or_true, true_or, false_or, or_false, false_and, and_false, not_true_eq_false, not_false_eq_true] <;> omega)) (by first | omega | (simp only [Int32.lt_iff_toInt_lt, Int32.le_iff_toInt_le, Int32.reduceToInt, ← Int32.toInt_inj, true_and, and_true, or_true, true_or, false_or, or_false, false_and, and_false, not_true_eq_false, not_false_eq_true] <;> omega))
                            simp only [Int32.reduceToInt] at h_4569
                            refine v_iinc hC dX12_mend_178 (k := 0) rfl (v := v_4567) h_4568 (by decide) (lv' := [(6, .int v_4567), (5, .int v_4075), (4, .int i_4035), (3, .int i_4519), (0, .ref a_0)]) rfl ?_
                            refine v_goto hC dX12_mend_181 (tgt := 99) (by decide) ?_
                            refine v_pick [0, 1, 2, 3, 4] rfl ?_
                            exact ih_4529 f_4520 hW_4521 (hF_4522.mono rfl) v_4567 (by first | omega | (simp only [Int32.lt_iff_toInt_lt, Int32.le_iff_toInt_le, Int32.reduceToInt, ← Int32.toInt_inj, true_and, and_true, or_true, true_or, false_or, or_false, false_and, and_false, not_true_eq_false, not_false_eq_true] <;> omega)) i_4519 (by first | omega | (simp only [Int32.lt_iff_toInt_lt, Int32.le_iff_toInt_le, Int32.reduceToInt, ← Int32.toInt_inj, true_and, and_true, or_true, true_or, false_or, or_false, false_and, and_false, not_true_eq_false, not_false_eq_true] <;> omega)) (by first | omega | (simp only [Int32.lt_iff_toInt_lt, Int32.le_iff_toInt_le, Int32.reduceToInt, ← Int32.toInt_inj, true_and, and_true, or_true, true_or, false_or, or_false, false_and, and_false, not_true_eq_false, not_false_eq_true] <;> omega))
                          · simp only [Int32.lt_iff_toInt_lt, Int32.le_iff_toInt_le, Int32.reduceToInt, ← Int32.toInt_inj] at h_4566
                            refine v_aload_n hC dX12_mend_119 rfl ?_
                            refine v_get hC fl_X12_37 m_1 hf_4524 rfl dX12_mend_120 ?_
                            refine v_iload hC dX12_mend_123 rfl ?_
                            obtain ⟨g_4571, e_4570⟩ := hW_4521.at m_4068 t_4069
                            obtain ⟨v_4572, h_4573⟩ : ∃ v9 : Int32, g_4571 (i_4518 : Int32).toNatClampNeg = v9 := ⟨_, rfl⟩
                            refine v_iald hC m_4068 e_4570 (vp_in_iff.mpr (by first | omega | (simp only [Int32.lt_iff_toInt_lt, Int32.le_iff_toInt_le, Int32.reduceToInt, ← Int32.toInt_inj, true_and, and_true, or_true, true_or, false_or, or_false, false_and, and_false, not_true_eq_false, not_false_eq_true] <;> omega))) h_4573 dX12_mend_125 ?_
                            refine v_iconst hC dX12_mend_126 (v := 4) (by decide) ?_
                            refine v_icmp_ne hC dX12_mend_127 (tgt := 133) (by decide) (fun h_4574 => ?_) (fun h_4574 => ?_)
                            · simp only [Int32.lt_iff_toInt_lt, Int32.le_iff_toInt_le, Int32.reduceToInt, ← Int32.toInt_inj] at h_4574
                              refine v_aload_n hC dX12_mend_133 rfl ?_
                              refine v_get hC fl_X12_37 m_1 hf_4524 rfl dX12_mend_134 ?_
                              refine v_iload hC dX12_mend_137 rfl ?_
                              obtain ⟨v_4575, h_4576⟩ : ∃ v9 : Int32, g_4571 (i_4518 : Int32).toNatClampNeg = v9 := ⟨_, rfl⟩
                              refine v_iald hC m_4068 e_4570 (vp_in_iff.mpr (by first | omega | (simp only [Int32.lt_iff_toInt_lt, Int32.le_iff_toInt_le, Int32.reduceToInt, ← Int32.toInt_inj, true_and, and_true, or_true, true_or, false_or, or_false, false_and, and_false, not_true_eq_false, not_false_eq_true] <;> omega))) h_4576 dX12_mend_139 ?_
                              refine v_istore hC dX12_mend_140 (by decide) (lv' := [(7, .int v_4575), (6, .int i_4518), (5, .int v_4075), (4, .int i_4035), (3, .int i_4519), (0, .ref a_0)]) rfl ?_
                              refine v_aload_n hC dX12_mend_142 rfl ?_
                              refine v_get hC fl_X12_37 m_1 hf_4524 rfl dX12_mend_143 ?_
                              refine v_iload hC dX12_mend_146 rfl ?_
                              refine v_aload_n hC dX12_mend_148 rfl ?_
                              refine v_iload hC dX12_mend_149 rfl ?_
                              refine v_vi hC (rest := [.int i_4518, .ref (q 15)]) m_1 hf_4524 rfl mi_X12_turnOver ms_X12_turnOver (p_X12_turnOver hW_4521 k_0 (by first | omega | (simp only [Int32.lt_iff_toInt_lt, Int32.le_iff_toInt_le, Int32.reduceToInt, ← Int32.toInt_inj, true_and, and_true, or_true, true_or, false_or, or_false, false_and, and_false, not_true_eq_false, not_false_eq_true] <;> omega)) hf_4523 o_w (by first | omega | (simp only [Int32.lt_iff_toInt_lt, Int32.le_iff_toInt_le, Int32.reduceToInt, ← Int32.toInt_inj, true_and, and_true, or_true, true_or, false_or, or_false, false_and, and_false, not_true_eq_false, not_false_eq_true] <;> omega))) mx_X12_turnOver ml_X12_344 (by decide) rfl (cells1 := 0) (slots1 := 0) (by decide) (by decide) (Nat.le_of_ble_eq_true rfl) (Nat.le_of_ble_eq_true rfl) rfl (Nat.le_of_ble_eq_true rfl) dX12_mend_151 (fun r_4577 L_4578 f_4579 h_4580 => ?_)
                              obtain ⟨rfl, rfl, b_4581⟩ := h_4580
                              refine v_iast hC m_4068 e_4570 (vp_in_iff.mpr (by first | omega | (simp only [Int32.lt_iff_toInt_lt, Int32.le_iff_toInt_le, Int32.reduceToInt, ← Int32.toInt_inj, true_and, and_true, or_true, true_or, false_or, or_false, false_and, and_false, not_true_eq_false, not_false_eq_true] <;> omega))) dX12_mend_154 (fun f_4584 hf_4585 hk_4586 => ?_)
                              have hW_4588 := hW_4521.up hf_4585 hk_4586 t_4069 ⟨_, rfl⟩
                              obtain ⟨g_4587, hf_4585⟩ : ∃ g9, f_4584 (q 15) = aI E 256 g9 := ⟨_, hf_4585⟩
                              have hf_4589 := (hk_4586 (q 1) (ne_kd hf_4523 e_4570 rfl)).trans hf_4523
                              have hf_4590 := (hk_4586 a_0 (ne_kd hf_4524 e_4570 rfl)).trans hf_4524
                              have fr_4591 := FR.w hk_4586 e_4570 (k := 356) rfl
                              refine v_aload_n hC dX12_mend_155 rfl ?_
                              refine v_vi hC (rest := []) m_1 hf_4590 rfl mi_X12_stopping ms_X12_stopping (p_X12_stopping hW_4588 k_0 hf_4589 o_w) mx_X12_stopping ml_X12_405 (by decide) rfl (cells1 := 0) (slots1 := 0) (by decide) (by decide) (Nat.le_of_ble_eq_true rfl) (Nat.le_of_ble_eq_true rfl) rfl (Nat.le_of_ble_eq_true rfl) dX12_mend_156 (fun r_4592 L_4593 f_4594 h_4595 => ?_)
                              obtain ⟨rfl, hW_4597, hF_4598, b_4596⟩ := h_4595
                              have hf_4599 := hF_4598.at hf_4589 rfl
                              have hf_4600 := hF_4598.at hf_4590 rfl
                              have hf_4601 := hF_4598.at hf_4585 rfl
                              refine v_iconst hC dX12_mend_159 (v := (-1)) (by decide) ?_
                              refine v_icmp_ne hC dX12_mend_160 (tgt := 167) (by decide) (fun h_4602 => ?_) (fun h_4602 => ?_)
                              · simp only [Int32.lt_iff_toInt_lt, Int32.le_iff_toInt_le, Int32.reduceToInt, ← Int32.toInt_inj] at h_4602
                                refine v_iconst hC dX12_mend_167 (v := 0) (by decide) ?_
                                refine v_istore_n hC dX12_mend_168 (by decide) (lv' := [(3, .int 0), (7, .int v_4575), (6, .int i_4518), (5, .int v_4075), (4, .int i_4035), (0, .ref a_0)]) rfl ?_
                                refine v_aload_n hC dX12_mend_169 rfl ?_
                                refine v_get hC fl_X12_37 m_1 hf_4600 rfl dX12_mend_170 ?_
                                refine v_iload hC dX12_mend_173 rfl ?_
                                refine v_iload hC dX12_mend_175 rfl ?_
                                refine v_iast hC m_4068 hf_4601 (vp_in_iff.mpr (by first | omega | (simp only [Int32.lt_iff_toInt_lt, Int32.le_iff_toInt_le, Int32.reduceToInt, ← Int32.toInt_inj, true_and, and_true, or_true, true_or, false_or, or_false, false_and, and_false, not_true_eq_false, not_false_eq_true] <;> omega))) dX12_mend_177 (fun f_4603 hf_4604 hk_4605 => ?_)
                                have hW_4607 := hW_4597.up hf_4604 hk_4605 t_4069 ⟨_, rfl⟩
                                obtain ⟨g_4606, hf_4604⟩ : ∃ g9, f_4603 (q 15) = aI E 256 g9 := ⟨_, hf_4604⟩
                                have hf_4608 := (hk_4605 (q 1) (ne_kd hf_4599 hf_4601 rfl)).trans hf_4599
                                have hf_4609 := (hk_4605 a_0 (ne_kd hf_4600 hf_4601 rfl)).trans hf_4600
                                have fr_4610 := FR.w hk_4605 hf_4601 (k := 356) rfl
                                obtain ⟨v_4611, h_4612⟩ : ∃ v9 : Int32, i_4518 + Int32.ofInt 1 = v9 := ⟨_, rfl⟩
                                have h_4613 := add_v (b := 1) h_4612 (by first | omega | (simp only [Int32.lt_iff_toInt_lt, Int32.le_iff_toInt_le, Int32.reduceToInt, ← Int32.toInt_inj, true_and, and_true, or_true, true_or, false_or, or_false, false_and, and_false, not_true_eq_false, not_false_eq_true] <;> omega)) (by first | omega | (simp only [Int32.lt_iff_toInt_lt, Int32.le_iff_toInt_le, Int32.reduceToInt, ← Int32.toInt_inj, true_and, and_true, or_true, true_or, false_or, or_false, false_and, and_false, not_true_eq_false, not_false_eq_true] <;> omega))
                                simp only [Int32.reduceToInt] at h_4613
                                refine v_iinc hC dX12_mend_178 (k := 2) rfl (v := v_4611) h_4612 (by decide) (lv' := [(6, .int v_4611), (3, .int 0), (7, .int v_4575), (5, .int v_4075), (4, .int i_4035), (0, .ref a_0)]) rfl ?_
                                refine v_goto hC dX12_mend_181 (tgt := 99) (by decide) ?_
                                refine v_pick [0, 3, 4, 1, 5] rfl ?_
                                exact ih_4529 f_4603 hW_4607 ((((hF_4522.tr fr_4591).tr hF_4598).tr fr_4610).mono rfl) v_4611 (by first | omega | (simp only [Int32.lt_iff_toInt_lt, Int32.le_iff_toInt_le, Int32.reduceToInt, ← Int32.toInt_inj, true_and, and_true, or_true, true_or, false_or, or_false, false_and, and_false, not_true_eq_false, not_false_eq_true] <;> omega)) 0 (by decide) (by first | omega | (simp only [Int32.lt_iff_toInt_lt, Int32.le_iff_toInt_le, Int32.reduceToInt, ← Int32.toInt_inj, true_and, and_true, or_true, true_or, false_or, or_false, false_and, and_false, not_true_eq_false, not_false_eq_true] <;> omega))
                              · simp only [Int32.lt_iff_toInt_lt, Int32.le_iff_toInt_le, Int32.reduceToInt, ← Int32.toInt_inj] at h_4602
                                refine v_iconst hC dX12_mend_163 (v := 1) (by decide) ?_
                                refine v_goto hC dX12_mend_164 (tgt := 168) (by decide) ?_
                                refine v_istore_n hC dX12_mend_168 (by decide) (lv' := [(3, .int 1), (7, .int v_4575), (6, .int i_4518), (5, .int v_4075), (4, .int i_4035), (0, .ref a_0)]) rfl ?_
                                refine v_aload_n hC dX12_mend_169 rfl ?_
                                refine v_get hC fl_X12_37 m_1 hf_4600 rfl dX12_mend_170 ?_
                                refine v_iload hC dX12_mend_173 rfl ?_
                                refine v_iload hC dX12_mend_175 rfl ?_
                                refine v_iast hC m_4068 hf_4601 (vp_in_iff.mpr (by first | omega | (simp only [Int32.lt_iff_toInt_lt, Int32.le_iff_toInt_le, Int32.reduceToInt, ← Int32.toInt_inj, true_and, and_true, or_true, true_or, false_or, or_false, false_and, and_false, not_true_eq_false, not_false_eq_true] <;> omega))) dX12_mend_177 (fun f_4614 hf_4615 hk_4616 => ?_)
                                have hW_4618 := hW_4597.up hf_4615 hk_4616 t_4069 ⟨_, rfl⟩
                                obtain ⟨g_4617, hf_4615⟩ : ∃ g9, f_4614 (q 15) = aI E 256 g9 := ⟨_, hf_4615⟩
                                have hf_4619 := (hk_4616 (q 1) (ne_kd hf_4599 hf_4601 rfl)).trans hf_4599
                                have hf_4620 := (hk_4616 a_0 (ne_kd hf_4600 hf_4601 rfl)).trans hf_4600
                                have fr_4621 := FR.w hk_4616 hf_4601 (k := 356) rfl
                                obtain ⟨v_4622, h_4623⟩ : ∃ v9 : Int32, i_4518 + Int32.ofInt 1 = v9 := ⟨_, rfl⟩
                                have h_4624 := add_v (b := 1) h_4623 (by first | omega | (simp only [Int32.lt_iff_toInt_lt, Int32.le_iff_toInt_le, Int32.reduceToInt, ← Int32.toInt_inj, true_and, and_true, or_true, true_or, false_or, or_false, false_and, and_false, not_true_eq_false, not_false_eq_true] <;> omega)) (by first | omega | (simp only [Int32.lt_iff_toInt_lt, Int32.le_iff_toInt_le, Int32.reduceToInt, ← Int32.toInt_inj, true_and, and_true, or_true, true_or, false_or, or_false, false_and, and_false, not_true_eq_false, not_false_eq_true] <;> omega))
                                simp only [Int32.reduceToInt] at h_4624
                                refine v_iinc hC dX12_mend_178 (k := 2) rfl (v := v_4622) h_4623 (by decide) (lv' := [(6, .int v_4622), (3, .int 1), (7, .int v_4575), (5, .int v_4075), (4, .int i_4035), (0, .ref a_0)]) rfl ?_
                                refine v_goto hC dX12_mend_181 (tgt := 99) (by decide) ?_
                                refine v_pick [0, 3, 4, 1, 5] rfl ?_
                                exact ih_4529 f_4614 hW_4618 ((((hF_4522.tr fr_4591).tr hF_4598).tr fr_4621).mono rfl) v_4622 (by first | omega | (simp only [Int32.lt_iff_toInt_lt, Int32.le_iff_toInt_le, Int32.reduceToInt, ← Int32.toInt_inj, true_and, and_true, or_true, true_or, false_or, or_false, false_and, and_false, not_true_eq_false, not_false_eq_true] <;> omega)) 1 (by decide) (by first | omega | (simp only [Int32.lt_iff_toInt_lt, Int32.le_iff_toInt_le, Int32.reduceToInt, ← Int32.toInt_inj, true_and, and_true, or_true, true_or, false_or, or_false, false_and, and_false, not_true_eq_false, not_false_eq_true] <;> omega))
                            · simp only [Int32.lt_iff_toInt_lt, Int32.le_iff_toInt_le, Int32.reduceToInt, ← Int32.toInt_inj] at h_4574
                              refine v_goto hC dX12_mend_130 (tgt := 178) (by decide) ?_
                              obtain ⟨v_4625, h_4626⟩ : ∃ v9 : Int32, i_4518 + Int32.ofInt 1 = v9 := ⟨_, rfl⟩
                              have h_4627 := add_v (b := 1) h_4626 (by first | omega | (simp only [Int32.lt_iff_toInt_lt, Int32.le_iff_toInt_le, Int32.reduceToInt, ← Int32.toInt_inj, true_and, and_true, or_true, true_or, false_or, or_false, false_and, and_false, not_true_eq_false, not_false_eq_true] <;> omega)) (by first | omega | (simp only [Int32.lt_iff_toInt_lt, Int32.le_iff_toInt_le, Int32.reduceToInt, ← Int32.toInt_inj, true_and, and_true, or_true, true_or, false_or, or_false, false_and, and_false, not_true_eq_false, not_false_eq_true] <;> omega))
                              simp only [Int32.reduceToInt] at h_4627
                              refine v_iinc hC dX12_mend_178 (k := 0) rfl (v := v_4625) h_4626 (by decide) (lv' := [(6, .int v_4625), (5, .int v_4075), (4, .int i_4035), (3, .int i_4519), (0, .ref a_0)]) rfl ?_
                              refine v_goto hC dX12_mend_181 (tgt := 99) (by decide) ?_
                              refine v_pick [0, 1, 2, 3, 4] rfl ?_
                              exact ih_4529 f_4520 hW_4521 (hF_4522.mono rfl) v_4625 (by first | omega | (simp only [Int32.lt_iff_toInt_lt, Int32.le_iff_toInt_le, Int32.reduceToInt, ← Int32.toInt_inj, true_and, and_true, or_true, true_or, false_or, or_false, false_and, and_false, not_true_eq_false, not_false_eq_true] <;> omega)) i_4519 (by first | omega | (simp only [Int32.lt_iff_toInt_lt, Int32.le_iff_toInt_le, Int32.reduceToInt, ← Int32.toInt_inj, true_and, and_true, or_true, true_or, false_or, or_false, false_and, and_false, not_true_eq_false, not_false_eq_true] <;> omega)) (by first | omega | (simp only [Int32.lt_iff_toInt_lt, Int32.le_iff_toInt_le, Int32.reduceToInt, ← Int32.toInt_inj, true_and, and_true, or_true, true_or, false_or, or_false, false_and, and_false, not_true_eq_false, not_false_eq_true] <;> omega))
                  refine v_pick [0, 1, 2, 3, 4] rfl ?_
                  exact lp_4527 257 f_4094 hW_4097 FR.rf 0 (by decide) i_4036 (by first | omega | (simp only [Int32.lt_iff_toInt_lt, Int32.le_iff_toInt_le, Int32.reduceToInt, ← Int32.toInt_inj, true_and, and_true, or_true, true_or, false_or, or_false, false_and, and_false, not_true_eq_false, not_false_eq_true] <;> omega)) (by decide)
                · simp only [Int32.lt_iff_toInt_lt, Int32.le_iff_toInt_le, Int32.reduceToInt, ← Int32.toInt_inj] at h_4102
                  refine v_iconst hC dX12_mend_94 (v := 1) (by decide) ?_
                  exact hR _ _ _ _ _ _ _ dX12_mend_95 rfl (Nat.le_of_ble_eq_true rfl) (Nat.le_of_ble_eq_true rfl) ⟨rfl, hW_4097, (((((hF_59.tr hF_68).tr hF_4039).tr fr_4091).tr hF_4098).mono rfl), (by decide), (.inl (by decide))⟩
              · simp only [Int32.lt_iff_toInt_lt, Int32.le_iff_toInt_le, Int32.reduceToInt, ← Int32.toInt_inj] at h_4074
                refine v_goto hC dX12_mend_61 (tgt := 193) (by decide) ?_
                obtain ⟨v_4628, h_4629⟩ : ∃ v9 : Int32, i_4035 + Int32.ofInt 1 = v9 := ⟨_, rfl⟩
                have h_4630 := add_v (b := 1) h_4629 (by first | omega | (simp only [Int32.lt_iff_toInt_lt, Int32.le_iff_toInt_le, Int32.reduceToInt, ← Int32.toInt_inj, true_and, and_true, or_true, true_or, false_or, or_false, false_and, and_false, not_true_eq_false, not_false_eq_true] <;> omega)) (by first | omega | (simp only [Int32.lt_iff_toInt_lt, Int32.le_iff_toInt_le, Int32.reduceToInt, ← Int32.toInt_inj, true_and, and_true, or_true, true_or, false_or, or_false, false_and, and_false, not_true_eq_false, not_false_eq_true] <;> omega))
                simp only [Int32.reduceToInt] at h_4630
                refine v_iinc hC dX12_mend_193 (k := 0) rfl (v := v_4628) h_4629 (by decide) (lv' := [(4, .int v_4628), (3, .int i_4036), (0, .ref a_0)]) rfl ?_
                refine v_goto hC dX12_mend_196 (tgt := 32) (by decide) ?_
                refine v_pick [0, 1, 2] rfl ?_
                exact ih_4046 f_4037 hW_4038 (hF_4039.mono rfl) v_4628 (by first | omega | (simp only [Int32.lt_iff_toInt_lt, Int32.le_iff_toInt_le, Int32.reduceToInt, ← Int32.toInt_inj, true_and, and_true, or_true, true_or, false_or, or_false, false_and, and_false, not_true_eq_false, not_false_eq_true] <;> omega)) i_4036 (by first | omega | (simp only [Int32.lt_iff_toInt_lt, Int32.le_iff_toInt_le, Int32.reduceToInt, ← Int32.toInt_inj, true_and, and_true, or_true, true_or, false_or, or_false, false_and, and_false, not_true_eq_false, not_false_eq_true] <;> omega)) (by first | omega | (simp only [Int32.lt_iff_toInt_lt, Int32.le_iff_toInt_le, Int32.reduceToInt, ← Int32.toInt_inj, true_and, and_true, or_true, true_or, false_or, or_false, false_and, and_false, not_true_eq_false, not_false_eq_true] <;> omega))
      refine v_pick [0, 1, 3] rfl ?_
      exact lp_4044 258 f_64 hW_67 FR.rf 0 (by decide) 0 (by decide) (by decide)
    · simp only [Int32.lt_iff_toInt_lt, Int32.le_iff_toInt_le, Int32.reduceToInt, ← Int32.toInt_inj] at h_71
      refine v_iconst hC dX12_mend_25 (v := 0) (by decide) ?_
      exact hR _ _ _ _ _ _ _ dX12_mend_26 rfl (Nat.le_of_ble_eq_true rfl) (Nat.le_of_ble_eq_true rfl) ⟨rfl, hW_67, ((hF_59.tr hF_68).mono rfl), (by decide), (.inr (by first | omega | (simp only [Int32.lt_iff_toInt_lt, Int32.le_iff_toInt_le, Int32.reduceToInt, ← Int32.toInt_inj, true_and, and_true, or_true, true_or, false_or, or_false, false_and, and_false, not_true_eq_false, not_false_eq_true] <;> omega)))⟩
  · simp only [Int32.lt_iff_toInt_lt, Int32.le_iff_toInt_le, Int32.reduceToInt, ← Int32.toInt_inj] at h_53
    refine v_iload_n hC dX12_mend_10 rfl ?_
    exact hR _ _ _ _ _ _ _ dX12_mend_11 rfl (Nat.le_of_ble_eq_true rfl) (Nat.le_of_ble_eq_true rfl) ⟨rfl, hW, FR.rf, (by first | omega | (simp only [Int32.lt_iff_toInt_lt, Int32.le_iff_toInt_le, Int32.reduceToInt, ← Int32.toInt_inj, true_and, and_true, or_true, true_or, false_or, or_false, false_and, and_false, not_true_eq_false, not_false_eq_true] <;> omega)), (by first | omega | (simp only [Int32.lt_iff_toInt_lt, Int32.le_iff_toInt_le, Int32.reduceToInt, ← Int32.toInt_inj, true_and, and_true, or_true, true_or, false_or, or_false, false_and, and_false, not_true_eq_false, not_false_eq_true] <;> omega))⟩
set_option maxRecDepth 100000 in
set_option maxHeartbeats 8000000 in
theorem p_X12_count {l : Launch} {E : Ez} {L : List Nat} {f : Nat → va_E} {T : Nat → va_E → Prop} {a_0 : Nat} {a_1 : Int32} {q : Nat → Nat} {g_w : Nat → Int32} (hW : WT T L f) (k_0 : isM T L E a_0 q) (e_w : f (q 1) = aI E 2076 g_w) (o_w : WOK g_w) : CI l yX12_count cX12_count 4 .int 4 0 0 E [.ref a_0, .int a_1] L f (fun r L1 f1 => L = L1 ∧ f = f1 ∧ (¬ r.toInt = 0 ∨ (0 ≤ a_1.toInt ∧ a_1.toInt ≤ 9))) := by
  refine ci_of (by decide) (Nat.le_of_ble_eq_true rfl) (fun z hz hnm hC hR => ?_)
  have hC : Cx z E cX12_count RX12 4 4 0 0 := hC
  subst hz
  show V z E 4 0 0 L f 0 [(0, .ref a_0), (1, .int a_1)] []
  obtain ⟨m_1, t_2, nq_21, k_3, k_4, k_5, k_6, k_7, k_8, k_9, k_10, k_11, k_12, k_13, k_14, k_15, k_16, k_17, k_18, k_19, k_20⟩ := id k_0
  obtain ⟨m_22, t_23⟩ := id k_3
  have b_24 := o_w.r0
  have b_25 := o_w.w0
  refine v_iconst hC dX12_count_0 (v := 0) (by decide) ?_
  refine v_istore_n hC dX12_count_1 (by decide) (lv' := [(2, .int 0), (0, .ref a_0), (1, .int a_1)]) rfl ?_
  refine v_iload_n hC dX12_count_2 rfl ?_
  by_cases h_26 : a_1 = 0
  · refine v_tableIn hC dX12_count_3 (off := 53) (tgt := 56) (by rw [h_26]; decide) (by rw [h_26]; decide) (by rw [h_26]; rfl) (by decide) ?_
    simp only [Int32.lt_iff_toInt_lt, Int32.le_iff_toInt_le, Int32.reduceToInt, ← Int32.toInt_inj] at h_26
    refine v_aload_n hC dX12_count_56 rfl ?_
    obtain ⟨v_37, v_38, v_40, v_42, v_44, v_46, v_48, v_49, v_50, v_51, v_53, e_36, b_39, b_41, b_43, b_45, b_47, b_52, b_54⟩ := hW.at m_1 t_2
    refine v_vi hC (rest := []) m_1 e_36 rfl mi_X12_rows ms_X12_rows (p_X12_rows hW k_0 e_w o_w) mx_X12_rows ml_X12_83 (by decide) rfl (cells1 := 0) (slots1 := 0) (by decide) (by decide) (Nat.le_of_ble_eq_true rfl) (Nat.le_of_ble_eq_true rfl) rfl (Nat.le_of_ble_eq_true rfl) dX12_count_57 (fun r_55 L_56 f_57 h_58 => ?_)
    obtain ⟨rfl, rfl, rfl⟩ := h_58
    exact hR _ _ _ _ _ _ _ dX12_count_60 rfl (Nat.le_of_ble_eq_true rfl) (Nat.le_of_ble_eq_true rfl) ⟨rfl, rfl, (.inr (by first | omega | (simp only [Int32.lt_iff_toInt_lt, Int32.le_iff_toInt_le, Int32.reduceToInt, ← Int32.toInt_inj, true_and, and_true, or_true, true_or, false_or, or_false, false_and, and_false, not_true_eq_false, not_false_eq_true] <;> omega)))⟩
  by_cases h_27 : a_1 = 1
  · refine v_tableIn hC dX12_count_3 (off := 58) (tgt := 61) (by rw [h_27]; decide) (by rw [h_27]; decide) (by rw [h_27]; rfl) (by decide) ?_
    simp only [Int32.lt_iff_toInt_lt, Int32.le_iff_toInt_le, Int32.reduceToInt, ← Int32.toInt_inj] at h_27
    refine v_aload_n hC dX12_count_61 rfl ?_
    obtain ⟨v_62, v_63, v_65, v_67, v_69, v_71, v_73, v_74, v_75, v_76, v_78, e_61, b_64, b_66, b_68, b_70, b_72, b_77, b_79⟩ := hW.at m_1 t_2
    refine v_vi hC (rest := []) m_1 e_61 rfl mi_X12_wide ms_X12_wide (p_X12_wide hW k_0 e_w o_w) mx_X12_wide ml_X12_87 (by decide) rfl (cells1 := 0) (slots1 := 0) (by decide) (by decide) (Nat.le_of_ble_eq_true rfl) (Nat.le_of_ble_eq_true rfl) rfl (Nat.le_of_ble_eq_true rfl) dX12_count_62 (fun r_80 L_81 f_82 h_83 => ?_)
    obtain ⟨rfl, rfl, rfl⟩ := h_83
    exact hR _ _ _ _ _ _ _ dX12_count_65 rfl (Nat.le_of_ble_eq_true rfl) (Nat.le_of_ble_eq_true rfl) ⟨rfl, rfl, (.inr (by first | omega | (simp only [Int32.lt_iff_toInt_lt, Int32.le_iff_toInt_le, Int32.reduceToInt, ← Int32.toInt_inj, true_and, and_true, or_true, true_or, false_or, or_false, false_and, and_false, not_true_eq_false, not_false_eq_true] <;> omega)))⟩
  by_cases h_28 : a_1 = 2
  · refine v_tableIn hC dX12_count_3 (off := 63) (tgt := 66) (by rw [h_28]; decide) (by rw [h_28]; decide) (by rw [h_28]; rfl) (by decide) ?_
    simp only [Int32.lt_iff_toInt_lt, Int32.le_iff_toInt_le, Int32.reduceToInt, ← Int32.toInt_inj] at h_28
    refine v_aload_n hC dX12_count_66 rfl ?_
    obtain ⟨v_87, v_88, v_90, v_92, v_94, v_96, v_98, v_99, v_100, v_101, v_103, e_86, b_89, b_91, b_93, b_95, b_97, b_102, b_104⟩ := hW.at m_1 t_2
    refine v_vi hC (rest := []) m_1 e_86 rfl mi_X12_frees ms_X12_frees (p_X12_frees hW k_0 e_w o_w) mx_X12_frees ml_X12_200 (by decide) rfl (cells1 := 0) (slots1 := 0) (by decide) (by decide) (Nat.le_of_ble_eq_true rfl) (Nat.le_of_ble_eq_true rfl) rfl (Nat.le_of_ble_eq_true rfl) dX12_count_67 (fun r_105 L_106 f_107 h_108 => ?_)
    obtain ⟨rfl, rfl⟩ := h_108
    exact hR _ _ _ _ _ _ _ dX12_count_70 rfl (Nat.le_of_ble_eq_true rfl) (Nat.le_of_ble_eq_true rfl) ⟨rfl, rfl, (.inr (by first | omega | (simp only [Int32.lt_iff_toInt_lt, Int32.le_iff_toInt_le, Int32.reduceToInt, ← Int32.toInt_inj, true_and, and_true, or_true, true_or, false_or, or_false, false_and, and_false, not_true_eq_false, not_false_eq_true] <;> omega)))⟩
  by_cases h_29 : a_1 = 3
  · refine v_tableIn hC dX12_count_3 (off := 68) (tgt := 71) (by rw [h_29]; decide) (by rw [h_29]; decide) (by rw [h_29]; rfl) (by decide) ?_
    simp only [Int32.lt_iff_toInt_lt, Int32.le_iff_toInt_le, Int32.reduceToInt, ← Int32.toInt_inj] at h_29
    refine v_iconst hC dX12_count_71 (v := 0) (by decide) ?_
    refine v_istore_n hC dX12_count_72 (by decide) (lv' := [(3, .int 0), (2, .int 0), (0, .ref a_0), (1, .int a_1)]) rfl ?_
    have lp_332 : ∀ (n_333 : Nat) (i_329 : Int32) (b_331 : (0 ≤ i_329.toInt ∧ i_329.toInt ≤ 6)) (i_330 : Int32) (hm_335 : 6 - i_329.toInt < (n_333 : Int)), V z E 4 0 0 L f 73 [(3, .int i_329), (2, .int i_330), (0, .ref a_0)] [] := by
      intro n_333
      induction n_333 with
      | zero =>
        intro i_329 b_331 i_330 hm_335
        exfalso; omega
      | succ n_333 ih_334 =>
        intro i_329 b_331 i_330 hm_335
        refine v_iload_n hC dX12_count_73 rfl ?_
        refine v_bipush hC dX12_count_74 (v := 6) (by decide) ?_
        refine v_icmp_ge hC dX12_count_76 (tgt := 94) (by decide) (fun h_336 => ?_) (fun h_336 => ?_)
        · simp only [Int32.lt_iff_toInt_lt, Int32.le_iff_toInt_le, Int32.reduceToInt, ← Int32.toInt_inj] at h_336
          refine v_iload_n hC dX12_count_94 rfl ?_
          exact hR _ _ _ _ _ _ _ dX12_count_95 rfl (Nat.le_of_ble_eq_true rfl) (Nat.le_of_ble_eq_true rfl) ⟨rfl, rfl, (.inr (by first | omega | (simp only [Int32.lt_iff_toInt_lt, Int32.le_iff_toInt_le, Int32.reduceToInt, ← Int32.toInt_inj, true_and, and_true, or_true, true_or, false_or, or_false, false_and, and_false, not_true_eq_false, not_false_eq_true] <;> omega)))⟩
        · simp only [Int32.lt_iff_toInt_lt, Int32.le_iff_toInt_le, Int32.reduceToInt, ← Int32.toInt_inj] at h_336
          refine v_iload_n hC dX12_count_79 rfl ?_
          refine v_aload_n hC dX12_count_80 rfl ?_
          refine v_iload_n hC dX12_count_81 rfl ?_
          refine v_iconst hC dX12_count_82 (v := 0) (by decide) ?_
          obtain ⟨v_338, v_339, v_341, v_343, v_345, v_347, v_349, v_350, v_351, v_352, v_354, e_337, b_340, b_342, b_344, b_346, b_348, b_353, b_355⟩ := hW.at m_1 t_2
          refine v_vi hC (rest := [.int i_330]) m_1 e_337 rfl mi_X12_ofWay ms_X12_ofWay (p_X12_ofWay hW k_0 (by first | omega | (simp only [Int32.lt_iff_toInt_lt, Int32.le_iff_toInt_le, Int32.reduceToInt, ← Int32.toInt_inj, true_and, and_true, or_true, true_or, false_or, or_false, false_and, and_false, not_true_eq_false, not_false_eq_true] <;> omega)) (by decide) e_w o_w) mx_X12_ofWay ml_X12_94 (by decide) rfl (cells1 := 0) (slots1 := 0) (by decide) (by decide) (Nat.le_of_ble_eq_true rfl) (Nat.le_of_ble_eq_true rfl) rfl (Nat.le_of_ble_eq_true rfl) dX12_count_83 (fun r_356 L_357 f_358 h_359 => ?_)
          obtain ⟨rfl, rfl, rfl⟩ := h_359
          obtain ⟨v_362, h_363⟩ : ∃ v9 : Int32, i_330 + (wv g_w i_329 0) = v9 := ⟨_, rfl⟩
          refine v_iadd hC dX12_count_86 h_363 ?_
          refine v_istore_n hC dX12_count_87 (by decide) (lv' := [(2, .int v_362), (3, .int i_329), (0, .ref a_0)]) rfl ?_
          obtain ⟨v_365, h_366⟩ : ∃ v9 : Int32, i_329 + Int32.ofInt 1 = v9 := ⟨_, rfl⟩
          have h_367 := add_v (b := 1) h_366 (by first | omega | (simp only [Int32.lt_iff_toInt_lt, Int32.le_iff_toInt_le, Int32.reduceToInt, ← Int32.toInt_inj, true_and, and_true, or_true, true_or, false_or, or_false, false_and, and_false, not_true_eq_false, not_false_eq_true] <;> omega)) (by first | omega | (simp only [Int32.lt_iff_toInt_lt, Int32.le_iff_toInt_le, Int32.reduceToInt, ← Int32.toInt_inj, true_and, and_true, or_true, true_or, false_or, or_false, false_and, and_false, not_true_eq_false, not_false_eq_true] <;> omega))
          simp only [Int32.reduceToInt] at h_367
          refine v_iinc hC dX12_count_88 (k := 1) rfl (v := v_365) h_366 (by decide) (lv' := [(3, .int v_365), (2, .int v_362), (0, .ref a_0)]) rfl ?_
          refine v_goto hC dX12_count_91 (tgt := 73) (by decide) ?_
          refine v_pick [0, 1, 2] rfl ?_
          exact ih_334 v_365 (by first | omega | (simp only [Int32.lt_iff_toInt_lt, Int32.le_iff_toInt_le, Int32.reduceToInt, ← Int32.toInt_inj, true_and, and_true, or_true, true_or, false_or, or_false, false_and, and_false, not_true_eq_false, not_false_eq_true] <;> omega)) v_362 (by first | omega | (simp only [Int32.lt_iff_toInt_lt, Int32.le_iff_toInt_le, Int32.reduceToInt, ← Int32.toInt_inj, true_and, and_true, or_true, true_or, false_or, or_false, false_and, and_false, not_true_eq_false, not_false_eq_true] <;> omega))
    refine v_pick [0, 1, 2] rfl ?_
    exact lp_332 8 0 (by decide) 0 (by decide)
  by_cases h_30 : a_1 = 4
  · refine v_tableIn hC dX12_count_3 (off := 93) (tgt := 96) (by rw [h_30]; decide) (by rw [h_30]; decide) (by rw [h_30]; rfl) (by decide) ?_
    simp only [Int32.lt_iff_toInt_lt, Int32.le_iff_toInt_le, Int32.reduceToInt, ← Int32.toInt_inj] at h_30
    refine v_aload_n hC dX12_count_96 rfl ?_
    obtain ⟨v_369, v_370, v_372, v_374, v_376, v_378, v_380, v_381, v_382, v_383, v_385, e_368, b_371, b_373, b_375, b_377, b_379, b_384, b_386⟩ := hW.at m_1 t_2
    refine v_get hC fl_X12_13 m_1 e_368 rfl dX12_count_97 ?_
    refine v_iconst hC dX12_count_100 (v := 3) (by decide) ?_
    refine v_iald hC m_22 e_w (vp_in_iff.mpr (by decide)) (v := g_w 3) rfl dX12_count_101 ?_
    exact hR _ _ _ _ _ _ _ dX12_count_102 rfl (Nat.le_of_ble_eq_true rfl) (Nat.le_of_ble_eq_true rfl) ⟨rfl, rfl, (.inr (by first | omega | (simp only [Int32.lt_iff_toInt_lt, Int32.le_iff_toInt_le, Int32.reduceToInt, ← Int32.toInt_inj, true_and, and_true, or_true, true_or, false_or, or_false, false_and, and_false, not_true_eq_false, not_false_eq_true] <;> omega)))⟩
  by_cases h_31 : a_1 = 5
  · refine v_tableIn hC dX12_count_3 (off := 100) (tgt := 103) (by rw [h_31]; decide) (by rw [h_31]; decide) (by rw [h_31]; rfl) (by decide) ?_
    simp only [Int32.lt_iff_toInt_lt, Int32.le_iff_toInt_le, Int32.reduceToInt, ← Int32.toInt_inj] at h_31
    refine v_aload_n hC dX12_count_103 rfl ?_
    obtain ⟨v_388, v_389, v_391, v_393, v_395, v_397, v_399, v_400, v_401, v_402, v_404, e_387, b_390, b_392, b_394, b_396, b_398, b_403, b_405⟩ := hW.at m_1 t_2
    refine v_get hC fl_X12_13 m_1 e_387 rfl dX12_count_104 ?_
    refine v_bipush hC dX12_count_107 (v := 6) (by decide) ?_
    refine v_iald hC m_22 e_w (vp_in_iff.mpr (by decide)) (v := g_w 6) rfl dX12_count_109 ?_
    exact hR _ _ _ _ _ _ _ dX12_count_110 rfl (Nat.le_of_ble_eq_true rfl) (Nat.le_of_ble_eq_true rfl) ⟨rfl, rfl, (.inr (by first | omega | (simp only [Int32.lt_iff_toInt_lt, Int32.le_iff_toInt_le, Int32.reduceToInt, ← Int32.toInt_inj, true_and, and_true, or_true, true_or, false_or, or_false, false_and, and_false, not_true_eq_false, not_false_eq_true] <;> omega)))⟩
  by_cases h_32 : a_1 = 6
  · refine v_tableIn hC dX12_count_3 (off := 108) (tgt := 111) (by rw [h_32]; decide) (by rw [h_32]; decide) (by rw [h_32]; rfl) (by decide) ?_
    simp only [Int32.lt_iff_toInt_lt, Int32.le_iff_toInt_le, Int32.reduceToInt, ← Int32.toInt_inj] at h_32
    refine v_iconst hC dX12_count_111 (v := 0) (by decide) ?_
    refine v_istore_n hC dX12_count_112 (by decide) (lv' := [(3, .int 0), (2, .int 0), (0, .ref a_0), (1, .int a_1)]) rfl ?_
    have lp_817 : ∀ (n_818 : Nat) (i_814 : Int32) (b_816 : (0 ≤ i_814.toInt ∧ i_814.toInt ≤ 4)) (i_815 : Int32) (hm_820 : 4 - i_814.toInt < (n_818 : Int)), V z E 4 0 0 L f 113 [(3, .int i_814), (2, .int i_815), (0, .ref a_0)] [] := by
      intro n_818
      induction n_818 with
      | zero =>
        intro i_814 b_816 i_815 hm_820
        exfalso; omega
      | succ n_818 ih_819 =>
        intro i_814 b_816 i_815 hm_820
        refine v_iload_n hC dX12_count_113 rfl ?_
        refine v_iconst hC dX12_count_114 (v := 4) (by decide) ?_
        refine v_icmp_ge hC dX12_count_115 (tgt := 140) (by decide) (fun h_821 => ?_) (fun h_821 => ?_)
        · simp only [Int32.lt_iff_toInt_lt, Int32.le_iff_toInt_le, Int32.reduceToInt, ← Int32.toInt_inj] at h_821
          refine v_iload_n hC dX12_count_140 rfl ?_
          exact hR _ _ _ _ _ _ _ dX12_count_141 rfl (Nat.le_of_ble_eq_true rfl) (Nat.le_of_ble_eq_true rfl) ⟨rfl, rfl, (.inr (by first | omega | (simp only [Int32.lt_iff_toInt_lt, Int32.le_iff_toInt_le, Int32.reduceToInt, ← Int32.toInt_inj, true_and, and_true, or_true, true_or, false_or, or_false, false_and, and_false, not_true_eq_false, not_false_eq_true] <;> omega)))⟩
        · simp only [Int32.lt_iff_toInt_lt, Int32.le_iff_toInt_le, Int32.reduceToInt, ← Int32.toInt_inj] at h_821
          refine v_iload_n hC dX12_count_118 rfl ?_
          refine v_aload_n hC dX12_count_119 rfl ?_
          refine v_iload_n hC dX12_count_120 rfl ?_
          obtain ⟨v_823, v_824, v_826, v_828, v_830, v_832, v_834, v_835, v_836, v_837, v_839, e_822, b_825, b_827, b_829, b_831, b_833, b_838, b_840⟩ := hW.at m_1 t_2
          refine v_vi hC (rest := [.int i_815]) m_1 e_822 rfl mi_X12_isThere ms_X12_isThere (p_X12_isThere hW k_0 (by first | omega | (simp only [Int32.lt_iff_toInt_lt, Int32.le_iff_toInt_le, Int32.reduceToInt, ← Int32.toInt_inj, true_and, and_true, or_true, true_or, false_or, or_false, false_and, and_false, not_true_eq_false, not_false_eq_true] <;> omega)) e_w o_w) mx_X12_isThere ml_X12_351 (by decide) rfl (cells1 := 0) (slots1 := 0) (by decide) (by decide) (Nat.le_of_ble_eq_true rfl) (Nat.le_of_ble_eq_true rfl) rfl (Nat.le_of_ble_eq_true rfl) dX12_count_121 (fun r_841 L_842 f_843 h_844 => ?_)
          obtain ⟨rfl, rfl, b_845⟩ := h_844
          refine v_if_eq hC dX12_count_124 (tgt := 131) (by decide) (fun h_848 => ?_) (fun h_848 => ?_)
          · simp only [Int32.lt_iff_toInt_lt, Int32.le_iff_toInt_le, Int32.reduceToInt, ← Int32.toInt_inj] at h_848
            refine v_iconst hC dX12_count_131 (v := 0) (by decide) ?_
            obtain ⟨v_849, h_850⟩ : ∃ v9 : Int32, i_815 + 0 = v9 := ⟨_, rfl⟩
            refine v_iadd hC dX12_count_132 h_850 ?_
            have rg_852 := Int32.toInt_lt i_815
            have rg_853 := Int32.le_toInt i_815
            have h_851 := add_v h_850 (by first | omega | (simp only [Int32.lt_iff_toInt_lt, Int32.le_iff_toInt_le, Int32.reduceToInt, ← Int32.toInt_inj, true_and, and_true, or_true, true_or, false_or, or_false, false_and, and_false, not_true_eq_false, not_false_eq_true] <;> omega)) (by first | omega | (simp only [Int32.lt_iff_toInt_lt, Int32.le_iff_toInt_le, Int32.reduceToInt, ← Int32.toInt_inj, true_and, and_true, or_true, true_or, false_or, or_false, false_and, and_false, not_true_eq_false, not_false_eq_true] <;> omega))
            try simp only [Int32.reduceToInt] at h_851
            refine v_istore_n hC dX12_count_133 (by decide) (lv' := [(2, .int v_849), (3, .int i_814), (0, .ref a_0)]) rfl ?_
            obtain ⟨v_854, h_855⟩ : ∃ v9 : Int32, i_814 + Int32.ofInt 1 = v9 := ⟨_, rfl⟩
            have h_856 := add_v (b := 1) h_855 (by first | omega | (simp only [Int32.lt_iff_toInt_lt, Int32.le_iff_toInt_le, Int32.reduceToInt, ← Int32.toInt_inj, true_and, and_true, or_true, true_or, false_or, or_false, false_and, and_false, not_true_eq_false, not_false_eq_true] <;> omega)) (by first | omega | (simp only [Int32.lt_iff_toInt_lt, Int32.le_iff_toInt_le, Int32.reduceToInt, ← Int32.toInt_inj, true_and, and_true, or_true, true_or, false_or, or_false, false_and, and_false, not_true_eq_false, not_false_eq_true] <;> omega))
            simp only [Int32.reduceToInt] at h_856
            refine v_iinc hC dX12_count_134 (k := 1) rfl (v := v_854) h_855 (by decide) (lv' := [(3, .int v_854), (2, .int v_849), (0, .ref a_0)]) rfl ?_
            refine v_goto hC dX12_count_137 (tgt := 113) (by decide) ?_
            refine v_pick [0, 1, 2] rfl ?_
            exact ih_819 v_854 (by first | omega | (simp only [Int32.lt_iff_toInt_lt, Int32.le_iff_toInt_le, Int32.reduceToInt, ← Int32.toInt_inj, true_and, and_true, or_true, true_or, false_or, or_false, false_and, and_false, not_true_eq_false, not_false_eq_true] <;> omega)) v_849 (by first | omega | (simp only [Int32.lt_iff_toInt_lt, Int32.le_iff_toInt_le, Int32.reduceToInt, ← Int32.toInt_inj, true_and, and_true, or_true, true_or, false_or, or_false, false_and, and_false, not_true_eq_false, not_false_eq_true] <;> omega))
          · simp only [Int32.lt_iff_toInt_lt, Int32.le_iff_toInt_le, Int32.reduceToInt, ← Int32.toInt_inj] at h_848
            refine v_iconst hC dX12_count_127 (v := 1) (by decide) ?_
            refine v_goto hC dX12_count_128 (tgt := 132) (by decide) ?_
            obtain ⟨v_857, h_858⟩ : ∃ v9 : Int32, i_815 + 1 = v9 := ⟨_, rfl⟩
            refine v_iadd hC dX12_count_132 h_858 ?_
            refine v_istore_n hC dX12_count_133 (by decide) (lv' := [(2, .int v_857), (3, .int i_814), (0, .ref a_0)]) rfl ?_
            obtain ⟨v_860, h_861⟩ : ∃ v9 : Int32, i_814 + Int32.ofInt 1 = v9 := ⟨_, rfl⟩
            have h_862 := add_v (b := 1) h_861 (by first | omega | (simp only [Int32.lt_iff_toInt_lt, Int32.le_iff_toInt_le, Int32.reduceToInt, ← Int32.toInt_inj, true_and, and_true, or_true, true_or, false_or, or_false, false_and, and_false, not_true_eq_false, not_false_eq_true] <;> omega)) (by first | omega | (simp only [Int32.lt_iff_toInt_lt, Int32.le_iff_toInt_le, Int32.reduceToInt, ← Int32.toInt_inj, true_and, and_true, or_true, true_or, false_or, or_false, false_and, and_false, not_true_eq_false, not_false_eq_true] <;> omega))
            simp only [Int32.reduceToInt] at h_862
            refine v_iinc hC dX12_count_134 (k := 1) rfl (v := v_860) h_861 (by decide) (lv' := [(3, .int v_860), (2, .int v_857), (0, .ref a_0)]) rfl ?_
            refine v_goto hC dX12_count_137 (tgt := 113) (by decide) ?_
            refine v_pick [0, 1, 2] rfl ?_
            exact ih_819 v_860 (by first | omega | (simp only [Int32.lt_iff_toInt_lt, Int32.le_iff_toInt_le, Int32.reduceToInt, ← Int32.toInt_inj, true_and, and_true, or_true, true_or, false_or, or_false, false_and, and_false, not_true_eq_false, not_false_eq_true] <;> omega)) v_857 (by first | omega | (simp only [Int32.lt_iff_toInt_lt, Int32.le_iff_toInt_le, Int32.reduceToInt, ← Int32.toInt_inj, true_and, and_true, or_true, true_or, false_or, or_false, false_and, and_false, not_true_eq_false, not_false_eq_true] <;> omega))
    refine v_pick [0, 1, 2] rfl ?_
    exact lp_817 6 0 (by decide) 0 (by decide)
  by_cases h_33 : a_1 = 7
  · refine v_tableIn hC dX12_count_3 (off := 139) (tgt := 142) (by rw [h_33]; decide) (by rw [h_33]; decide) (by rw [h_33]; rfl) (by decide) ?_
    simp only [Int32.lt_iff_toInt_lt, Int32.le_iff_toInt_le, Int32.reduceToInt, ← Int32.toInt_inj] at h_33
    refine v_aload_n hC dX12_count_142 rfl ?_
    obtain ⟨v_864, v_865, v_867, v_869, v_871, v_873, v_875, v_876, v_877, v_878, v_880, e_863, b_866, b_868, b_870, b_872, b_874, b_879, b_881⟩ := hW.at m_1 t_2
    refine v_get hC fl_X12_102 m_1 e_863 rfl dX12_count_143 ?_
    exact hR _ _ _ _ _ _ _ dX12_count_146 rfl (Nat.le_of_ble_eq_true rfl) (Nat.le_of_ble_eq_true rfl) ⟨rfl, rfl, (.inr (by first | omega | (simp only [Int32.lt_iff_toInt_lt, Int32.le_iff_toInt_le, Int32.reduceToInt, ← Int32.toInt_inj, true_and, and_true, or_true, true_or, false_or, or_false, false_and, and_false, not_true_eq_false, not_false_eq_true] <;> omega)))⟩
  by_cases h_34 : a_1 = 8
  · refine v_tableIn hC dX12_count_3 (off := 144) (tgt := 147) (by rw [h_34]; decide) (by rw [h_34]; decide) (by rw [h_34]; rfl) (by decide) ?_
    simp only [Int32.lt_iff_toInt_lt, Int32.le_iff_toInt_le, Int32.reduceToInt, ← Int32.toInt_inj] at h_34
    refine v_iconst hC dX12_count_147 (v := 0) (by decide) ?_
    refine v_aload_n hC dX12_count_148 rfl ?_
    obtain ⟨v_883, v_884, v_886, v_888, v_890, v_892, v_894, v_895, v_896, v_897, v_899, e_882, b_885, b_887, b_889, b_891, b_893, b_898, b_900⟩ := hW.at m_1 t_2
    refine v_get hC fl_X12_49 m_1 e_882 rfl dX12_count_149 ?_
    obtain ⟨v_901, h_902⟩ : ∃ v9 : Int32, (if (0 : Int32) < v_899 then v_899 else (0 : Int32)) = v9 := ⟨_, rfl⟩
    refine v_mmax hC mm_X12_386 mm_smax mm_i mm_cmax (by decide) (Nat.le_of_ble_eq_true rfl) (Nat.le_of_ble_eq_true rfl) (Nat.le_of_ble_eq_true rfl) h_902 dX12_count_152 ?_
    have b_903 := max_v h_902
    try simp only [Int32.reduceToInt] at b_903
    exact hR _ _ _ _ _ _ _ dX12_count_155 rfl (Nat.le_of_ble_eq_true rfl) (Nat.le_of_ble_eq_true rfl) ⟨rfl, rfl, (.inr (by first | omega | (simp only [Int32.lt_iff_toInt_lt, Int32.le_iff_toInt_le, Int32.reduceToInt, ← Int32.toInt_inj, true_and, and_true, or_true, true_or, false_or, or_false, false_and, and_false, not_true_eq_false, not_false_eq_true] <;> omega)))⟩
  by_cases h_35 : a_1 = 9
  · refine v_tableIn hC dX12_count_3 (off := 153) (tgt := 156) (by rw [h_35]; decide) (by rw [h_35]; decide) (by rw [h_35]; rfl) (by decide) ?_
    simp only [Int32.lt_iff_toInt_lt, Int32.le_iff_toInt_le, Int32.reduceToInt, ← Int32.toInt_inj] at h_35
    refine v_iconst hC dX12_count_156 (v := 0) (by decide) ?_
    refine v_istore_n hC dX12_count_157 (by decide) (lv' := [(3, .int 0), (2, .int 0), (0, .ref a_0), (1, .int a_1)]) rfl ?_
    have lp_1324 : ∀ (n_1325 : Nat) (i_1321 : Int32) (b_1323 : (0 ≤ i_1321.toInt ∧ i_1321.toInt ≤ 4)) (i_1322 : Int32) (hm_1327 : 4 - i_1321.toInt < (n_1325 : Int)), V z E 4 0 0 L f 158 [(3, .int i_1321), (2, .int i_1322), (0, .ref a_0)] [] := by
      intro n_1325
      induction n_1325 with
      | zero =>
        intro i_1321 b_1323 i_1322 hm_1327
        exfalso; omega
      | succ n_1325 ih_1326 =>
        intro i_1321 b_1323 i_1322 hm_1327
        refine v_iload_n hC dX12_count_158 rfl ?_
        refine v_iconst hC dX12_count_159 (v := 4) (by decide) ?_
        refine v_icmp_ge hC dX12_count_160 (tgt := 187) (by decide) (fun h_1328 => ?_) (fun h_1328 => ?_)
        · simp only [Int32.lt_iff_toInt_lt, Int32.le_iff_toInt_le, Int32.reduceToInt, ← Int32.toInt_inj] at h_1328
          refine v_iload_n hC dX12_count_187 rfl ?_
          exact hR _ _ _ _ _ _ _ dX12_count_188 rfl (Nat.le_of_ble_eq_true rfl) (Nat.le_of_ble_eq_true rfl) ⟨rfl, rfl, (.inr (by first | omega | (simp only [Int32.lt_iff_toInt_lt, Int32.le_iff_toInt_le, Int32.reduceToInt, ← Int32.toInt_inj, true_and, and_true, or_true, true_or, false_or, or_false, false_and, and_false, not_true_eq_false, not_false_eq_true] <;> omega)))⟩
        · simp only [Int32.lt_iff_toInt_lt, Int32.le_iff_toInt_le, Int32.reduceToInt, ← Int32.toInt_inj] at h_1328
          refine v_iload_n hC dX12_count_163 rfl ?_
          refine v_aload_n hC dX12_count_164 rfl ?_
          obtain ⟨v_1330, v_1331, v_1333, v_1335, v_1337, v_1339, v_1341, v_1342, v_1343, v_1344, v_1346, e_1329, b_1332, b_1334, b_1336, b_1338, b_1340, b_1345, b_1347⟩ := hW.at m_1 t_2
          refine v_get hC fl_X12_64 m_1 e_1329 rfl dX12_count_165 ?_
          refine v_iload_n hC dX12_count_168 rfl ?_
          obtain ⟨m_1348, t_1349⟩ := id k_17
          obtain ⟨g_1351, e_1350, ok_1352⟩ := hW.at m_1348 t_1349
          obtain ⟨v_1353, h_1354⟩ : ∃ v9 : Int32, g_1351 (i_1321 : Int32).toNatClampNeg = v9 := ⟨_, rfl⟩
          have b_1355 := ok_1352 (i_1321 : Int32).toNatClampNeg (clamp_lt (vp_in_iff.mpr (by first | omega | (simp only [Int32.lt_iff_toInt_lt, Int32.le_iff_toInt_le, Int32.reduceToInt, ← Int32.toInt_inj, true_and, and_true, or_true, true_or, false_or, or_false, false_and, and_false, not_true_eq_false, not_false_eq_true] <;> omega))))
          rw [h_1354] at b_1355
          refine v_iald hC m_1348 e_1350 (vp_in_iff.mpr (by first | omega | (simp only [Int32.lt_iff_toInt_lt, Int32.le_iff_toInt_le, Int32.reduceToInt, ← Int32.toInt_inj, true_and, and_true, or_true, true_or, false_or, or_false, false_and, and_false, not_true_eq_false, not_false_eq_true] <;> omega))) h_1354 dX12_count_169 ?_
          refine v_iconst hC dX12_count_170 (v := (-1)) (by decide) ?_
          refine v_icmp_ne hC dX12_count_171 (tgt := 178) (by decide) (fun h_1356 => ?_) (fun h_1356 => ?_)
          · simp only [Int32.lt_iff_toInt_lt, Int32.le_iff_toInt_le, Int32.reduceToInt, ← Int32.toInt_inj] at h_1356
            refine v_iconst hC dX12_count_178 (v := 1) (by decide) ?_
            obtain ⟨v_1357, h_1358⟩ : ∃ v9 : Int32, i_1322 + 1 = v9 := ⟨_, rfl⟩
            refine v_iadd hC dX12_count_179 h_1358 ?_
            refine v_istore_n hC dX12_count_180 (by decide) (lv' := [(2, .int v_1357), (3, .int i_1321), (0, .ref a_0)]) rfl ?_
            obtain ⟨v_1360, h_1361⟩ : ∃ v9 : Int32, i_1321 + Int32.ofInt 1 = v9 := ⟨_, rfl⟩
            have h_1362 := add_v (b := 1) h_1361 (by first | omega | (simp only [Int32.lt_iff_toInt_lt, Int32.le_iff_toInt_le, Int32.reduceToInt, ← Int32.toInt_inj, true_and, and_true, or_true, true_or, false_or, or_false, false_and, and_false, not_true_eq_false, not_false_eq_true] <;> omega)) (by first | omega | (simp only [Int32.lt_iff_toInt_lt, Int32.le_iff_toInt_le, Int32.reduceToInt, ← Int32.toInt_inj, true_and, and_true, or_true, true_or, false_or, or_false, false_and, and_false, not_true_eq_false, not_false_eq_true] <;> omega))
            simp only [Int32.reduceToInt] at h_1362
            refine v_iinc hC dX12_count_181 (k := 1) rfl (v := v_1360) h_1361 (by decide) (lv' := [(3, .int v_1360), (2, .int v_1357), (0, .ref a_0)]) rfl ?_
            refine v_goto hC dX12_count_184 (tgt := 158) (by decide) ?_
            refine v_pick [0, 1, 2] rfl ?_
            exact ih_1326 v_1360 (by first | omega | (simp only [Int32.lt_iff_toInt_lt, Int32.le_iff_toInt_le, Int32.reduceToInt, ← Int32.toInt_inj, true_and, and_true, or_true, true_or, false_or, or_false, false_and, and_false, not_true_eq_false, not_false_eq_true] <;> omega)) v_1357 (by first | omega | (simp only [Int32.lt_iff_toInt_lt, Int32.le_iff_toInt_le, Int32.reduceToInt, ← Int32.toInt_inj, true_and, and_true, or_true, true_or, false_or, or_false, false_and, and_false, not_true_eq_false, not_false_eq_true] <;> omega))
          · simp only [Int32.lt_iff_toInt_lt, Int32.le_iff_toInt_le, Int32.reduceToInt, ← Int32.toInt_inj] at h_1356
            refine v_iconst hC dX12_count_174 (v := 0) (by decide) ?_
            refine v_goto hC dX12_count_175 (tgt := 179) (by decide) ?_
            obtain ⟨v_1363, h_1364⟩ : ∃ v9 : Int32, i_1322 + 0 = v9 := ⟨_, rfl⟩
            refine v_iadd hC dX12_count_179 h_1364 ?_
            have rg_1366 := Int32.toInt_lt i_1322
            have rg_1367 := Int32.le_toInt i_1322
            have h_1365 := add_v h_1364 (by first | omega | (simp only [Int32.lt_iff_toInt_lt, Int32.le_iff_toInt_le, Int32.reduceToInt, ← Int32.toInt_inj, true_and, and_true, or_true, true_or, false_or, or_false, false_and, and_false, not_true_eq_false, not_false_eq_true] <;> omega)) (by first | omega | (simp only [Int32.lt_iff_toInt_lt, Int32.le_iff_toInt_le, Int32.reduceToInt, ← Int32.toInt_inj, true_and, and_true, or_true, true_or, false_or, or_false, false_and, and_false, not_true_eq_false, not_false_eq_true] <;> omega))
            try simp only [Int32.reduceToInt] at h_1365
            refine v_istore_n hC dX12_count_180 (by decide) (lv' := [(2, .int v_1363), (3, .int i_1321), (0, .ref a_0)]) rfl ?_
            obtain ⟨v_1368, h_1369⟩ : ∃ v9 : Int32, i_1321 + Int32.ofInt 1 = v9 := ⟨_, rfl⟩
            have h_1370 := add_v (b := 1) h_1369 (by first | omega | (simp only [Int32.lt_iff_toInt_lt, Int32.le_iff_toInt_le, Int32.reduceToInt, ← Int32.toInt_inj, true_and, and_true, or_true, true_or, false_or, or_false, false_and, and_false, not_true_eq_false, not_false_eq_true] <;> omega)) (by first | omega | (simp only [Int32.lt_iff_toInt_lt, Int32.le_iff_toInt_le, Int32.reduceToInt, ← Int32.toInt_inj, true_and, and_true, or_true, true_or, false_or, or_false, false_and, and_false, not_true_eq_false, not_false_eq_true] <;> omega))
            simp only [Int32.reduceToInt] at h_1370
            refine v_iinc hC dX12_count_181 (k := 1) rfl (v := v_1368) h_1369 (by decide) (lv' := [(3, .int v_1368), (2, .int v_1363), (0, .ref a_0)]) rfl ?_
            refine v_goto hC dX12_count_184 (tgt := 158) (by decide) ?_
            refine v_pick [0, 1, 2] rfl ?_
            exact ih_1326 v_1368 (by first | omega | (simp only [Int32.lt_iff_toInt_lt, Int32.le_iff_toInt_le, Int32.reduceToInt, ← Int32.toInt_inj, true_and, and_true, or_true, true_or, false_or, or_false, false_and, and_false, not_true_eq_false, not_false_eq_true] <;> omega)) v_1363 (by first | omega | (simp only [Int32.lt_iff_toInt_lt, Int32.le_iff_toInt_le, Int32.reduceToInt, ← Int32.toInt_inj, true_and, and_true, or_true, true_or, false_or, or_false, false_and, and_false, not_true_eq_false, not_false_eq_true] <;> omega))
    refine v_pick [0, 1, 2] rfl ?_
    exact lp_1324 6 0 (by decide) 0 (by decide)
  simp only [Int32.lt_iff_toInt_lt, Int32.le_iff_toInt_le, Int32.reduceToInt, ← Int32.toInt_inj] at h_26 h_27 h_28 h_29 h_30 h_31 h_32 h_33 h_34 h_35
  refine v_tableOut hC dX12_count_3 (tgt := 189) (by omega) (by decide) ?_
  refine v_iconst hC dX12_count_189 (v := (-1)) (by decide) ?_
  exact hR _ _ _ _ _ _ _ dX12_count_190 rfl (Nat.le_of_ble_eq_true rfl) (Nat.le_of_ble_eq_true rfl) ⟨rfl, rfl, (.inl (by decide))⟩
set_option maxRecDepth 100000 in
set_option maxHeartbeats 8000000 in
theorem p_X12_row {l : Launch} {E : Ez} {L : List Nat} {f : Nat → va_E} {T : Nat → va_E → Prop} {a_0 : Nat} {a_1 : Int32} {a_2 : Int32} {a_3 : Int32} {q : Nat → Nat} {g_w : Nat → Int32} (hW : WT T L f) (k_0 : isM T L E a_0 q) (e_w : f (q 1) = aI E 2076 g_w) (o_w : WOK g_w) : CI l yX12_row cX12_row 5 .int 2 0 0 E [.ref a_0, .int a_1, .int a_2, .int a_3] L f (fun r L1 f1 => L = L1 ∧ WT T L f1 ∧ FR [104, 340] f f1 ∧ ((-3) ≤ r.toInt ∧ r.toInt ≤ 0) ∧ (¬ r.toInt = 0 ∨ (0 ≤ a_1.toInt ∧ a_1.toInt ≤ 3)) ∧ (¬ r.toInt = 0 ∨ (0 ≤ a_2.toInt ∧ a_2.toInt ≤ 3)) ∧ (¬ r.toInt = 0 ∨ (0 ≤ a_3.toInt ∧ a_3.toInt ≤ 60)) ∧ ((r.toInt = 0 ∧ (0 ≤ a_1.toInt ∧ a_1.toInt ≤ 3) ∧ (0 ≤ a_2.toInt ∧ a_2.toInt ≤ 3) ∧ 0 ≤ a_3.toInt ∧ a_3.toInt ≤ 60) ∨ (r.toInt = -2 ∧ (a_1.toInt < 0 ∨ 3 < a_1.toInt ∨ a_2.toInt < 0 ∨ 3 < a_2.toInt ∨ 60 < a_3.toInt)) ∨ (r.toInt = -3 ∧ (0 ≤ a_1.toInt ∧ a_1.toInt ≤ 3) ∧ (0 ≤ a_2.toInt ∧ a_2.toInt ≤ 3) ∧ a_3.toInt < 0)) ∧ ((¬ r.toInt = 0 ∧ f1 = f) ∨ (r.toInt = 0 ∧ RWM f f1 a_0 a_1 a_2 a_3))) := by
  refine ci_of (by decide) (Nat.le_of_ble_eq_true rfl) (fun z hz hnm hC hR => ?_)
  have hC : Cx z E cX12_row RX12 5 2 0 0 := hC
  subst hz
  show V z E 5 0 0 L f 0 [(0, .ref a_0), (1, .int a_1), (2, .int a_2), (3, .int a_3)] []
  obtain ⟨m_1, t_2, nq_21, k_3, k_4, k_5, k_6, k_7, k_8, k_9, k_10, k_11, k_12, k_13, k_14, k_15, k_16, k_17, k_18, k_19, k_20⟩ := id k_0
  obtain ⟨m_22, t_23⟩ := id k_3
  have b_24 := o_w.r0
  have b_25 := o_w.w0
  obtain ⟨v_27, v_28, v_30, v_32, v_34, v_36, v_38, v_39, v_40, v_41, v_43, e_26, b_29, b_31, b_33, b_35, b_37, b_42, b_44⟩ := hW.at m_1 t_2
  obtain ⟨m_45, t_46⟩ := id k_17
  obtain ⟨g_48, e_47, ok_49⟩ := hW.at m_45 t_46
  obtain ⟨m_50, t_51⟩ := id k_18
  obtain ⟨g_53, e_52⟩ := hW.at m_50 t_51
  refine v_iload_n hC dX12_row_0 rfl ?_
  refine v_si hC (rest := []) mt_X12_isSlot (p_X12_isSlot hW) mx_X12_isSlot ml_X12_425 (by decide) rfl (cells1 := 0) (slots1 := 0) (by decide) (by decide) (Nat.le_of_ble_eq_true rfl) (Nat.le_of_ble_eq_true rfl) rfl (Nat.le_of_ble_eq_true rfl) dX12_row_1 (fun r_54 L_55 f_56 h_57 => ?_)
  obtain ⟨rfl, rfl, b_58, h_59, x_60⟩ := h_57
  try simp only [Int32.reduceToInt, Int64.reduceToInt] at x_60
  refine v_if_eq hC dX12_row_4 (tgt := 25) (by decide) (fun h_63 => ?_) (fun h_63 => ?_)
  · simp only [Int32.lt_iff_toInt_lt, Int32.le_iff_toInt_le, Int32.reduceToInt, ← Int32.toInt_inj] at h_63
    refine v_bipush hC dX12_row_25 (v := (-2)) (by decide) ?_
    exact hR _ _ _ _ _ _ _ dX12_row_27 rfl (Nat.le_of_ble_eq_true rfl) (Nat.le_of_ble_eq_true rfl) ⟨rfl, hW, FR.rf, (by decide), (.inl (by decide)), (.inl (by decide)), (.inl (by decide)), (by first | omega | (simp only [Int32.lt_iff_toInt_lt, Int32.le_iff_toInt_le, Int32.reduceToInt, ← Int32.toInt_inj, true_and, and_true, or_true, true_or, false_or, or_false, false_and, and_false, not_true_eq_false, not_false_eq_true] <;> omega)), (.inl ⟨by decide, rfl⟩)⟩
  · simp only [Int32.lt_iff_toInt_lt, Int32.le_iff_toInt_le, Int32.reduceToInt, ← Int32.toInt_inj] at h_63
    refine v_iload_n hC dX12_row_7 rfl ?_
    obtain ⟨v_64, h_65⟩ : ∃ v9 : Int64, a_2.toInt64 = v9 := ⟨_, rfl⟩
    refine v_i2l hC dX12_row_8 h_65 ?_
    have h_66 : v_64.toInt = a_2.toInt := by rw [← h_65]; exact Int32.toInt_toInt64 _
    refine v_lconst hC dX12_row_9 (v := 0) (by decide) ?_
    refine v_ldc2 hC kl_X12_90 dX12_row_10 ?_
    refine v_si hC (rest := []) mt_X12_in (p_X12_in hW) mx_X12_in ml_X12_79 (by decide) rfl (cells1 := 0) (slots1 := 0) (by decide) (by decide) (Nat.le_of_ble_eq_true rfl) (Nat.le_of_ble_eq_true rfl) rfl (Nat.le_of_ble_eq_true rfl) dX12_row_13 (fun r_67 L_68 f_69 h_70 => ?_)
    obtain ⟨rfl, rfl, b_71, x_72⟩ := h_70
    try simp only [Int32.reduceToInt, Int64.reduceToInt] at x_72
    refine v_if_eq hC dX12_row_16 (tgt := 25) (by decide) (fun h_75 => ?_) (fun h_75 => ?_)
    · simp only [Int32.lt_iff_toInt_lt, Int32.le_iff_toInt_le, Int32.reduceToInt, ← Int32.toInt_inj] at h_75
      refine v_bipush hC dX12_row_25 (v := (-2)) (by decide) ?_
      exact hR _ _ _ _ _ _ _ dX12_row_27 rfl (Nat.le_of_ble_eq_true rfl) (Nat.le_of_ble_eq_true rfl) ⟨rfl, hW, FR.rf, (by decide), (.inl (by decide)), (.inl (by decide)), (.inl (by decide)), (by first | omega | (simp only [Int32.lt_iff_toInt_lt, Int32.le_iff_toInt_le, Int32.reduceToInt, ← Int32.toInt_inj, true_and, and_true, or_true, true_or, false_or, or_false, false_and, and_false, not_true_eq_false, not_false_eq_true] <;> omega)), (.inl ⟨by decide, rfl⟩)⟩
    · simp only [Int32.lt_iff_toInt_lt, Int32.le_iff_toInt_le, Int32.reduceToInt, ← Int32.toInt_inj] at h_75
      refine v_iload_n hC dX12_row_19 rfl ?_
      refine v_bipush hC dX12_row_20 (v := 60) (by decide) ?_
      refine v_icmp_le hC dX12_row_22 (tgt := 28) (by decide) (fun h_76 => ?_) (fun h_76 => ?_)
      · simp only [Int32.lt_iff_toInt_lt, Int32.le_iff_toInt_le, Int32.reduceToInt, ← Int32.toInt_inj] at h_76
        refine v_iload_n hC dX12_row_28 rfl ?_
        refine v_if_ge hC dX12_row_29 (tgt := 35) (by decide) (fun h_77 => ?_) (fun h_77 => ?_)
        · simp only [Int32.lt_iff_toInt_lt, Int32.le_iff_toInt_le, Int32.reduceToInt, ← Int32.toInt_inj] at h_77
          refine v_aload_n hC dX12_row_35 rfl ?_
          refine v_get hC fl_X12_64 m_1 e_26 rfl dX12_row_36 ?_
          refine v_iload_n hC dX12_row_39 rfl ?_
          refine v_iload_n hC dX12_row_40 rfl ?_
          refine v_iast hC m_45 e_47 (vp_in_iff.mpr (by first | omega | (simp only [Int32.lt_iff_toInt_lt, Int32.le_iff_toInt_le, Int32.reduceToInt, ← Int32.toInt_inj, true_and, and_true, or_true, true_or, false_or, or_false, false_and, and_false, not_true_eq_false, not_false_eq_true] <;> omega))) dX12_row_41 (fun f_78 hf_79 hk_80 => ?_)
          have hW_82 := hW.up hf_79 hk_80 t_46 ⟨_, rfl, (ok_49.up (by first | omega | (simp only [Int32.lt_iff_toInt_lt, Int32.le_iff_toInt_le, Int32.reduceToInt, ← Int32.toInt_inj, true_and, and_true, or_true, true_or, false_or, or_false, false_and, and_false, not_true_eq_false, not_false_eq_true] <;> omega)))⟩
          obtain ⟨g_81, hf_79, ok_83, eg_84⟩ : ∃ g9, f_78 (q 25) = aI E 4 g9 ∧ MOK g9 ∧ g9 = upd g_48 (a_1 : Int32).toNatClampNeg a_3 := ⟨_, hf_79, (ok_49.up (by first | omega | (simp only [Int32.lt_iff_toInt_lt, Int32.le_iff_toInt_le, Int32.reduceToInt, ← Int32.toInt_inj, true_and, and_true, or_true, true_or, false_or, or_false, false_and, and_false, not_true_eq_false, not_false_eq_true] <;> omega))), rfl⟩
          have hf_85 := (hk_80 (q 1) (ne_kd e_w e_47 rfl)).trans e_w
          have hf_86 := (hk_80 a_0 (ne_kd e_26 e_47 rfl)).trans e_26
          have fr_87 := FR.w hk_80 e_47 (k := 104) rfl
          refine v_aload_n hC dX12_row_42 rfl ?_
          refine v_get hC fl_X12_67 m_1 hf_86 rfl dX12_row_43 ?_
          refine v_iload_n hC dX12_row_46 rfl ?_
          refine v_iload_n hC dX12_row_47 rfl ?_
          obtain ⟨g_89, e_88⟩ := hW_82.at m_50 t_51
          refine v_iast hC m_50 e_88 (vp_in_iff.mpr (by first | omega | (simp only [Int32.lt_iff_toInt_lt, Int32.le_iff_toInt_le, Int32.reduceToInt, ← Int32.toInt_inj, true_and, and_true, or_true, true_or, false_or, or_false, false_and, and_false, not_true_eq_false, not_false_eq_true] <;> omega))) dX12_row_48 (fun f_90 hf_91 hk_92 => ?_)
          have hW_94 := hW_82.up hf_91 hk_92 t_51 ⟨_, rfl⟩
          obtain ⟨g_93, hf_91, ez_95⟩ : ∃ g9, f_90 (q 26) = aI E 4 g9 ∧ g9 = upd g_89 (a_1 : Int32).toNatClampNeg a_2 := ⟨_, hf_91, rfl⟩
          have hf_96 := (hk_92 (q 1) (ne_kd hf_85 e_88 rfl)).trans hf_85
          have hf_97 := (hk_92 a_0 (ne_kd hf_86 e_88 rfl)).trans hf_86
          have fr_98 := FR.w hk_92 e_88 (k := 104) rfl
          refine v_iconst hC dX12_row_49 (v := 0) (by decide) ?_
          refine v_istore hC dX12_row_50 (by decide) (lv' := [(4, .int 0), (0, .ref a_0), (1, .int a_1), (2, .int a_2), (3, .int a_3)]) rfl ?_
          have lp_241 : ∀ (n_242 : Nat) (f_234 : Nat → va_E) (hW_235 : WT T L f_234) (hF_236 : FR [340] f_90 f_234) (i_233 : Int32) (b_240 : (0 ≤ i_233.toInt ∧ i_233.toInt ≤ 60)) (hm_244 : 60 - i_233.toInt < (n_242 : Int)), V z E 5 0 0 L f_234 52 [(4, .int i_233), (0, .ref a_0), (1, .int a_1)] [] := by
            intro n_242
            induction n_242 with
            | zero =>
              intro f_234 hW_235 hF_236 i_233 b_240 hm_244
              have hf_237 := hF_236.at hf_96 rfl
              have hf_238 := hF_236.at hf_97 rfl
              have hf_239 := hF_236.at hf_91 rfl
              exfalso; omega
            | succ n_242 ih_243 =>
              intro f_234 hW_235 hF_236 i_233 b_240 hm_244
              have hf_237 := hF_236.at hf_96 rfl
              have hf_238 := hF_236.at hf_97 rfl
              have hf_239 := hF_236.at hf_91 rfl
              refine v_iload hC dX12_row_52 rfl ?_
              refine v_bipush hC dX12_row_54 (v := 60) (by decide) ?_
              refine v_icmp_ge hC dX12_row_56 (tgt := 78) (by decide) (fun h_245 => ?_) (fun h_245 => ?_)
              · simp only [Int32.lt_iff_toInt_lt, Int32.le_iff_toInt_le, Int32.reduceToInt, ← Int32.toInt_inj] at h_245
                refine v_iconst hC dX12_row_78 (v := 0) (by decide) ?_
                have e_246 := hF_236.at ((hk_92 (q 25) (ne_MI t_46 t_51)).trans hf_79) rfl
                have gg_247 := ai_inj (e_88.symm.trans ((hk_80 (q 26) (ne_MI t_46 t_51).symm).trans e_52))
                exact hR _ _ _ _ _ _ _ dX12_row_79 rfl (Nat.le_of_ble_eq_true rfl) (Nat.le_of_ble_eq_true rfl) ⟨rfl, hW_235, (((fr_87.tr fr_98).tr hF_236).mono rfl), (by decide), (.inr (by first | omega | (simp only [Int32.lt_iff_toInt_lt, Int32.le_iff_toInt_le, Int32.reduceToInt, ← Int32.toInt_inj, true_and, and_true, or_true, true_or, false_or, or_false, false_and, and_false, not_true_eq_false, not_false_eq_true] <;> omega))), (.inr (by first | omega | (simp only [Int32.lt_iff_toInt_lt, Int32.le_iff_toInt_le, Int32.reduceToInt, ← Int32.toInt_inj, true_and, and_true, or_true, true_or, false_or, or_false, false_and, and_false, not_true_eq_false, not_false_eq_true] <;> omega))), (.inr (by first | omega | (simp only [Int32.lt_iff_toInt_lt, Int32.le_iff_toInt_le, Int32.reduceToInt, ← Int32.toInt_inj, true_and, and_true, or_true, true_or, false_or, or_false, false_and, and_false, not_true_eq_false, not_false_eq_true] <;> omega))), (by first | omega | (simp only [Int32.lt_iff_toInt_lt, Int32.le_iff_toInt_le, Int32.reduceToInt, ← Int32.toInt_inj, true_and, and_true, or_true, true_or, false_or, or_false, false_and, and_false, not_true_eq_false, not_false_eq_true] <;> omega)), (.inr ⟨by decide, rwm_of (by omega) (zmn_eq f a_0 (by rw [e_26]; rfl) e_47) (zwd_eq f a_0 (by rw [e_26]; rfl) e_52) (zmn_eq f_234 a_0 (by rw [hf_238]; rfl) e_246) (zwd_eq f_234 a_0 (by rw [hf_238]; rfl) hf_239) eg_84 (ez_95.trans (by rw [gg_247]))⟩)⟩
              · simp only [Int32.lt_iff_toInt_lt, Int32.le_iff_toInt_le, Int32.reduceToInt, ← Int32.toInt_inj] at h_245
                refine v_aload_n hC dX12_row_59 rfl ?_
                refine v_get hC fl_X12_70 m_1 hf_238 rfl dX12_row_60 ?_
                refine v_bipush hC dX12_row_63 (v := 60) (by decide) ?_
                refine v_iload_n hC dX12_row_65 rfl ?_
                obtain ⟨v_248, h_249⟩ : ∃ v9 : Int32, (60 : Int32) * a_1 = v9 := ⟨_, rfl⟩
                refine v_imul hC dX12_row_66 h_249 ?_
                have h_250 := mul_v 60 3 180 h_249 (by decide) (by first | omega | (simp only [Int32.lt_iff_toInt_lt, Int32.le_iff_toInt_le, Int32.reduceToInt, ← Int32.toInt_inj, true_and, and_true, or_true, true_or, false_or, or_false, false_and, and_false, not_true_eq_false, not_false_eq_true] <;> omega)) (by decide) (by decide)
                try simp only [Int32.reduceToInt] at h_250
                refine v_iload hC dX12_row_67 rfl ?_
                obtain ⟨v_251, h_252⟩ : ∃ v9 : Int32, v_248 + i_233 = v9 := ⟨_, rfl⟩
                refine v_iadd hC dX12_row_69 h_252 ?_
                have h_253 := add_v h_252 (by first | omega | (simp only [Int32.lt_iff_toInt_lt, Int32.le_iff_toInt_le, Int32.reduceToInt, ← Int32.toInt_inj, true_and, and_true, or_true, true_or, false_or, or_false, false_and, and_false, not_true_eq_false, not_false_eq_true] <;> omega)) (by first | omega | (simp only [Int32.lt_iff_toInt_lt, Int32.le_iff_toInt_le, Int32.reduceToInt, ← Int32.toInt_inj, true_and, and_true, or_true, true_or, false_or, or_false, false_and, and_false, not_true_eq_false, not_false_eq_true] <;> omega))
                refine v_lconst hC dX12_row_70 (v := 0) (by decide) ?_
                obtain ⟨m_254, t_255⟩ := id k_19
                obtain ⟨g_257, e_256⟩ := hW_235.at m_254 t_255
                refine v_last hC m_254 e_256 (vp_in_iff.mpr (by first | omega | (simp only [Int32.lt_iff_toInt_lt, Int32.le_iff_toInt_le, Int32.reduceToInt, ← Int32.toInt_inj, true_and, and_true, or_true, true_or, false_or, or_false, false_and, and_false, not_true_eq_false, not_false_eq_true] <;> omega))) dX12_row_71 (fun f_258 hf_259 hk_260 => ?_)
                have hW_262 := hW_235.up hf_259 hk_260 t_255 ⟨_, rfl⟩
                obtain ⟨g_261, hf_259⟩ : ∃ g9, f_258 (q 27) = aJ E 240 g9 := ⟨_, hf_259⟩
                have hf_263 := (hk_260 (q 1) (ne_kd hf_237 e_256 rfl)).trans hf_237
                have hf_264 := (hk_260 a_0 (ne_kd hf_238 e_256 rfl)).trans hf_238
                have hf_265 := (hk_260 (q 26) (ne_kd hf_239 e_256 rfl)).trans hf_239
                have fr_266 := FR.w hk_260 e_256 (k := 340) rfl
                obtain ⟨v_267, h_268⟩ : ∃ v9 : Int32, i_233 + Int32.ofInt 1 = v9 := ⟨_, rfl⟩
                have h_269 := add_v (b := 1) h_268 (by first | omega | (simp only [Int32.lt_iff_toInt_lt, Int32.le_iff_toInt_le, Int32.reduceToInt, ← Int32.toInt_inj, true_and, and_true, or_true, true_or, false_or, or_false, false_and, and_false, not_true_eq_false, not_false_eq_true] <;> omega)) (by first | omega | (simp only [Int32.lt_iff_toInt_lt, Int32.le_iff_toInt_le, Int32.reduceToInt, ← Int32.toInt_inj, true_and, and_true, or_true, true_or, false_or, or_false, false_and, and_false, not_true_eq_false, not_false_eq_true] <;> omega))
                simp only [Int32.reduceToInt] at h_269
                refine v_iinc hC dX12_row_72 (k := 0) rfl (v := v_267) h_268 (by decide) (lv' := [(4, .int v_267), (0, .ref a_0), (1, .int a_1)]) rfl ?_
                refine v_goto hC dX12_row_75 (tgt := 52) (by decide) ?_
                refine v_pick [0, 1, 2] rfl ?_
                exact ih_243 f_258 hW_262 ((hF_236.tr fr_266).mono rfl) v_267 (by first | omega | (simp only [Int32.lt_iff_toInt_lt, Int32.le_iff_toInt_le, Int32.reduceToInt, ← Int32.toInt_inj, true_and, and_true, or_true, true_or, false_or, or_false, false_and, and_false, not_true_eq_false, not_false_eq_true] <;> omega)) (by first | omega | (simp only [Int32.lt_iff_toInt_lt, Int32.le_iff_toInt_le, Int32.reduceToInt, ← Int32.toInt_inj, true_and, and_true, or_true, true_or, false_or, or_false, false_and, and_false, not_true_eq_false, not_false_eq_true] <;> omega))
          refine v_pick [0, 1, 2] rfl ?_
          exact lp_241 62 f_90 hW_94 FR.rf 0 (by decide) (by decide)
        · simp only [Int32.lt_iff_toInt_lt, Int32.le_iff_toInt_le, Int32.reduceToInt, ← Int32.toInt_inj] at h_77
          refine v_bipush hC dX12_row_32 (v := (-3)) (by decide) ?_
          exact hR _ _ _ _ _ _ _ dX12_row_34 rfl (Nat.le_of_ble_eq_true rfl) (Nat.le_of_ble_eq_true rfl) ⟨rfl, hW, FR.rf, (by decide), (.inl (by decide)), (.inl (by decide)), (.inl (by decide)), (by first | omega | (simp only [Int32.lt_iff_toInt_lt, Int32.le_iff_toInt_le, Int32.reduceToInt, ← Int32.toInt_inj, true_and, and_true, or_true, true_or, false_or, or_false, false_and, and_false, not_true_eq_false, not_false_eq_true] <;> omega)), (.inl ⟨by decide, rfl⟩)⟩
      · simp only [Int32.lt_iff_toInt_lt, Int32.le_iff_toInt_le, Int32.reduceToInt, ← Int32.toInt_inj] at h_76
        refine v_bipush hC dX12_row_25 (v := (-2)) (by decide) ?_
        exact hR _ _ _ _ _ _ _ dX12_row_27 rfl (Nat.le_of_ble_eq_true rfl) (Nat.le_of_ble_eq_true rfl) ⟨rfl, hW, FR.rf, (by decide), (.inl (by decide)), (.inl (by decide)), (.inl (by decide)), (by first | omega | (simp only [Int32.lt_iff_toInt_lt, Int32.le_iff_toInt_le, Int32.reduceToInt, ← Int32.toInt_inj, true_and, and_true, or_true, true_or, false_or, or_false, false_and, and_false, not_true_eq_false, not_false_eq_true] <;> omega)), (.inl ⟨by decide, rfl⟩)⟩
set_option maxRecDepth 100000 in
set_option maxHeartbeats 8000000 in
theorem p_X12_cut {l : Launch} {E : Ez} {L : List Nat} {f : Nat → va_E} {T : Nat → va_E → Prop} {a_0 : Int64} {a_1 : Int32} (hW : WT T L f) : CJ l yX12_cut cX12_cut 4 0 0 0 E [.long a_0, .int a_1] L f (fun r L1 f1 => L = L1 ∧ f = f1) := by
  refine cj_of (by decide) (Nat.le_of_ble_eq_true rfl) (fun z hz hnm hC hR => ?_)
  have hC : Cx z E cX12_cut RX12 4 0 0 0 := hC
  subst hz
  show V z E 4 0 0 L f 0 [(0, .long a_0), (2, .int a_1)] []
  refine v_bipush hC dX12_cut_0 (v := 64) (by decide) ?_
  refine v_bipush hC dX12_cut_2 (v := 8) (by decide) ?_
  refine v_iload_n hC dX12_cut_4 rfl ?_
  obtain ⟨v_1, h_2⟩ : ∃ v9 : Int32, (8 : Int32) <<< (a_1 &&& 31) = v9 := ⟨_, rfl⟩
  refine v_ishl hC dX12_cut_5 h_2 ?_
  obtain ⟨v_4, h_5⟩ : ∃ v9 : Int32, (64 : Int32) - v_1 = v9 := ⟨_, rfl⟩
  refine v_isub hC dX12_cut_6 h_5 ?_
  refine v_istore_n hC dX12_cut_7 (by decide) (lv' := [(3, .int v_4), (0, .long a_0), (2, .int a_1)]) rfl ?_
  refine v_lload_n hC dX12_cut_8 rfl ?_
  refine v_iload_n hC dX12_cut_9 rfl ?_
  obtain ⟨v_7, h_8⟩ : ∃ v9 : Int64, (a_0 : Int64) <<< ((v_4 : Int32).toInt64 &&& 63) = v9 := ⟨_, rfl⟩
  refine v_lshl hC dX12_cut_10 h_8 ?_
  refine v_iload_n hC dX12_cut_11 rfl ?_
  obtain ⟨v_9, h_10⟩ : ∃ v9 : Int64, (v_7 : Int64) >>> ((v_4 : Int32).toInt64 &&& 63) = v9 := ⟨_, rfl⟩
  refine v_lshr hC dX12_cut_12 h_10 ?_
  exact hR _ _ _ _ _ _ _ dX12_cut_13 (Nat.le_of_ble_eq_true rfl) (Nat.le_of_ble_eq_true rfl) ⟨rfl, rfl⟩
set_option maxRecDepth 100000 in
set_option maxHeartbeats 8000000 in
theorem p_X12_write {l : Launch} {E : Ez} {L : List Nat} {f : Nat → va_E} {T : Nat → va_E → Prop} {a_0 : Nat} {a_1 : Int32} {a_2 : Int32} {a_3 : Int64} {q : Nat → Nat} {g_w : Nat → Int32} (hW : WT T L f) (k_0 : isM T L E a_0 q) (e_w : f (q 1) = aI E 2076 g_w) (o_w : WOK g_w) : CI l yX12_write cX12_write 5 .int 2 0 0 E [.ref a_0, .int a_1, .int a_2, .long a_3] L f (fun r L1 f1 => L = L1 ∧ WT T L f1 ∧ FR [340] f f1 ∧ ((-7) ≤ r.toInt ∧ r.toInt ≤ 0) ∧ (¬ r.toInt = 0 ∨ (0 ≤ a_1.toInt ∧ a_1.toInt ≤ 3)) ∧ (¬ r.toInt = 0 ∨ (0 ≤ a_2.toInt ∧ a_2.toInt ≤ 59))) := by
  refine ci_of (by decide) (Nat.le_of_ble_eq_true rfl) (fun z hz hnm hC hR => ?_)
  have hC : Cx z E cX12_write RX12 5 2 0 0 := hC
  subst hz
  show V z E 5 0 0 L f 0 [(0, .ref a_0), (1, .int a_1), (2, .int a_2), (3, .long a_3)] []
  obtain ⟨m_1, t_2, nq_21, k_3, k_4, k_5, k_6, k_7, k_8, k_9, k_10, k_11, k_12, k_13, k_14, k_15, k_16, k_17, k_18, k_19, k_20⟩ := id k_0
  obtain ⟨m_22, t_23⟩ := id k_3
  have b_24 := o_w.r0
  have b_25 := o_w.w0
  refine v_iload_n hC dX12_write_0 rfl ?_
  refine v_si hC (rest := []) mt_X12_isSlot (p_X12_isSlot hW) mx_X12_isSlot ml_X12_425 (by decide) rfl (cells1 := 0) (slots1 := 0) (by decide) (by decide) (Nat.le_of_ble_eq_true rfl) (Nat.le_of_ble_eq_true rfl) rfl (Nat.le_of_ble_eq_true rfl) dX12_write_1 (fun r_26 L_27 f_28 h_29 => ?_)
  obtain ⟨rfl, rfl, b_30, h_31, x_32⟩ := h_29
  try simp only [Int32.reduceToInt, Int64.reduceToInt] at x_32
  refine v_if_ne hC dX12_write_4 (tgt := 10) (by decide) (fun h_35 => ?_) (fun h_35 => ?_)
  · simp only [Int32.lt_iff_toInt_lt, Int32.le_iff_toInt_le, Int32.reduceToInt, ← Int32.toInt_inj] at h_35
    refine v_aload_n hC dX12_write_10 rfl ?_
    obtain ⟨v_37, v_38, v_40, v_42, v_44, v_46, v_48, v_49, v_50, v_51, v_53, e_36, b_39, b_41, b_43, b_45, b_47, b_52, b_54⟩ := hW.at m_1 t_2
    refine v_get hC fl_X12_64 m_1 e_36 rfl dX12_write_11 ?_
    refine v_iload_n hC dX12_write_14 rfl ?_
    obtain ⟨m_55, t_56⟩ := id k_17
    obtain ⟨g_58, e_57, ok_59⟩ := hW.at m_55 t_56
    obtain ⟨v_60, h_61⟩ : ∃ v9 : Int32, g_58 (a_1 : Int32).toNatClampNeg = v9 := ⟨_, rfl⟩
    have b_62 := ok_59 (a_1 : Int32).toNatClampNeg (clamp_lt (vp_in_iff.mpr (by first | omega | (simp only [Int32.lt_iff_toInt_lt, Int32.le_iff_toInt_le, Int32.reduceToInt, ← Int32.toInt_inj, true_and, and_true, or_true, true_or, false_or, or_false, false_and, and_false, not_true_eq_false, not_false_eq_true] <;> omega))))
    rw [h_61] at b_62
    refine v_iald hC m_55 e_57 (vp_in_iff.mpr (by first | omega | (simp only [Int32.lt_iff_toInt_lt, Int32.le_iff_toInt_le, Int32.reduceToInt, ← Int32.toInt_inj, true_and, and_true, or_true, true_or, false_or, or_false, false_and, and_false, not_true_eq_false, not_false_eq_true] <;> omega))) h_61 dX12_write_15 ?_
    refine v_iconst hC dX12_write_16 (v := (-1)) (by decide) ?_
    refine v_icmp_ne hC dX12_write_17 (tgt := 23) (by decide) (fun h_63 => ?_) (fun h_63 => ?_)
    · simp only [Int32.lt_iff_toInt_lt, Int32.le_iff_toInt_le, Int32.reduceToInt, ← Int32.toInt_inj] at h_63
      refine v_iload_n hC dX12_write_23 rfl ?_
      obtain ⟨v_64, h_65⟩ : ∃ v9 : Int64, a_2.toInt64 = v9 := ⟨_, rfl⟩
      refine v_i2l hC dX12_write_24 h_65 ?_
      have h_66 : v_64.toInt = a_2.toInt := by rw [← h_65]; exact Int32.toInt_toInt64 _
      refine v_lconst hC dX12_write_25 (v := 0) (by decide) ?_
      refine v_aload_n hC dX12_write_26 rfl ?_
      refine v_get hC fl_X12_64 m_1 e_36 rfl dX12_write_27 ?_
      refine v_iload_n hC dX12_write_30 rfl ?_
      obtain ⟨v_67, h_68⟩ : ∃ v9 : Int32, g_58 (a_1 : Int32).toNatClampNeg = v9 := ⟨_, rfl⟩
      have b_69 := ok_59 (a_1 : Int32).toNatClampNeg (clamp_lt (vp_in_iff.mpr (by first | omega | (simp only [Int32.lt_iff_toInt_lt, Int32.le_iff_toInt_le, Int32.reduceToInt, ← Int32.toInt_inj, true_and, and_true, or_true, true_or, false_or, or_false, false_and, and_false, not_true_eq_false, not_false_eq_true] <;> omega))))
      rw [h_68] at b_69
      refine v_iald hC m_55 e_57 (vp_in_iff.mpr (by first | omega | (simp only [Int32.lt_iff_toInt_lt, Int32.le_iff_toInt_le, Int32.reduceToInt, ← Int32.toInt_inj, true_and, and_true, or_true, true_or, false_or, or_false, false_and, and_false, not_true_eq_false, not_false_eq_true] <;> omega))) h_68 dX12_write_31 ?_
      refine v_iconst hC dX12_write_32 (v := 1) (by decide) ?_
      obtain ⟨v_70, h_71⟩ : ∃ v9 : Int32, v_67 - 1 = v9 := ⟨_, rfl⟩
      refine v_isub hC dX12_write_33 h_71 ?_
      have h_72 := sub_v h_71 (by first | omega | (simp only [Int32.lt_iff_toInt_lt, Int32.le_iff_toInt_le, Int32.reduceToInt, ← Int32.toInt_inj, true_and, and_true, or_true, true_or, false_or, or_false, false_and, and_false, not_true_eq_false, not_false_eq_true] <;> omega)) (by first | omega | (simp only [Int32.lt_iff_toInt_lt, Int32.le_iff_toInt_le, Int32.reduceToInt, ← Int32.toInt_inj, true_and, and_true, or_true, true_or, false_or, or_false, false_and, and_false, not_true_eq_false, not_false_eq_true] <;> omega))
      try simp only [Int32.reduceToInt] at h_72
      obtain ⟨v_73, h_74⟩ : ∃ v9 : Int64, v_70.toInt64 = v9 := ⟨_, rfl⟩
      refine v_i2l hC dX12_write_34 h_74 ?_
      have h_75 : v_73.toInt = v_70.toInt := by rw [← h_74]; exact Int32.toInt_toInt64 _
      refine v_si hC (rest := []) mt_X12_in (p_X12_in hW) mx_X12_in ml_X12_79 (by decide) rfl (cells1 := 0) (slots1 := 0) (by decide) (by decide) (Nat.le_of_ble_eq_true rfl) (Nat.le_of_ble_eq_true rfl) rfl (Nat.le_of_ble_eq_true rfl) dX12_write_35 (fun r_76 L_77 f_78 h_79 => ?_)
      obtain ⟨rfl, rfl, b_80, x_81⟩ := h_79
      try simp only [Int32.reduceToInt, Int64.reduceToInt] at x_81
      refine v_if_ne hC dX12_write_38 (tgt := 44) (by decide) (fun h_84 => ?_) (fun h_84 => ?_)
      · simp only [Int32.lt_iff_toInt_lt, Int32.le_iff_toInt_le, Int32.reduceToInt, ← Int32.toInt_inj] at h_84
        refine v_aload_n hC dX12_write_44 rfl ?_
        refine v_get hC fl_X12_70 m_1 e_36 rfl dX12_write_45 ?_
        refine v_bipush hC dX12_write_48 (v := 60) (by decide) ?_
        refine v_iload_n hC dX12_write_50 rfl ?_
        obtain ⟨v_85, h_86⟩ : ∃ v9 : Int32, (60 : Int32) * a_1 = v9 := ⟨_, rfl⟩
        refine v_imul hC dX12_write_51 h_86 ?_
        have h_87 := mul_v 60 3 180 h_86 (by decide) (by first | omega | (simp only [Int32.lt_iff_toInt_lt, Int32.le_iff_toInt_le, Int32.reduceToInt, ← Int32.toInt_inj, true_and, and_true, or_true, true_or, false_or, or_false, false_and, and_false, not_true_eq_false, not_false_eq_true] <;> omega)) (by decide) (by decide)
        try simp only [Int32.reduceToInt] at h_87
        refine v_iload_n hC dX12_write_52 rfl ?_
        obtain ⟨v_88, h_89⟩ : ∃ v9 : Int32, v_85 + a_2 = v9 := ⟨_, rfl⟩
        refine v_iadd hC dX12_write_53 h_89 ?_
        have h_90 := add_v h_89 (by first | omega | (simp only [Int32.lt_iff_toInt_lt, Int32.le_iff_toInt_le, Int32.reduceToInt, ← Int32.toInt_inj, true_and, and_true, or_true, true_or, false_or, or_false, false_and, and_false, not_true_eq_false, not_false_eq_true] <;> omega)) (by first | omega | (simp only [Int32.lt_iff_toInt_lt, Int32.le_iff_toInt_le, Int32.reduceToInt, ← Int32.toInt_inj, true_and, and_true, or_true, true_or, false_or, or_false, false_and, and_false, not_true_eq_false, not_false_eq_true] <;> omega))
        refine v_lload_n hC dX12_write_54 rfl ?_
        refine v_aload_n hC dX12_write_55 rfl ?_
        refine v_get hC fl_X12_67 m_1 e_36 rfl dX12_write_56 ?_
        refine v_iload_n hC dX12_write_59 rfl ?_
        obtain ⟨m_91, t_92⟩ := id k_18
        obtain ⟨g_94, e_93⟩ := hW.at m_91 t_92
        obtain ⟨v_95, h_96⟩ : ∃ v9 : Int32, g_94 (a_1 : Int32).toNatClampNeg = v9 := ⟨_, rfl⟩
        refine v_iald hC m_91 e_93 (vp_in_iff.mpr (by first | omega | (simp only [Int32.lt_iff_toInt_lt, Int32.le_iff_toInt_le, Int32.reduceToInt, ← Int32.toInt_inj, true_and, and_true, or_true, true_or, false_or, or_false, false_and, and_false, not_true_eq_false, not_false_eq_true] <;> omega))) h_96 dX12_write_60 ?_
        refine v_sj hC (rest := [.int v_88, .ref (q 27)]) mt_X12_cut (p_X12_cut hW) mx_X12_cut ml_X12_428 (by decide) rfl (cells1 := 0) (slots1 := 0) (by decide) (by decide) (Nat.le_of_ble_eq_true rfl) (Nat.le_of_ble_eq_true rfl) rfl (Nat.le_of_ble_eq_true rfl) dX12_write_61 (fun r_97 L_98 f_99 h_100 => ?_)
        obtain ⟨rfl, rfl⟩ := h_100
        obtain ⟨m_103, t_104⟩ := id k_19
        obtain ⟨g_106, e_105⟩ := hW.at m_103 t_104
        refine v_last hC m_103 e_105 (vp_in_iff.mpr (by first | omega | (simp only [Int32.lt_iff_toInt_lt, Int32.le_iff_toInt_le, Int32.reduceToInt, ← Int32.toInt_inj, true_and, and_true, or_true, true_or, false_or, or_false, false_and, and_false, not_true_eq_false, not_false_eq_true] <;> omega))) dX12_write_64 (fun f_107 hf_108 hk_109 => ?_)
        have hW_111 := hW.up hf_108 hk_109 t_104 ⟨_, rfl⟩
        obtain ⟨g_110, hf_108⟩ : ∃ g9, f_107 (q 27) = aJ E 240 g9 := ⟨_, hf_108⟩
        have hf_112 := (hk_109 (q 1) (ne_kd e_w e_105 rfl)).trans e_w
        have hf_113 := (hk_109 a_0 (ne_kd e_36 e_105 rfl)).trans e_36
        have hf_114 := (hk_109 (q 25) (ne_kd e_57 e_105 rfl)).trans e_57
        have hf_115 := (hk_109 (q 26) (ne_kd e_93 e_105 rfl)).trans e_93
        have fr_116 := FR.w hk_109 e_105 (k := 340) rfl
        refine v_iconst hC dX12_write_65 (v := 0) (by decide) ?_
        exact hR _ _ _ _ _ _ _ dX12_write_66 rfl (Nat.le_of_ble_eq_true rfl) (Nat.le_of_ble_eq_true rfl) ⟨rfl, hW_111, (fr_116.mono rfl), (by decide), (.inr (by first | omega | (simp only [Int32.lt_iff_toInt_lt, Int32.le_iff_toInt_le, Int32.reduceToInt, ← Int32.toInt_inj, true_and, and_true, or_true, true_or, false_or, or_false, false_and, and_false, not_true_eq_false, not_false_eq_true] <;> omega))), (.inr (by first | omega | (simp only [Int32.lt_iff_toInt_lt, Int32.le_iff_toInt_le, Int32.reduceToInt, ← Int32.toInt_inj, true_and, and_true, or_true, true_or, false_or, or_false, false_and, and_false, not_true_eq_false, not_false_eq_true] <;> omega)))⟩
      · simp only [Int32.lt_iff_toInt_lt, Int32.le_iff_toInt_le, Int32.reduceToInt, ← Int32.toInt_inj] at h_84
        refine v_bipush hC dX12_write_41 (v := (-7)) (by decide) ?_
        exact hR _ _ _ _ _ _ _ dX12_write_43 rfl (Nat.le_of_ble_eq_true rfl) (Nat.le_of_ble_eq_true rfl) ⟨rfl, hW, FR.rf, (by decide), (.inl (by decide)), (.inl (by decide))⟩
    · simp only [Int32.lt_iff_toInt_lt, Int32.le_iff_toInt_le, Int32.reduceToInt, ← Int32.toInt_inj] at h_63
      refine v_bipush hC dX12_write_20 (v := (-6)) (by decide) ?_
      exact hR _ _ _ _ _ _ _ dX12_write_22 rfl (Nat.le_of_ble_eq_true rfl) (Nat.le_of_ble_eq_true rfl) ⟨rfl, hW, FR.rf, (by decide), (.inl (by decide)), (.inl (by decide))⟩
  · simp only [Int32.lt_iff_toInt_lt, Int32.le_iff_toInt_le, Int32.reduceToInt, ← Int32.toInt_inj] at h_35
    refine v_bipush hC dX12_write_7 (v := (-2)) (by decide) ?_
    exact hR _ _ _ _ _ _ _ dX12_write_9 rfl (Nat.le_of_ble_eq_true rfl) (Nat.le_of_ble_eq_true rfl) ⟨rfl, hW, FR.rf, (by decide), (.inl (by decide)), (.inl (by decide))⟩
set_option maxRecDepth 100000 in
set_option maxHeartbeats 8000000 in
theorem p_X12_paste {l : Launch} {E : Ez} {L : List Nat} {f : Nat → va_E} {T : Nat → va_E → Prop} {a_0 : Nat} {a_1 : Int32} {a_2 : Int32} {a_3 : Int32} {a_4 : Int32} {a_5 : Int32} {q : Nat → Nat} {g_w : Nat → Int32} (hW : WT T L f) (k_0 : isM T L E a_0 q) (e_w : f (q 1) = aI E 2076 g_w) (o_w : WOK g_w) : CI l yX12_paste cX12_paste 7 .int 2 0 0 E [.ref a_0, .int a_1, .int a_2, .int a_3, .int a_4, .int a_5] L f (fun r L1 f1 => L = L1 ∧ WT T L f1 ∧ FR [160, 340] f f1 ∧ ((-8) ≤ r.toInt ∧ r.toInt ≤ 0) ∧ (¬ r.toInt = 0 ∨ (0 ≤ a_1.toInt ∧ a_1.toInt ≤ 3)) ∧ (¬ r.toInt = 0 ∨ (0 ≤ a_2.toInt ∧ a_2.toInt ≤ 60)) ∧ (¬ r.toInt = 0 ∨ (0 ≤ a_3.toInt ∧ a_3.toInt ≤ 3)) ∧ (¬ r.toInt = 0 ∨ (0 ≤ a_4.toInt ∧ a_4.toInt ≤ 60)) ∧ (¬ r.toInt = 0 ∨ (0 ≤ a_5.toInt ∧ a_5.toInt ≤ 60)) ∧ ((r.toInt = -2 ∧ (a_1.toInt < 0 ∨ 3 < a_1.toInt ∨ a_3.toInt < 0 ∨ 3 < a_3.toInt)) ∨ ((0 ≤ a_1.toInt ∧ a_1.toInt ≤ 3 ∧ 0 ≤ a_3.toInt ∧ a_3.toInt ≤ 3) ∧ ((r.toInt = -6 ∧ (zmn f a_0 a_1.toNatClampNeg = -1 ∨ zmn f a_0 a_3.toNatClampNeg = -1)) ∨ ((¬ zmn f a_0 a_1.toNatClampNeg = -1 ∧ ¬ zmn f a_0 a_3.toNatClampNeg = -1) ∧ ((r.toInt = -8 ∧ ¬ zwd f a_0 a_1.toNatClampNeg = zwd f a_0 a_3.toNatClampNeg) ∨ (zwd f a_0 a_1.toNatClampNeg = zwd f a_0 a_3.toNatClampNeg ∧ ((r.toInt = -7 ∧ (a_2.toInt < 0 ∨ a_4.toInt < 0 ∨ a_5.toInt < 0 ∨ zmn f a_0 a_1.toNatClampNeg < a_2.toInt + a_5.toInt ∨ zmn f a_0 a_3.toNatClampNeg < a_4.toInt + a_5.toInt)) ∨ (r.toInt = 0 ∧ 0 ≤ a_2.toInt ∧ 0 ≤ a_4.toInt ∧ 0 ≤ a_5.toInt ∧ a_2.toInt + a_5.toInt ≤ zmn f a_0 a_1.toNatClampNeg ∧ a_4.toInt + a_5.toInt ≤ zmn f a_0 a_3.toNatClampNeg))))))))) := by
  refine ci_of (by decide) (Nat.le_of_ble_eq_true rfl) (fun z hz hnm hC hR => ?_)
  have hC : Cx z E cX12_paste RX12 7 2 0 0 := hC
  subst hz
  show V z E 7 0 0 L f 0 [(0, .ref a_0), (1, .int a_1), (2, .int a_2), (3, .int a_3), (4, .int a_4), (5, .int a_5)] []
  obtain ⟨m_1, t_2, nq_21, k_3, k_4, k_5, k_6, k_7, k_8, k_9, k_10, k_11, k_12, k_13, k_14, k_15, k_16, k_17, k_18, k_19, k_20⟩ := id k_0
  obtain ⟨m_22, t_23⟩ := id k_3
  have b_24 := o_w.r0
  have b_25 := o_w.w0
  refine v_iload_n hC dX12_paste_0 rfl ?_
  refine v_si hC (rest := []) mt_X12_isSlot (p_X12_isSlot hW) mx_X12_isSlot ml_X12_425 (by decide) rfl (cells1 := 0) (slots1 := 0) (by decide) (by decide) (Nat.le_of_ble_eq_true rfl) (Nat.le_of_ble_eq_true rfl) rfl (Nat.le_of_ble_eq_true rfl) dX12_paste_1 (fun r_26 L_27 f_28 h_29 => ?_)
  obtain ⟨rfl, rfl, b_30, h_31, x_32⟩ := h_29
  try simp only [Int32.reduceToInt, Int64.reduceToInt] at x_32
  refine v_if_eq hC dX12_paste_4 (tgt := 14) (by decide) (fun h_35 => ?_) (fun h_35 => ?_)
  · simp only [Int32.lt_iff_toInt_lt, Int32.le_iff_toInt_le, Int32.reduceToInt, ← Int32.toInt_inj] at h_35
    refine v_bipush hC dX12_paste_14 (v := (-2)) (by decide) ?_
    exact hR _ _ _ _ _ _ _ dX12_paste_16 rfl (Nat.le_of_ble_eq_true rfl) (Nat.le_of_ble_eq_true rfl) ⟨rfl, hW, FR.rf, (by decide), (.inl (by decide)), (.inl (by decide)), (.inl (by decide)), (.inl (by decide)), (.inl (by decide)), (by first | omega | (simp only [Int32.lt_iff_toInt_lt, Int32.le_iff_toInt_le, Int32.reduceToInt, ← Int32.toInt_inj, true_and, and_true, or_true, true_or, false_or, or_false, false_and, and_false, not_true_eq_false, not_false_eq_true] <;> omega))⟩
  · simp only [Int32.lt_iff_toInt_lt, Int32.le_iff_toInt_le, Int32.reduceToInt, ← Int32.toInt_inj] at h_35
    refine v_iload_n hC dX12_paste_7 rfl ?_
    refine v_si hC (rest := []) mt_X12_isSlot (p_X12_isSlot hW) mx_X12_isSlot ml_X12_425 (by decide) rfl (cells1 := 0) (slots1 := 0) (by decide) (by decide) (Nat.le_of_ble_eq_true rfl) (Nat.le_of_ble_eq_true rfl) rfl (Nat.le_of_ble_eq_true rfl) dX12_paste_8 (fun r_36 L_37 f_38 h_39 => ?_)
    obtain ⟨rfl, rfl, b_40, h_41, x_42⟩ := h_39
    try simp only [Int32.reduceToInt, Int64.reduceToInt] at x_42
    refine v_if_ne hC dX12_paste_11 (tgt := 17) (by decide) (fun h_45 => ?_) (fun h_45 => ?_)
    · simp only [Int32.lt_iff_toInt_lt, Int32.le_iff_toInt_le, Int32.reduceToInt, ← Int32.toInt_inj] at h_45
      refine v_aload_n hC dX12_paste_17 rfl ?_
      obtain ⟨v_47, v_48, v_50, v_52, v_54, v_56, v_58, v_59, v_60, v_61, v_63, e_46, b_49, b_51, b_53, b_55, b_57, b_62, b_64⟩ := hW.at m_1 t_2
      refine v_get hC fl_X12_64 m_1 e_46 rfl dX12_paste_18 ?_
      refine v_iload_n hC dX12_paste_21 rfl ?_
      obtain ⟨m_65, t_66⟩ := id k_17
      obtain ⟨g_68, e_67, ok_69⟩ := hW.at m_65 t_66
      obtain ⟨v_70, h_71⟩ : ∃ v9 : Int32, g_68 (a_1 : Int32).toNatClampNeg = v9 := ⟨_, rfl⟩
      have b_72 := ok_69 (a_1 : Int32).toNatClampNeg (clamp_lt (vp_in_iff.mpr (by first | omega | (simp only [Int32.lt_iff_toInt_lt, Int32.le_iff_toInt_le, Int32.reduceToInt, ← Int32.toInt_inj, true_and, and_true, or_true, true_or, false_or, or_false, false_and, and_false, not_true_eq_false, not_false_eq_true] <;> omega))))
      rw [h_71] at b_72
      refine v_iald hC m_65 e_67 (vp_in_iff.mpr (by first | omega | (simp only [Int32.lt_iff_toInt_lt, Int32.le_iff_toInt_le, Int32.reduceToInt, ← Int32.toInt_inj, true_and, and_true, or_true, true_or, false_or, or_false, false_and, and_false, not_true_eq_false, not_false_eq_true] <;> omega))) h_71 dX12_paste_22 ?_
      have zf_73 : zmn f a_0 (a_1 : Int32).toNatClampNeg = v_70.toInt := by rw [zmn_eq f a_0 (by rw [e_46]; rfl) e_67, h_71]
      refine v_iconst hC dX12_paste_23 (v := (-1)) (by decide) ?_
      refine v_icmp_eq hC dX12_paste_24 (tgt := 37) (by decide) (fun h_74 => ?_) (fun h_74 => ?_)
      · simp only [Int32.lt_iff_toInt_lt, Int32.le_iff_toInt_le, Int32.reduceToInt, ← Int32.toInt_inj] at h_74
        refine v_bipush hC dX12_paste_37 (v := (-6)) (by decide) ?_
        exact hR _ _ _ _ _ _ _ dX12_paste_39 rfl (Nat.le_of_ble_eq_true rfl) (Nat.le_of_ble_eq_true rfl) ⟨rfl, hW, FR.rf, (by decide), (.inl (by decide)), (.inl (by decide)), (.inl (by decide)), (.inl (by decide)), (.inl (by decide)), (by first | omega | (simp only [Int32.lt_iff_toInt_lt, Int32.le_iff_toInt_le, Int32.reduceToInt, ← Int32.toInt_inj, true_and, and_true, or_true, true_or, false_or, or_false, false_and, and_false, not_true_eq_false, not_false_eq_true] <;> omega))⟩
      · simp only [Int32.lt_iff_toInt_lt, Int32.le_iff_toInt_le, Int32.reduceToInt, ← Int32.toInt_inj] at h_74
        refine v_aload_n hC dX12_paste_27 rfl ?_
        refine v_get hC fl_X12_64 m_1 e_46 rfl dX12_paste_28 ?_
        refine v_iload_n hC dX12_paste_31 rfl ?_
        obtain ⟨v_75, h_76⟩ : ∃ v9 : Int32, g_68 (a_3 : Int32).toNatClampNeg = v9 := ⟨_, rfl⟩
        have b_77 := ok_69 (a_3 : Int32).toNatClampNeg (clamp_lt (vp_in_iff.mpr (by first | omega | (simp only [Int32.lt_iff_toInt_lt, Int32.le_iff_toInt_le, Int32.reduceToInt, ← Int32.toInt_inj, true_and, and_true, or_true, true_or, false_or, or_false, false_and, and_false, not_true_eq_false, not_false_eq_true] <;> omega))))
        rw [h_76] at b_77
        refine v_iald hC m_65 e_67 (vp_in_iff.mpr (by first | omega | (simp only [Int32.lt_iff_toInt_lt, Int32.le_iff_toInt_le, Int32.reduceToInt, ← Int32.toInt_inj, true_and, and_true, or_true, true_or, false_or, or_false, false_and, and_false, not_true_eq_false, not_false_eq_true] <;> omega))) h_76 dX12_paste_32 ?_
        have zf_78 : zmn f a_0 (a_3 : Int32).toNatClampNeg = v_75.toInt := by rw [zmn_eq f a_0 (by rw [e_46]; rfl) e_67, h_76]
        refine v_iconst hC dX12_paste_33 (v := (-1)) (by decide) ?_
        refine v_icmp_ne hC dX12_paste_34 (tgt := 40) (by decide) (fun h_79 => ?_) (fun h_79 => ?_)
        · simp only [Int32.lt_iff_toInt_lt, Int32.le_iff_toInt_le, Int32.reduceToInt, ← Int32.toInt_inj] at h_79
          refine v_aload_n hC dX12_paste_40 rfl ?_
          refine v_get hC fl_X12_67 m_1 e_46 rfl dX12_paste_41 ?_
          refine v_iload_n hC dX12_paste_44 rfl ?_
          obtain ⟨m_80, t_81⟩ := id k_18
          obtain ⟨g_83, e_82⟩ := hW.at m_80 t_81
          obtain ⟨v_84, h_85⟩ : ∃ v9 : Int32, g_83 (a_1 : Int32).toNatClampNeg = v9 := ⟨_, rfl⟩
          refine v_iald hC m_80 e_82 (vp_in_iff.mpr (by first | omega | (simp only [Int32.lt_iff_toInt_lt, Int32.le_iff_toInt_le, Int32.reduceToInt, ← Int32.toInt_inj, true_and, and_true, or_true, true_or, false_or, or_false, false_and, and_false, not_true_eq_false, not_false_eq_true] <;> omega))) h_85 dX12_paste_45 ?_
          have zf_86 : zwd f a_0 (a_1 : Int32).toNatClampNeg = v_84.toInt := by rw [zwd_eq f a_0 (by rw [e_46]; rfl) e_82, h_85]
          refine v_aload_n hC dX12_paste_46 rfl ?_
          refine v_get hC fl_X12_67 m_1 e_46 rfl dX12_paste_47 ?_
          refine v_iload_n hC dX12_paste_50 rfl ?_
          obtain ⟨v_87, h_88⟩ : ∃ v9 : Int32, g_83 (a_3 : Int32).toNatClampNeg = v9 := ⟨_, rfl⟩
          refine v_iald hC m_80 e_82 (vp_in_iff.mpr (by first | omega | (simp only [Int32.lt_iff_toInt_lt, Int32.le_iff_toInt_le, Int32.reduceToInt, ← Int32.toInt_inj, true_and, and_true, or_true, true_or, false_or, or_false, false_and, and_false, not_true_eq_false, not_false_eq_true] <;> omega))) h_88 dX12_paste_51 ?_
          have zf_89 : zwd f a_0 (a_3 : Int32).toNatClampNeg = v_87.toInt := by rw [zwd_eq f a_0 (by rw [e_46]; rfl) e_82, h_88]
          refine v_icmp_eq hC dX12_paste_52 (tgt := 58) (by decide) (fun h_90 => ?_) (fun h_90 => ?_)
          · simp only [Int32.lt_iff_toInt_lt, Int32.le_iff_toInt_le, Int32.reduceToInt, ← Int32.toInt_inj] at h_90
            refine v_iload_n hC dX12_paste_58 rfl ?_
            refine v_if_lt hC dX12_paste_59 (tgt := 107) (by decide) (fun h_91 => ?_) (fun h_91 => ?_)
            · simp only [Int32.lt_iff_toInt_lt, Int32.le_iff_toInt_le, Int32.reduceToInt, ← Int32.toInt_inj] at h_91
              refine v_bipush hC dX12_paste_107 (v := (-7)) (by decide) ?_
              exact hR _ _ _ _ _ _ _ dX12_paste_109 rfl (Nat.le_of_ble_eq_true rfl) (Nat.le_of_ble_eq_true rfl) ⟨rfl, hW, FR.rf, (by decide), (.inl (by decide)), (.inl (by decide)), (.inl (by decide)), (.inl (by decide)), (.inl (by decide)), (by first | omega | (simp only [Int32.lt_iff_toInt_lt, Int32.le_iff_toInt_le, Int32.reduceToInt, ← Int32.toInt_inj, true_and, and_true, or_true, true_or, false_or, or_false, false_and, and_false, not_true_eq_false, not_false_eq_true] <;> omega))⟩
            · simp only [Int32.lt_iff_toInt_lt, Int32.le_iff_toInt_le, Int32.reduceToInt, ← Int32.toInt_inj] at h_91
              refine v_iload hC dX12_paste_62 rfl ?_
              refine v_if_lt hC dX12_paste_64 (tgt := 107) (by decide) (fun h_92 => ?_) (fun h_92 => ?_)
              · simp only [Int32.lt_iff_toInt_lt, Int32.le_iff_toInt_le, Int32.reduceToInt, ← Int32.toInt_inj] at h_92
                refine v_bipush hC dX12_paste_107 (v := (-7)) (by decide) ?_
                exact hR _ _ _ _ _ _ _ dX12_paste_109 rfl (Nat.le_of_ble_eq_true rfl) (Nat.le_of_ble_eq_true rfl) ⟨rfl, hW, FR.rf, (by decide), (.inl (by decide)), (.inl (by decide)), (.inl (by decide)), (.inl (by decide)), (.inl (by decide)), (by first | omega | (simp only [Int32.lt_iff_toInt_lt, Int32.le_iff_toInt_le, Int32.reduceToInt, ← Int32.toInt_inj, true_and, and_true, or_true, true_or, false_or, or_false, false_and, and_false, not_true_eq_false, not_false_eq_true] <;> omega))⟩
              · simp only [Int32.lt_iff_toInt_lt, Int32.le_iff_toInt_le, Int32.reduceToInt, ← Int32.toInt_inj] at h_92
                refine v_iload hC dX12_paste_67 rfl ?_
                refine v_if_lt hC dX12_paste_69 (tgt := 107) (by decide) (fun h_93 => ?_) (fun h_93 => ?_)
                · simp only [Int32.lt_iff_toInt_lt, Int32.le_iff_toInt_le, Int32.reduceToInt, ← Int32.toInt_inj] at h_93
                  refine v_bipush hC dX12_paste_107 (v := (-7)) (by decide) ?_
                  exact hR _ _ _ _ _ _ _ dX12_paste_109 rfl (Nat.le_of_ble_eq_true rfl) (Nat.le_of_ble_eq_true rfl) ⟨rfl, hW, FR.rf, (by decide), (.inl (by decide)), (.inl (by decide)), (.inl (by decide)), (.inl (by decide)), (.inl (by decide)), (by first | omega | (simp only [Int32.lt_iff_toInt_lt, Int32.le_iff_toInt_le, Int32.reduceToInt, ← Int32.toInt_inj, true_and, and_true, or_true, true_or, false_or, or_false, false_and, and_false, not_true_eq_false, not_false_eq_true] <;> omega))⟩
                · simp only [Int32.lt_iff_toInt_lt, Int32.le_iff_toInt_le, Int32.reduceToInt, ← Int32.toInt_inj] at h_93
                  refine v_iload_n hC dX12_paste_72 rfl ?_
                  obtain ⟨v_94, h_95⟩ : ∃ v9 : Int64, a_2.toInt64 = v9 := ⟨_, rfl⟩
                  refine v_i2l hC dX12_paste_73 h_95 ?_
                  have h_96 : v_94.toInt = a_2.toInt := by rw [← h_95]; exact Int32.toInt_toInt64 _
                  refine v_iload hC dX12_paste_74 rfl ?_
                  obtain ⟨v_97, h_98⟩ : ∃ v9 : Int64, a_5.toInt64 = v9 := ⟨_, rfl⟩
                  refine v_i2l hC dX12_paste_76 h_98 ?_
                  have h_99 : v_97.toInt = a_5.toInt := by rw [← h_98]; exact Int32.toInt_toInt64 _
                  obtain ⟨v_100, h_101⟩ : ∃ v9 : Int64, v_94 + v_97 = v9 := ⟨_, rfl⟩
                  refine v_ladd hC dX12_paste_77 h_101 ?_
                  have h_102 := ladd_v h_101 h_95 h_98
                  refine v_aload_n hC dX12_paste_78 rfl ?_
                  refine v_get hC fl_X12_64 m_1 e_46 rfl dX12_paste_79 ?_
                  refine v_iload_n hC dX12_paste_82 rfl ?_
                  obtain ⟨v_103, h_104⟩ : ∃ v9 : Int32, g_68 (a_1 : Int32).toNatClampNeg = v9 := ⟨_, rfl⟩
                  have b_105 := ok_69 (a_1 : Int32).toNatClampNeg (clamp_lt (vp_in_iff.mpr (by first | omega | (simp only [Int32.lt_iff_toInt_lt, Int32.le_iff_toInt_le, Int32.reduceToInt, ← Int32.toInt_inj, true_and, and_true, or_true, true_or, false_or, or_false, false_and, and_false, not_true_eq_false, not_false_eq_true] <;> omega))))
                  rw [h_104] at b_105
                  refine v_iald hC m_65 e_67 (vp_in_iff.mpr (by first | omega | (simp only [Int32.lt_iff_toInt_lt, Int32.le_iff_toInt_le, Int32.reduceToInt, ← Int32.toInt_inj, true_and, and_true, or_true, true_or, false_or, or_false, false_and, and_false, not_true_eq_false, not_false_eq_true] <;> omega))) h_104 dX12_paste_83 ?_
                  have zf_106 : zmn f a_0 (a_1 : Int32).toNatClampNeg = v_103.toInt := by rw [zmn_eq f a_0 (by rw [e_46]; rfl) e_67, h_104]
                  obtain ⟨v_107, h_108⟩ : ∃ v9 : Int64, v_103.toInt64 = v9 := ⟨_, rfl⟩
                  refine v_i2l hC dX12_paste_84 h_108 ?_
                  have h_109 : v_107.toInt = v_103.toInt := by rw [← h_108]; exact Int32.toInt_toInt64 _
                  obtain ⟨v_110, h_111⟩ : ∃ v9 : Int32, lg_cmp (v_100 : Int64) v_107 = v9 := ⟨_, rfl⟩
                  refine v_lcmp hC dX12_paste_85 h_111 ?_
                  refine v_if_gt hC dX12_paste_86 (tgt := 107) (by decide) (fun h_112 => ?_) (fun h_112 => ?_)
                  · rw [← h_111] at h_112
                    have h_113 := (lgc_gt.mp h_112)
                    simp only [Int64.lt_iff_toInt_lt, Int64.le_iff_toInt_le] at h_113
                    refine v_bipush hC dX12_paste_107 (v := (-7)) (by decide) ?_
                    exact hR _ _ _ _ _ _ _ dX12_paste_109 rfl (Nat.le_of_ble_eq_true rfl) (Nat.le_of_ble_eq_true rfl) ⟨rfl, hW, FR.rf, (by decide), (.inl (by decide)), (.inl (by decide)), (.inl (by decide)), (.inl (by decide)), (.inl (by decide)), (by first | omega | (simp only [Int32.lt_iff_toInt_lt, Int32.le_iff_toInt_le, Int32.reduceToInt, ← Int32.toInt_inj, true_and, and_true, or_true, true_or, false_or, or_false, false_and, and_false, not_true_eq_false, not_false_eq_true] <;> omega))⟩
                  · rw [← h_111] at h_112
                    have h_114 := (mt lgc_gt.mpr h_112)
                    simp only [Int64.lt_iff_toInt_lt, Int64.le_iff_toInt_le] at h_114
                    refine v_iload hC dX12_paste_89 rfl ?_
                    obtain ⟨v_115, h_116⟩ : ∃ v9 : Int64, a_4.toInt64 = v9 := ⟨_, rfl⟩
                    refine v_i2l hC dX12_paste_91 h_116 ?_
                    have h_117 : v_115.toInt = a_4.toInt := by rw [← h_116]; exact Int32.toInt_toInt64 _
                    refine v_iload hC dX12_paste_92 rfl ?_
                    obtain ⟨v_118, h_119⟩ : ∃ v9 : Int64, a_5.toInt64 = v9 := ⟨_, rfl⟩
                    refine v_i2l hC dX12_paste_94 h_119 ?_
                    have h_120 : v_118.toInt = a_5.toInt := by rw [← h_119]; exact Int32.toInt_toInt64 _
                    obtain ⟨v_121, h_122⟩ : ∃ v9 : Int64, v_115 + v_118 = v9 := ⟨_, rfl⟩
                    refine v_ladd hC dX12_paste_95 h_122 ?_
                    have h_123 := ladd_v h_122 h_116 h_119
                    refine v_aload_n hC dX12_paste_96 rfl ?_
                    refine v_get hC fl_X12_64 m_1 e_46 rfl dX12_paste_97 ?_
                    refine v_iload_n hC dX12_paste_100 rfl ?_
                    obtain ⟨v_124, h_125⟩ : ∃ v9 : Int32, g_68 (a_3 : Int32).toNatClampNeg = v9 := ⟨_, rfl⟩
                    have b_126 := ok_69 (a_3 : Int32).toNatClampNeg (clamp_lt (vp_in_iff.mpr (by first | omega | (simp only [Int32.lt_iff_toInt_lt, Int32.le_iff_toInt_le, Int32.reduceToInt, ← Int32.toInt_inj, true_and, and_true, or_true, true_or, false_or, or_false, false_and, and_false, not_true_eq_false, not_false_eq_true] <;> omega))))
                    rw [h_125] at b_126
                    refine v_iald hC m_65 e_67 (vp_in_iff.mpr (by first | omega | (simp only [Int32.lt_iff_toInt_lt, Int32.le_iff_toInt_le, Int32.reduceToInt, ← Int32.toInt_inj, true_and, and_true, or_true, true_or, false_or, or_false, false_and, and_false, not_true_eq_false, not_false_eq_true] <;> omega))) h_125 dX12_paste_101 ?_
                    have zf_127 : zmn f a_0 (a_3 : Int32).toNatClampNeg = v_124.toInt := by rw [zmn_eq f a_0 (by rw [e_46]; rfl) e_67, h_125]
                    obtain ⟨v_128, h_129⟩ : ∃ v9 : Int64, v_124.toInt64 = v9 := ⟨_, rfl⟩
                    refine v_i2l hC dX12_paste_102 h_129 ?_
                    have h_130 : v_128.toInt = v_124.toInt := by rw [← h_129]; exact Int32.toInt_toInt64 _
                    obtain ⟨v_131, h_132⟩ : ∃ v9 : Int32, lg_cmp (v_121 : Int64) v_128 = v9 := ⟨_, rfl⟩
                    refine v_lcmp hC dX12_paste_103 h_132 ?_
                    refine v_if_le hC dX12_paste_104 (tgt := 110) (by decide) (fun h_133 => ?_) (fun h_133 => ?_)
                    · rw [← h_132] at h_133
                      have h_134 := (lgc_le.mp h_133)
                      simp only [Int64.lt_iff_toInt_lt, Int64.le_iff_toInt_le] at h_134
                      have b_136 : 0 ≤ a_2.toInt ∧ a_2.toInt ≤ 60 := by omega
                      have b_137 : 0 ≤ a_4.toInt ∧ a_4.toInt ≤ 60 := by omega
                      have b_138 : 0 ≤ a_5.toInt ∧ a_5.toInt ≤ 60 := by omega
                      refine v_iconst hC dX12_paste_110 (v := 0) (by decide) ?_
                      refine v_istore hC dX12_paste_111 (by decide) (lv' := [(6, .int 0), (0, .ref a_0), (1, .int a_1), (2, .int a_2), (3, .int a_3), (4, .int a_4), (5, .int a_5)]) rfl ?_
                      have lp_1206 : ∀ (n_1207 : Nat) (f_1198 : Nat → va_E) (hW_1199 : WT T L f_1198) (hF_1200 : FR [160] f f_1198) (i_1197 : Int32) (b_1205 : (0 ≤ i_1197.toInt ∧ i_1197.toInt ≤ 60)) (hm_1209 : 60 - i_1197.toInt < (n_1207 : Int)), V z E 7 0 0 L f_1198 113 [(6, .int i_1197), (0, .ref a_0), (1, .int a_1), (2, .int a_2), (3, .int a_3), (4, .int a_4), (5, .int a_5)] [] := by
                        intro n_1207
                        induction n_1207 with
                        | zero =>
                          intro f_1198 hW_1199 hF_1200 i_1197 b_1205 hm_1209
                          have hf_1201 := hF_1200.at e_w rfl
                          have hf_1202 := hF_1200.at e_46 rfl
                          have hf_1203 := hF_1200.at e_67 rfl
                          have hf_1204 := hF_1200.at e_82 rfl
                          exfalso; omega
                        | succ n_1207 ih_1208 =>
                          intro f_1198 hW_1199 hF_1200 i_1197 b_1205 hm_1209
                          have hf_1201 := hF_1200.at e_w rfl
                          have hf_1202 := hF_1200.at e_46 rfl
                          have hf_1203 := hF_1200.at e_67 rfl
                          have hf_1204 := hF_1200.at e_82 rfl
                          refine v_iload hC dX12_paste_113 rfl ?_
                          refine v_iload hC dX12_paste_115 rfl ?_
                          refine v_icmp_ge hC dX12_paste_117 (tgt := 147) (by decide) (fun h_1210 => ?_) (fun h_1210 => ?_)
                          · simp only [Int32.lt_iff_toInt_lt, Int32.le_iff_toInt_le, Int32.reduceToInt, ← Int32.toInt_inj] at h_1210
                            refine v_iconst hC dX12_paste_147 (v := 0) (by decide) ?_
                            refine v_istore hC dX12_paste_148 (by decide) (lv' := [(6, .int 0), (0, .ref a_0), (1, .int a_1), (2, .int a_2), (3, .int a_3), (4, .int a_4), (5, .int a_5)]) rfl ?_
                            have lp_1394 : ∀ (n_1395 : Nat) (f_1386 : Nat → va_E) (hW_1387 : WT T L f_1386) (hF_1388 : FR [340] f_1198 f_1386) (i_1385 : Int32) (b_1393 : (0 ≤ i_1385.toInt ∧ i_1385.toInt ≤ 60)) (hm_1397 : 60 - i_1385.toInt < (n_1395 : Int)), V z E 7 0 0 L f_1386 150 [(6, .int i_1385), (0, .ref a_0), (3, .int a_3), (4, .int a_4), (5, .int a_5)] [] := by
                              intro n_1395
                              induction n_1395 with
                              | zero =>
                                intro f_1386 hW_1387 hF_1388 i_1385 b_1393 hm_1397
                                have hf_1389 := hF_1388.at hf_1201 rfl
                                have hf_1390 := hF_1388.at hf_1202 rfl
                                have hf_1391 := hF_1388.at hf_1203 rfl
                                have hf_1392 := hF_1388.at hf_1204 rfl
                                exfalso; omega
                              | succ n_1395 ih_1396 =>
                                intro f_1386 hW_1387 hF_1388 i_1385 b_1393 hm_1397
                                have hf_1389 := hF_1388.at hf_1201 rfl
                                have hf_1390 := hF_1388.at hf_1202 rfl
                                have hf_1391 := hF_1388.at hf_1203 rfl
                                have hf_1392 := hF_1388.at hf_1204 rfl
                                refine v_iload hC dX12_paste_150 rfl ?_
                                refine v_iload hC dX12_paste_152 rfl ?_
                                refine v_icmp_ge hC dX12_paste_154 (tgt := 185) (by decide) (fun h_1398 => ?_) (fun h_1398 => ?_)
                                · simp only [Int32.lt_iff_toInt_lt, Int32.le_iff_toInt_le, Int32.reduceToInt, ← Int32.toInt_inj] at h_1398
                                  refine v_iconst hC dX12_paste_185 (v := 0) (by decide) ?_
                                  exact hR _ _ _ _ _ _ _ dX12_paste_186 rfl (Nat.le_of_ble_eq_true rfl) (Nat.le_of_ble_eq_true rfl) ⟨rfl, hW_1387, ((hF_1200.tr hF_1388).mono rfl), (by decide), (.inr (by first | omega | (simp only [Int32.lt_iff_toInt_lt, Int32.le_iff_toInt_le, Int32.reduceToInt, ← Int32.toInt_inj, true_and, and_true, or_true, true_or, false_or, or_false, false_and, and_false, not_true_eq_false, not_false_eq_true] <;> omega))), (.inr (by first | omega | (simp only [Int32.lt_iff_toInt_lt, Int32.le_iff_toInt_le, Int32.reduceToInt, ← Int32.toInt_inj, true_and, and_true, or_true, true_or, false_or, or_false, false_and, and_false, not_true_eq_false, not_false_eq_true] <;> omega))), (.inr (by first | omega | (simp only [Int32.lt_iff_toInt_lt, Int32.le_iff_toInt_le, Int32.reduceToInt, ← Int32.toInt_inj, true_and, and_true, or_true, true_or, false_or, or_false, false_and, and_false, not_true_eq_false, not_false_eq_true] <;> omega))), (.inr (by first | omega | (simp only [Int32.lt_iff_toInt_lt, Int32.le_iff_toInt_le, Int32.reduceToInt, ← Int32.toInt_inj, true_and, and_true, or_true, true_or, false_or, or_false, false_and, and_false, not_true_eq_false, not_false_eq_true] <;> omega))), (.inr (by first | omega | (simp only [Int32.lt_iff_toInt_lt, Int32.le_iff_toInt_le, Int32.reduceToInt, ← Int32.toInt_inj, true_and, and_true, or_true, true_or, false_or, or_false, false_and, and_false, not_true_eq_false, not_false_eq_true] <;> omega))), (by first | omega | (simp only [Int32.lt_iff_toInt_lt, Int32.le_iff_toInt_le, Int32.reduceToInt, ← Int32.toInt_inj, true_and, and_true, or_true, true_or, false_or, or_false, false_and, and_false, not_true_eq_false, not_false_eq_true] <;> omega))⟩
                                · simp only [Int32.lt_iff_toInt_lt, Int32.le_iff_toInt_le, Int32.reduceToInt, ← Int32.toInt_inj] at h_1398
                                  refine v_aload_n hC dX12_paste_157 rfl ?_
                                  refine v_get hC fl_X12_70 m_1 hf_1390 rfl dX12_paste_158 ?_
                                  refine v_bipush hC dX12_paste_161 (v := 60) (by decide) ?_
                                  refine v_iload_n hC dX12_paste_163 rfl ?_
                                  obtain ⟨v_1399, h_1400⟩ : ∃ v9 : Int32, (60 : Int32) * a_3 = v9 := ⟨_, rfl⟩
                                  refine v_imul hC dX12_paste_164 h_1400 ?_
                                  have h_1401 := mul_v 60 3 180 h_1400 (by decide) (by first | omega | (simp only [Int32.lt_iff_toInt_lt, Int32.le_iff_toInt_le, Int32.reduceToInt, ← Int32.toInt_inj, true_and, and_true, or_true, true_or, false_or, or_false, false_and, and_false, not_true_eq_false, not_false_eq_true] <;> omega)) (by decide) (by decide)
                                  try simp only [Int32.reduceToInt] at h_1401
                                  refine v_iload hC dX12_paste_165 rfl ?_
                                  obtain ⟨v_1402, h_1403⟩ : ∃ v9 : Int32, v_1399 + a_4 = v9 := ⟨_, rfl⟩
                                  refine v_iadd hC dX12_paste_167 h_1403 ?_
                                  have h_1404 := add_v h_1403 (by first | omega | (simp only [Int32.lt_iff_toInt_lt, Int32.le_iff_toInt_le, Int32.reduceToInt, ← Int32.toInt_inj, true_and, and_true, or_true, true_or, false_or, or_false, false_and, and_false, not_true_eq_false, not_false_eq_true] <;> omega)) (by first | omega | (simp only [Int32.lt_iff_toInt_lt, Int32.le_iff_toInt_le, Int32.reduceToInt, ← Int32.toInt_inj, true_and, and_true, or_true, true_or, false_or, or_false, false_and, and_false, not_true_eq_false, not_false_eq_true] <;> omega))
                                  refine v_iload hC dX12_paste_168 rfl ?_
                                  obtain ⟨v_1405, h_1406⟩ : ∃ v9 : Int32, v_1402 + i_1385 = v9 := ⟨_, rfl⟩
                                  refine v_iadd hC dX12_paste_170 h_1406 ?_
                                  have h_1407 := add_v h_1406 (by first | omega | (simp only [Int32.lt_iff_toInt_lt, Int32.le_iff_toInt_le, Int32.reduceToInt, ← Int32.toInt_inj, true_and, and_true, or_true, true_or, false_or, or_false, false_and, and_false, not_true_eq_false, not_false_eq_true] <;> omega)) (by first | omega | (simp only [Int32.lt_iff_toInt_lt, Int32.le_iff_toInt_le, Int32.reduceToInt, ← Int32.toInt_inj, true_and, and_true, or_true, true_or, false_or, or_false, false_and, and_false, not_true_eq_false, not_false_eq_true] <;> omega))
                                  refine v_aload_n hC dX12_paste_171 rfl ?_
                                  refine v_get hC fl_X12_74 m_1 hf_1390 rfl dX12_paste_172 ?_
                                  refine v_iload hC dX12_paste_175 rfl ?_
                                  obtain ⟨m_1408, t_1409⟩ := id k_20
                                  obtain ⟨g_1411, e_1410⟩ := hW_1387.at m_1408 t_1409
                                  obtain ⟨v_1412, h_1413⟩ : ∃ v9 : Int64, g_1411 (i_1385 : Int32).toNatClampNeg = v9 := ⟨_, rfl⟩
                                  refine v_lald hC m_1408 e_1410 (vp_in_iff.mpr (by first | omega | (simp only [Int32.lt_iff_toInt_lt, Int32.le_iff_toInt_le, Int32.reduceToInt, ← Int32.toInt_inj, true_and, and_true, or_true, true_or, false_or, or_false, false_and, and_false, not_true_eq_false, not_false_eq_true] <;> omega))) h_1413 dX12_paste_177 ?_
                                  obtain ⟨m_1414, t_1415⟩ := id k_19
                                  obtain ⟨g_1417, e_1416⟩ := hW_1387.at m_1414 t_1415
                                  refine v_last hC m_1414 e_1416 (vp_in_iff.mpr (by first | omega | (simp only [Int32.lt_iff_toInt_lt, Int32.le_iff_toInt_le, Int32.reduceToInt, ← Int32.toInt_inj, true_and, and_true, or_true, true_or, false_or, or_false, false_and, and_false, not_true_eq_false, not_false_eq_true] <;> omega))) dX12_paste_178 (fun f_1418 hf_1419 hk_1420 => ?_)
                                  have hW_1422 := hW_1387.up hf_1419 hk_1420 t_1415 ⟨_, rfl⟩
                                  obtain ⟨g_1421, hf_1419⟩ : ∃ g9, f_1418 (q 27) = aJ E 240 g9 := ⟨_, hf_1419⟩
                                  have hf_1423 := (hk_1420 (q 1) (ne_kd hf_1389 e_1416 rfl)).trans hf_1389
                                  have hf_1424 := (hk_1420 a_0 (ne_kd hf_1390 e_1416 rfl)).trans hf_1390
                                  have hf_1425 := (hk_1420 (q 25) (ne_kd hf_1391 e_1416 rfl)).trans hf_1391
                                  have hf_1426 := (hk_1420 (q 26) (ne_kd hf_1392 e_1416 rfl)).trans hf_1392
                                  have hf_1427 := (hk_1420 (q 28) (ne_kd e_1410 e_1416 rfl)).trans e_1410
                                  have fr_1428 := FR.w hk_1420 e_1416 (k := 340) rfl
                                  obtain ⟨v_1429, h_1430⟩ : ∃ v9 : Int32, i_1385 + Int32.ofInt 1 = v9 := ⟨_, rfl⟩
                                  have h_1431 := add_v (b := 1) h_1430 (by first | omega | (simp only [Int32.lt_iff_toInt_lt, Int32.le_iff_toInt_le, Int32.reduceToInt, ← Int32.toInt_inj, true_and, and_true, or_true, true_or, false_or, or_false, false_and, and_false, not_true_eq_false, not_false_eq_true] <;> omega)) (by first | omega | (simp only [Int32.lt_iff_toInt_lt, Int32.le_iff_toInt_le, Int32.reduceToInt, ← Int32.toInt_inj, true_and, and_true, or_true, true_or, false_or, or_false, false_and, and_false, not_true_eq_false, not_false_eq_true] <;> omega))
                                  simp only [Int32.reduceToInt] at h_1431
                                  refine v_iinc hC dX12_paste_179 (k := 0) rfl (v := v_1429) h_1430 (by decide) (lv' := [(6, .int v_1429), (0, .ref a_0), (3, .int a_3), (4, .int a_4), (5, .int a_5)]) rfl ?_
                                  refine v_goto hC dX12_paste_182 (tgt := 150) (by decide) ?_
                                  refine v_pick [0, 1, 2, 3, 4] rfl ?_
                                  exact ih_1396 f_1418 hW_1422 ((hF_1388.tr fr_1428).mono rfl) v_1429 (by first | omega | (simp only [Int32.lt_iff_toInt_lt, Int32.le_iff_toInt_le, Int32.reduceToInt, ← Int32.toInt_inj, true_and, and_true, or_true, true_or, false_or, or_false, false_and, and_false, not_true_eq_false, not_false_eq_true] <;> omega)) (by first | omega | (simp only [Int32.lt_iff_toInt_lt, Int32.le_iff_toInt_le, Int32.reduceToInt, ← Int32.toInt_inj, true_and, and_true, or_true, true_or, false_or, or_false, false_and, and_false, not_true_eq_false, not_false_eq_true] <;> omega))
                            refine v_pick [0, 1, 4, 5, 6] rfl ?_
                            exact lp_1394 62 f_1198 hW_1199 FR.rf 0 (by decide) (by decide)
                          · simp only [Int32.lt_iff_toInt_lt, Int32.le_iff_toInt_le, Int32.reduceToInt, ← Int32.toInt_inj] at h_1210
                            refine v_aload_n hC dX12_paste_120 rfl ?_
                            refine v_get hC fl_X12_74 m_1 hf_1202 rfl dX12_paste_121 ?_
                            refine v_iload hC dX12_paste_124 rfl ?_
                            refine v_aload_n hC dX12_paste_126 rfl ?_
                            refine v_get hC fl_X12_70 m_1 hf_1202 rfl dX12_paste_127 ?_
                            refine v_bipush hC dX12_paste_130 (v := 60) (by decide) ?_
                            refine v_iload_n hC dX12_paste_132 rfl ?_
                            obtain ⟨v_1432, h_1433⟩ : ∃ v9 : Int32, (60 : Int32) * a_1 = v9 := ⟨_, rfl⟩
                            refine v_imul hC dX12_paste_133 h_1433 ?_
                            have h_1434 := mul_v 60 3 180 h_1433 (by decide) (by first | omega | (simp only [Int32.lt_iff_toInt_lt, Int32.le_iff_toInt_le, Int32.reduceToInt, ← Int32.toInt_inj, true_and, and_true, or_true, true_or, false_or, or_false, false_and, and_false, not_true_eq_false, not_false_eq_true] <;> omega)) (by decide) (by decide)
                            try simp only [Int32.reduceToInt] at h_1434
                            refine v_iload_n hC dX12_paste_134 rfl ?_
                            obtain ⟨v_1435, h_1436⟩ : ∃ v9 : Int32, v_1432 + a_2 = v9 := ⟨_, rfl⟩
                            refine v_iadd hC dX12_paste_135 h_1436 ?_
                            have h_1437 := add_v h_1436 (by first | omega | (simp only [Int32.lt_iff_toInt_lt, Int32.le_iff_toInt_le, Int32.reduceToInt, ← Int32.toInt_inj, true_and, and_true, or_true, true_or, false_or, or_false, false_and, and_false, not_true_eq_false, not_false_eq_true] <;> omega)) (by first | omega | (simp only [Int32.lt_iff_toInt_lt, Int32.le_iff_toInt_le, Int32.reduceToInt, ← Int32.toInt_inj, true_and, and_true, or_true, true_or, false_or, or_false, false_and, and_false, not_true_eq_false, not_false_eq_true] <;> omega))
                            refine v_iload hC dX12_paste_136 rfl ?_
                            obtain ⟨v_1438, h_1439⟩ : ∃ v9 : Int32, v_1435 + i_1197 = v9 := ⟨_, rfl⟩
                            refine v_iadd hC dX12_paste_138 h_1439 ?_
                            have h_1440 := add_v h_1439 (by first | omega | (simp only [Int32.lt_iff_toInt_lt, Int32.le_iff_toInt_le, Int32.reduceToInt, ← Int32.toInt_inj, true_and, and_true, or_true, true_or, false_or, or_false, false_and, and_false, not_true_eq_false, not_false_eq_true] <;> omega)) (by first | omega | (simp only [Int32.lt_iff_toInt_lt, Int32.le_iff_toInt_le, Int32.reduceToInt, ← Int32.toInt_inj, true_and, and_true, or_true, true_or, false_or, or_false, false_and, and_false, not_true_eq_false, not_false_eq_true] <;> omega))
                            obtain ⟨m_1441, t_1442⟩ := id k_19
                            obtain ⟨g_1444, e_1443⟩ := hW_1199.at m_1441 t_1442
                            obtain ⟨v_1445, h_1446⟩ : ∃ v9 : Int64, g_1444 (v_1438 : Int32).toNatClampNeg = v9 := ⟨_, rfl⟩
                            refine v_lald hC m_1441 e_1443 (vp_in_iff.mpr (by first | omega | (simp only [Int32.lt_iff_toInt_lt, Int32.le_iff_toInt_le, Int32.reduceToInt, ← Int32.toInt_inj, true_and, and_true, or_true, true_or, false_or, or_false, false_and, and_false, not_true_eq_false, not_false_eq_true] <;> omega))) h_1446 dX12_paste_139 ?_
                            obtain ⟨m_1447, t_1448⟩ := id k_20
                            obtain ⟨g_1450, e_1449⟩ := hW_1199.at m_1447 t_1448
                            refine v_last hC m_1447 e_1449 (vp_in_iff.mpr (by first | omega | (simp only [Int32.lt_iff_toInt_lt, Int32.le_iff_toInt_le, Int32.reduceToInt, ← Int32.toInt_inj, true_and, and_true, or_true, true_or, false_or, or_false, false_and, and_false, not_true_eq_false, not_false_eq_true] <;> omega))) dX12_paste_140 (fun f_1451 hf_1452 hk_1453 => ?_)
                            have hW_1455 := hW_1199.up hf_1452 hk_1453 t_1448 ⟨_, rfl⟩
                            obtain ⟨g_1454, hf_1452⟩ : ∃ g9, f_1451 (q 28) = aJ E 60 g9 := ⟨_, hf_1452⟩
                            have hf_1456 := (hk_1453 (q 1) (ne_kd hf_1201 e_1449 rfl)).trans hf_1201
                            have hf_1457 := (hk_1453 a_0 (ne_kd hf_1202 e_1449 rfl)).trans hf_1202
                            have hf_1458 := (hk_1453 (q 25) (ne_kd hf_1203 e_1449 rfl)).trans hf_1203
                            have hf_1459 := (hk_1453 (q 26) (ne_kd hf_1204 e_1449 rfl)).trans hf_1204
                            have hf_1460 := (hk_1453 (q 27) (ne_kd e_1443 e_1449 rfl)).trans e_1443
                            have fr_1461 := FR.w hk_1453 e_1449 (k := 160) rfl
                            obtain ⟨v_1462, h_1463⟩ : ∃ v9 : Int32, i_1197 + Int32.ofInt 1 = v9 := ⟨_, rfl⟩
                            have h_1464 := add_v (b := 1) h_1463 (by first | omega | (simp only [Int32.lt_iff_toInt_lt, Int32.le_iff_toInt_le, Int32.reduceToInt, ← Int32.toInt_inj, true_and, and_true, or_true, true_or, false_or, or_false, false_and, and_false, not_true_eq_false, not_false_eq_true] <;> omega)) (by first | omega | (simp only [Int32.lt_iff_toInt_lt, Int32.le_iff_toInt_le, Int32.reduceToInt, ← Int32.toInt_inj, true_and, and_true, or_true, true_or, false_or, or_false, false_and, and_false, not_true_eq_false, not_false_eq_true] <;> omega))
                            simp only [Int32.reduceToInt] at h_1464
                            refine v_iinc hC dX12_paste_141 (k := 0) rfl (v := v_1462) h_1463 (by decide) (lv' := [(6, .int v_1462), (0, .ref a_0), (1, .int a_1), (2, .int a_2), (3, .int a_3), (4, .int a_4), (5, .int a_5)]) rfl ?_
                            refine v_goto hC dX12_paste_144 (tgt := 113) (by decide) ?_
                            refine v_pick [0, 1, 2, 3, 4, 5, 6] rfl ?_
                            exact ih_1208 f_1451 hW_1455 ((hF_1200.tr fr_1461).mono rfl) v_1462 (by first | omega | (simp only [Int32.lt_iff_toInt_lt, Int32.le_iff_toInt_le, Int32.reduceToInt, ← Int32.toInt_inj, true_and, and_true, or_true, true_or, false_or, or_false, false_and, and_false, not_true_eq_false, not_false_eq_true] <;> omega)) (by first | omega | (simp only [Int32.lt_iff_toInt_lt, Int32.le_iff_toInt_le, Int32.reduceToInt, ← Int32.toInt_inj, true_and, and_true, or_true, true_or, false_or, or_false, false_and, and_false, not_true_eq_false, not_false_eq_true] <;> omega))
                      refine v_pick [0, 1, 2, 3, 4, 5, 6] rfl ?_
                      exact lp_1206 62 f hW FR.rf 0 (by decide) (by decide)
                    · rw [← h_132] at h_133
                      have h_135 := (mt lgc_le.mpr h_133)
                      simp only [Int64.lt_iff_toInt_lt, Int64.le_iff_toInt_le] at h_135
                      refine v_bipush hC dX12_paste_107 (v := (-7)) (by decide) ?_
                      exact hR _ _ _ _ _ _ _ dX12_paste_109 rfl (Nat.le_of_ble_eq_true rfl) (Nat.le_of_ble_eq_true rfl) ⟨rfl, hW, FR.rf, (by decide), (.inl (by decide)), (.inl (by decide)), (.inl (by decide)), (.inl (by decide)), (.inl (by decide)), (by first | omega | (simp only [Int32.lt_iff_toInt_lt, Int32.le_iff_toInt_le, Int32.reduceToInt, ← Int32.toInt_inj, true_and, and_true, or_true, true_or, false_or, or_false, false_and, and_false, not_true_eq_false, not_false_eq_true] <;> omega))⟩
          · simp only [Int32.lt_iff_toInt_lt, Int32.le_iff_toInt_le, Int32.reduceToInt, ← Int32.toInt_inj] at h_90
            refine v_bipush hC dX12_paste_55 (v := (-8)) (by decide) ?_
            exact hR _ _ _ _ _ _ _ dX12_paste_57 rfl (Nat.le_of_ble_eq_true rfl) (Nat.le_of_ble_eq_true rfl) ⟨rfl, hW, FR.rf, (by decide), (.inl (by decide)), (.inl (by decide)), (.inl (by decide)), (.inl (by decide)), (.inl (by decide)), (by first | omega | (simp only [Int32.lt_iff_toInt_lt, Int32.le_iff_toInt_le, Int32.reduceToInt, ← Int32.toInt_inj, true_and, and_true, or_true, true_or, false_or, or_false, false_and, and_false, not_true_eq_false, not_false_eq_true] <;> omega))⟩
        · simp only [Int32.lt_iff_toInt_lt, Int32.le_iff_toInt_le, Int32.reduceToInt, ← Int32.toInt_inj] at h_79
          refine v_bipush hC dX12_paste_37 (v := (-6)) (by decide) ?_
          exact hR _ _ _ _ _ _ _ dX12_paste_39 rfl (Nat.le_of_ble_eq_true rfl) (Nat.le_of_ble_eq_true rfl) ⟨rfl, hW, FR.rf, (by decide), (.inl (by decide)), (.inl (by decide)), (.inl (by decide)), (.inl (by decide)), (.inl (by decide)), (by first | omega | (simp only [Int32.lt_iff_toInt_lt, Int32.le_iff_toInt_le, Int32.reduceToInt, ← Int32.toInt_inj, true_and, and_true, or_true, true_or, false_or, or_false, false_and, and_false, not_true_eq_false, not_false_eq_true] <;> omega))⟩
    · simp only [Int32.lt_iff_toInt_lt, Int32.le_iff_toInt_le, Int32.reduceToInt, ← Int32.toInt_inj] at h_45
      refine v_bipush hC dX12_paste_14 (v := (-2)) (by decide) ?_
      exact hR _ _ _ _ _ _ _ dX12_paste_16 rfl (Nat.le_of_ble_eq_true rfl) (Nat.le_of_ble_eq_true rfl) ⟨rfl, hW, FR.rf, (by decide), (.inl (by decide)), (.inl (by decide)), (.inl (by decide)), (.inl (by decide)), (.inl (by decide)), (by first | omega | (simp only [Int32.lt_iff_toInt_lt, Int32.le_iff_toInt_le, Int32.reduceToInt, ← Int32.toInt_inj, true_and, and_true, or_true, true_or, false_or, or_false, false_and, and_false, not_true_eq_false, not_false_eq_true] <;> omega))⟩
set_option maxRecDepth 100000 in
set_option maxHeartbeats 8000000 in
theorem p_X12_lay {l : Launch} {E : Ez} {L : List Nat} {f : Nat → va_E} {T : Nat → va_E → Prop} {a_0 : Nat} {a_1 : Int32} {a_2 : Int32} {q : Nat → Nat} {g_w : Nat → Int32} (hW : WT T L f) (k_0 : isM T L E a_0 q) (e_w : f (q 1) = aI E 2076 g_w) (o_w : WOK g_w) : CI l yX12_lay cX12_lay 7 .int 3 0 0 E [.ref a_0, .int a_1, .int a_2] L f (fun r L1 f1 => L = L1 ∧ WT T L f1 ∧ FR [356, 2176] f f1 ∧ (¬ r.toInt = 0 ∨ (0 ≤ a_1.toInt ∧ a_1.toInt ≤ 3)) ∧ (¬ r.toInt = 0 ∨ (0 ≤ a_2.toInt ∧ a_2.toInt ≤ 3))) := by
  refine ci_of (by decide) (Nat.le_of_ble_eq_true rfl) (fun z hz hnm hC hR => ?_)
  have hC : Cx z E cX12_lay RX12 7 3 0 0 := hC
  subst hz
  show V z E 7 0 0 L f 0 [(0, .ref a_0), (1, .int a_1), (2, .int a_2)] []
  obtain ⟨m_1, t_2, nq_21, k_3, k_4, k_5, k_6, k_7, k_8, k_9, k_10, k_11, k_12, k_13, k_14, k_15, k_16, k_17, k_18, k_19, k_20⟩ := id k_0
  obtain ⟨m_22, t_23⟩ := id k_3
  have b_24 := o_w.r0
  have b_25 := o_w.w0
  refine v_iload_n hC dX12_lay_0 rfl ?_
  refine v_si hC (rest := []) mt_X12_isSlot (p_X12_isSlot hW) mx_X12_isSlot ml_X12_425 (by decide) rfl (cells1 := 0) (slots1 := 0) (by decide) (by decide) (Nat.le_of_ble_eq_true rfl) (Nat.le_of_ble_eq_true rfl) rfl (Nat.le_of_ble_eq_true rfl) dX12_lay_1 (fun r_26 L_27 f_28 h_29 => ?_)
  obtain ⟨rfl, rfl, b_30, h_31, x_32⟩ := h_29
  try simp only [Int32.reduceToInt, Int64.reduceToInt] at x_32
  refine v_if_eq hC dX12_lay_4 (tgt := 14) (by decide) (fun h_35 => ?_) (fun h_35 => ?_)
  · simp only [Int32.lt_iff_toInt_lt, Int32.le_iff_toInt_le, Int32.reduceToInt, ← Int32.toInt_inj] at h_35
    refine v_bipush hC dX12_lay_14 (v := (-2)) (by decide) ?_
    exact hR _ _ _ _ _ _ _ dX12_lay_16 rfl (Nat.le_of_ble_eq_true rfl) (Nat.le_of_ble_eq_true rfl) ⟨rfl, hW, FR.rf, (.inl (by decide)), (.inl (by decide))⟩
  · simp only [Int32.lt_iff_toInt_lt, Int32.le_iff_toInt_le, Int32.reduceToInt, ← Int32.toInt_inj] at h_35
    refine v_iload_n hC dX12_lay_7 rfl ?_
    refine v_si hC (rest := []) mt_X12_isCloth (p_X12_isCloth hW) mx_X12_isCloth ml_X12_319 (by decide) rfl (cells1 := 0) (slots1 := 0) (by decide) (by decide) (Nat.le_of_ble_eq_true rfl) (Nat.le_of_ble_eq_true rfl) rfl (Nat.le_of_ble_eq_true rfl) dX12_lay_8 (fun r_36 L_37 f_38 h_39 => ?_)
    obtain ⟨rfl, rfl, b_40, h_41⟩ := h_39
    refine v_if_ne hC dX12_lay_11 (tgt := 17) (by decide) (fun h_44 => ?_) (fun h_44 => ?_)
    · simp only [Int32.lt_iff_toInt_lt, Int32.le_iff_toInt_le, Int32.reduceToInt, ← Int32.toInt_inj] at h_44
      refine v_aload_n hC dX12_lay_17 rfl ?_
      obtain ⟨v_46, v_47, v_49, v_51, v_53, v_55, v_57, v_58, v_59, v_60, v_62, e_45, b_48, b_50, b_52, b_54, b_56, b_61, b_63⟩ := hW.at m_1 t_2
      refine v_get hC fl_X12_64 m_1 e_45 rfl dX12_lay_18 ?_
      refine v_iload_n hC dX12_lay_21 rfl ?_
      obtain ⟨m_64, t_65⟩ := id k_17
      obtain ⟨g_67, e_66, ok_68⟩ := hW.at m_64 t_65
      obtain ⟨v_69, h_70⟩ : ∃ v9 : Int32, g_67 (a_1 : Int32).toNatClampNeg = v9 := ⟨_, rfl⟩
      have b_71 := ok_68 (a_1 : Int32).toNatClampNeg (clamp_lt (vp_in_iff.mpr (by first | omega | (simp only [Int32.lt_iff_toInt_lt, Int32.le_iff_toInt_le, Int32.reduceToInt, ← Int32.toInt_inj, true_and, and_true, or_true, true_or, false_or, or_false, false_and, and_false, not_true_eq_false, not_false_eq_true] <;> omega))))
      rw [h_70] at b_71
      refine v_iald hC m_64 e_66 (vp_in_iff.mpr (by first | omega | (simp only [Int32.lt_iff_toInt_lt, Int32.le_iff_toInt_le, Int32.reduceToInt, ← Int32.toInt_inj, true_and, and_true, or_true, true_or, false_or, or_false, false_and, and_false, not_true_eq_false, not_false_eq_true] <;> omega))) h_70 dX12_lay_22 ?_
      refine v_iconst hC dX12_lay_23 (v := (-1)) (by decide) ?_
      refine v_icmp_eq hC dX12_lay_24 (tgt := 35) (by decide) (fun h_72 => ?_) (fun h_72 => ?_)
      · simp only [Int32.lt_iff_toInt_lt, Int32.le_iff_toInt_le, Int32.reduceToInt, ← Int32.toInt_inj] at h_72
        refine v_bipush hC dX12_lay_35 (v := (-6)) (by decide) ?_
        exact hR _ _ _ _ _ _ _ dX12_lay_37 rfl (Nat.le_of_ble_eq_true rfl) (Nat.le_of_ble_eq_true rfl) ⟨rfl, hW, FR.rf, (.inl (by decide)), (.inl (by decide))⟩
      · simp only [Int32.lt_iff_toInt_lt, Int32.le_iff_toInt_le, Int32.reduceToInt, ← Int32.toInt_inj] at h_72
        refine v_aload_n hC dX12_lay_27 rfl ?_
        refine v_iload_n hC dX12_lay_28 rfl ?_
        refine v_vi hC (rest := []) m_1 e_45 rfl mi_X12_isThere ms_X12_isThere (p_X12_isThere hW k_0 (by first | omega | (simp only [Int32.lt_iff_toInt_lt, Int32.le_iff_toInt_le, Int32.reduceToInt, ← Int32.toInt_inj, true_and, and_true, or_true, true_or, false_or, or_false, false_and, and_false, not_true_eq_false, not_false_eq_true] <;> omega)) e_w o_w) mx_X12_isThere ml_X12_351 (by decide) rfl (cells1 := 0) (slots1 := 0) (by decide) (by decide) (Nat.le_of_ble_eq_true rfl) (Nat.le_of_ble_eq_true rfl) rfl (Nat.le_of_ble_eq_true rfl) dX12_lay_29 (fun r_73 L_74 f_75 h_76 => ?_)
        obtain ⟨rfl, rfl, b_77⟩ := h_76
        refine v_if_ne hC dX12_lay_32 (tgt := 38) (by decide) (fun h_80 => ?_) (fun h_80 => ?_)
        · simp only [Int32.lt_iff_toInt_lt, Int32.le_iff_toInt_le, Int32.reduceToInt, ← Int32.toInt_inj] at h_80
          refine v_aload_n hC dX12_lay_38 rfl ?_
          refine v_iload_n hC dX12_lay_39 rfl ?_
          refine v_vv hC (rest := []) m_1 e_45 rfl mi_X12_takes0 ms_X12_takes0 (p_X12_takes0 hW k_0 (by first | omega | (simp only [Int32.lt_iff_toInt_lt, Int32.le_iff_toInt_le, Int32.reduceToInt, ← Int32.toInt_inj, true_and, and_true, or_true, true_or, false_or, or_false, false_and, and_false, not_true_eq_false, not_false_eq_true] <;> omega)) e_w o_w) mx_X12_takes0 ml_X12_363 (by decide) rfl (cells1 := 0) (slots1 := 0) (by decide) (by decide) (Nat.le_of_ble_eq_true rfl) (Nat.le_of_ble_eq_true rfl) rfl (Nat.le_of_ble_eq_true rfl) dX12_lay_40 (fun L_82 f_83 h_84 => ?_)
          obtain ⟨rfl, hW_85, hF_86⟩ := h_84
          have hf_87 := hF_86.at e_w rfl
          have hf_88 := hF_86.at e_45 rfl
          have hf_89 := hF_86.at e_66 rfl
          refine v_iconst hC dX12_lay_43 (v := 0) (by decide) ?_
          refine v_istore_n hC dX12_lay_44 (by decide) (lv' := [(3, .int 0), (0, .ref a_0), (1, .int a_1), (2, .int a_2)]) rfl ?_
          refine v_iconst hC dX12_lay_45 (v := 0) (by decide) ?_
          refine v_istore hC dX12_lay_46 (by decide) (lv' := [(4, .int 0), (3, .int 0), (0, .ref a_0), (1, .int a_1), (2, .int a_2)]) rfl ?_
          refine v_iconst hC dX12_lay_48 (v := 0) (by decide) ?_
          refine v_istore hC dX12_lay_49 (by decide) (lv' := [(5, .int 0), (4, .int 0), (3, .int 0), (0, .ref a_0), (1, .int a_1), (2, .int a_2)]) rfl ?_
          have lp_1381 : ∀ (n_1382 : Nat) (f_1373 : Nat → va_E) (hW_1374 : WT T L f_1373) (hF_1375 : FR [356] f_83 f_1373) (i_1370 : Int32) (b_1379 : (0 ≤ i_1370.toInt ∧ i_1370.toInt ≤ 256)) (i_1371 : Int32) (i_1372 : Int32) (b_1380 : (0 ≤ i_1372.toInt ∧ i_1372.toInt ≤ 60)) (hm_1384 : 256 - i_1370.toInt < (n_1382 : Int)), V z E 7 0 0 L f_1373 51 [(5, .int i_1370), (4, .int i_1371), (3, .int i_1372), (0, .ref a_0), (1, .int a_1), (2, .int a_2)] [] := by
            intro n_1382
            induction n_1382 with
            | zero =>
              intro f_1373 hW_1374 hF_1375 i_1370 b_1379 i_1371 i_1372 b_1380 hm_1384
              have hf_1376 := hF_1375.at hf_87 rfl
              have hf_1377 := hF_1375.at hf_88 rfl
              have hf_1378 := hF_1375.at hf_89 rfl
              exfalso; omega
            | succ n_1382 ih_1383 =>
              intro f_1373 hW_1374 hF_1375 i_1370 b_1379 i_1371 i_1372 b_1380 hm_1384
              have hf_1376 := hF_1375.at hf_87 rfl
              have hf_1377 := hF_1375.at hf_88 rfl
              have hf_1378 := hF_1375.at hf_89 rfl
              refine v_iload hC dX12_lay_51 rfl ?_
              refine v_aload_n hC dX12_lay_53 rfl ?_
              refine v_vi hC (rest := [.int i_1370]) m_1 hf_1377 rfl mi_X12_area ms_X12_area (p_X12_area hW_1374 k_0 hf_1376 o_w) mx_X12_area ml_X12_203 (by decide) rfl (cells1 := 0) (slots1 := 0) (by decide) (by decide) (Nat.le_of_ble_eq_true rfl) (Nat.le_of_ble_eq_true rfl) rfl (Nat.le_of_ble_eq_true rfl) dX12_lay_54 (fun r_1385 L_1386 f_1387 h_1388 => ?_)
              obtain ⟨rfl, rfl, rfl⟩ := h_1388
              have ar_1391 := area_v o_w
              refine v_icmp_ge hC dX12_lay_57 (tgt := 150) (by decide) (fun h_1392 => ?_) (fun h_1392 => ?_)
              · simp only [Int32.lt_iff_toInt_lt, Int32.le_iff_toInt_le, Int32.reduceToInt, ← Int32.toInt_inj] at h_1392
                refine v_aload_n hC dX12_lay_150 rfl ?_
                refine v_iload_n hC dX12_lay_151 rfl ?_
                refine v_vv hC (rest := []) m_1 hf_1377 rfl mi_X12_gives ms_X12_gives (p_X12_gives hW_1374 k_0 (by first | omega | (simp only [Int32.lt_iff_toInt_lt, Int32.le_iff_toInt_le, Int32.reduceToInt, ← Int32.toInt_inj, true_and, and_true, or_true, true_or, false_or, or_false, false_and, and_false, not_true_eq_false, not_false_eq_true] <;> omega)) hf_1376 o_w) mx_X12_gives ml_X12_332 (by decide) rfl (cells1 := 0) (slots1 := 0) (by decide) (by decide) (Nat.le_of_ble_eq_true rfl) (Nat.le_of_ble_eq_true rfl) rfl (Nat.le_of_ble_eq_true rfl) dX12_lay_152 (fun L_1394 f_1395 h_1396 => ?_)
                obtain ⟨rfl, hW_1397, hF_1398⟩ := h_1396
                have hf_1399 := hF_1398.at hf_1377 rfl
                have hf_1400 := hF_1398.at hf_1378 rfl
                refine v_iload hC dX12_lay_155 rfl ?_
                exact hR _ _ _ _ _ _ _ dX12_lay_157 rfl (Nat.le_of_ble_eq_true rfl) (Nat.le_of_ble_eq_true rfl) ⟨rfl, hW_1397, (((hF_86.tr hF_1375).tr hF_1398).mono rfl), (.inr (by first | omega | (simp only [Int32.lt_iff_toInt_lt, Int32.le_iff_toInt_le, Int32.reduceToInt, ← Int32.toInt_inj, true_and, and_true, or_true, true_or, false_or, or_false, false_and, and_false, not_true_eq_false, not_false_eq_true] <;> omega))), (.inr (by first | omega | (simp only [Int32.lt_iff_toInt_lt, Int32.le_iff_toInt_le, Int32.reduceToInt, ← Int32.toInt_inj, true_and, and_true, or_true, true_or, false_or, or_false, false_and, and_false, not_true_eq_false, not_false_eq_true] <;> omega)))⟩
              · simp only [Int32.lt_iff_toInt_lt, Int32.le_iff_toInt_le, Int32.reduceToInt, ← Int32.toInt_inj] at h_1392
                refine v_iload_n hC dX12_lay_60 rfl ?_
                refine v_aload_n hC dX12_lay_61 rfl ?_
                refine v_get hC fl_X12_64 m_1 hf_1377 rfl dX12_lay_62 ?_
                refine v_iload_n hC dX12_lay_65 rfl ?_
                obtain ⟨v_1401, h_1402⟩ : ∃ v9 : Int32, g_67 (a_1 : Int32).toNatClampNeg = v9 := ⟨_, rfl⟩
                have b_1403 := ok_68 (a_1 : Int32).toNatClampNeg (clamp_lt (vp_in_iff.mpr (by first | omega | (simp only [Int32.lt_iff_toInt_lt, Int32.le_iff_toInt_le, Int32.reduceToInt, ← Int32.toInt_inj, true_and, and_true, or_true, true_or, false_or, or_false, false_and, and_false, not_true_eq_false, not_false_eq_true] <;> omega))))
                rw [h_1402] at b_1403
                refine v_iald hC m_64 hf_1378 (vp_in_iff.mpr (by first | omega | (simp only [Int32.lt_iff_toInt_lt, Int32.le_iff_toInt_le, Int32.reduceToInt, ← Int32.toInt_inj, true_and, and_true, or_true, true_or, false_or, or_false, false_and, and_false, not_true_eq_false, not_false_eq_true] <;> omega))) h_1402 dX12_lay_66 ?_
                refine v_icmp_ge hC dX12_lay_67 (tgt := 150) (by decide) (fun h_1404 => ?_) (fun h_1404 => ?_)
                · simp only [Int32.lt_iff_toInt_lt, Int32.le_iff_toInt_le, Int32.reduceToInt, ← Int32.toInt_inj] at h_1404
                  refine v_aload_n hC dX12_lay_150 rfl ?_
                  refine v_iload_n hC dX12_lay_151 rfl ?_
                  refine v_vv hC (rest := []) m_1 hf_1377 rfl mi_X12_gives ms_X12_gives (p_X12_gives hW_1374 k_0 (by first | omega | (simp only [Int32.lt_iff_toInt_lt, Int32.le_iff_toInt_le, Int32.reduceToInt, ← Int32.toInt_inj, true_and, and_true, or_true, true_or, false_or, or_false, false_and, and_false, not_true_eq_false, not_false_eq_true] <;> omega)) hf_1376 o_w) mx_X12_gives ml_X12_332 (by decide) rfl (cells1 := 0) (slots1 := 0) (by decide) (by decide) (Nat.le_of_ble_eq_true rfl) (Nat.le_of_ble_eq_true rfl) rfl (Nat.le_of_ble_eq_true rfl) dX12_lay_152 (fun L_1406 f_1407 h_1408 => ?_)
                  obtain ⟨rfl, hW_1409, hF_1410⟩ := h_1408
                  have hf_1411 := hF_1410.at hf_1377 rfl
                  have hf_1412 := hF_1410.at hf_1378 rfl
                  refine v_iload hC dX12_lay_155 rfl ?_
                  exact hR _ _ _ _ _ _ _ dX12_lay_157 rfl (Nat.le_of_ble_eq_true rfl) (Nat.le_of_ble_eq_true rfl) ⟨rfl, hW_1409, (((hF_86.tr hF_1375).tr hF_1410).mono rfl), (.inr (by first | omega | (simp only [Int32.lt_iff_toInt_lt, Int32.le_iff_toInt_le, Int32.reduceToInt, ← Int32.toInt_inj, true_and, and_true, or_true, true_or, false_or, or_false, false_and, and_false, not_true_eq_false, not_false_eq_true] <;> omega))), (.inr (by first | omega | (simp only [Int32.lt_iff_toInt_lt, Int32.le_iff_toInt_le, Int32.reduceToInt, ← Int32.toInt_inj, true_and, and_true, or_true, true_or, false_or, or_false, false_and, and_false, not_true_eq_false, not_false_eq_true] <;> omega)))⟩
                · simp only [Int32.lt_iff_toInt_lt, Int32.le_iff_toInt_le, Int32.reduceToInt, ← Int32.toInt_inj] at h_1404
                  refine v_aload_n hC dX12_lay_70 rfl ?_
                  refine v_iload hC dX12_lay_71 rfl ?_
                  refine v_vi hC (rest := []) m_1 hf_1377 rfl mi_X12_isFree ms_X12_isFree (p_X12_isFree hW_1374 k_0 (by first | omega | (simp only [Int32.lt_iff_toInt_lt, Int32.le_iff_toInt_le, Int32.reduceToInt, ← Int32.toInt_inj, true_and, and_true, or_true, true_or, false_or, or_false, false_and, and_false, not_true_eq_false, not_false_eq_true] <;> omega)) hf_1376 o_w (by first | omega | (simp only [Int32.lt_iff_toInt_lt, Int32.le_iff_toInt_le, Int32.reduceToInt, ← Int32.toInt_inj, true_and, and_true, or_true, true_or, false_or, or_false, false_and, and_false, not_true_eq_false, not_false_eq_true] <;> omega))) mx_X12_isFree ml_X12_206 (by decide) rfl (cells1 := 0) (slots1 := 0) (by decide) (by decide) (Nat.le_of_ble_eq_true rfl) (Nat.le_of_ble_eq_true rfl) rfl (Nat.le_of_ble_eq_true rfl) dX12_lay_73 (fun r_1413 L_1414 f_1415 h_1416 => ?_)
                  obtain ⟨rfl, rfl, b_1417⟩ := h_1416
                  refine v_if_ne hC dX12_lay_76 (tgt := 82) (by decide) (fun h_1420 => ?_) (fun h_1420 => ?_)
                  · simp only [Int32.lt_iff_toInt_lt, Int32.le_iff_toInt_le, Int32.reduceToInt, ← Int32.toInt_inj] at h_1420
                    refine v_aload_n hC dX12_lay_82 rfl ?_
                    refine v_get hC fl_X12_70 m_1 hf_1377 rfl dX12_lay_83 ?_
                    refine v_bipush hC dX12_lay_86 (v := 60) (by decide) ?_
                    refine v_iload_n hC dX12_lay_88 rfl ?_
                    obtain ⟨v_1421, h_1422⟩ : ∃ v9 : Int32, (60 : Int32) * a_1 = v9 := ⟨_, rfl⟩
                    refine v_imul hC dX12_lay_89 h_1422 ?_
                    have h_1423 := mul_v 60 3 180 h_1422 (by decide) (by first | omega | (simp only [Int32.lt_iff_toInt_lt, Int32.le_iff_toInt_le, Int32.reduceToInt, ← Int32.toInt_inj, true_and, and_true, or_true, true_or, false_or, or_false, false_and, and_false, not_true_eq_false, not_false_eq_true] <;> omega)) (by decide) (by decide)
                    try simp only [Int32.reduceToInt] at h_1423
                    refine v_iload_n hC dX12_lay_90 rfl ?_
                    obtain ⟨v_1424, h_1425⟩ : ∃ v9 : Int32, v_1421 + i_1372 = v9 := ⟨_, rfl⟩
                    refine v_iadd hC dX12_lay_91 h_1425 ?_
                    have h_1426 := add_v h_1425 (by first | omega | (simp only [Int32.lt_iff_toInt_lt, Int32.le_iff_toInt_le, Int32.reduceToInt, ← Int32.toInt_inj, true_and, and_true, or_true, true_or, false_or, or_false, false_and, and_false, not_true_eq_false, not_false_eq_true] <;> omega)) (by first | omega | (simp only [Int32.lt_iff_toInt_lt, Int32.le_iff_toInt_le, Int32.reduceToInt, ← Int32.toInt_inj, true_and, and_true, or_true, true_or, false_or, or_false, false_and, and_false, not_true_eq_false, not_false_eq_true] <;> omega))
                    obtain ⟨m_1427, t_1428⟩ := id k_19
                    obtain ⟨g_1430, e_1429⟩ := hW_1374.at m_1427 t_1428
                    obtain ⟨v_1431, h_1432⟩ : ∃ v9 : Int64, g_1430 (v_1424 : Int32).toNatClampNeg = v9 := ⟨_, rfl⟩
                    refine v_lald hC m_1427 e_1429 (vp_in_iff.mpr (by first | omega | (simp only [Int32.lt_iff_toInt_lt, Int32.le_iff_toInt_le, Int32.reduceToInt, ← Int32.toInt_inj, true_and, and_true, or_true, true_or, false_or, or_false, false_and, and_false, not_true_eq_false, not_false_eq_true] <;> omega))) h_1432 dX12_lay_92 ?_
                    refine v_lconst hC dX12_lay_93 (v := 0) (by decide) ?_
                    obtain ⟨v_1433, h_1434⟩ : ∃ v9 : Int32, lg_cmp (v_1431 : Int64) 0 = v9 := ⟨_, rfl⟩
                    refine v_lcmp hC dX12_lay_94 h_1434 ?_
                    have jn_1445 : ∀ (v_1446 : Int32) (b_1447 : ((-2) ≤ v_1446.toInt ∧ v_1446.toInt ≤ 11)), V z E 7 0 0 L f_1373 108 [(5, .int i_1370), (4, .int i_1371), (3, .int i_1372), (0, .ref a_0), (1, .int a_1), (2, .int a_2)] [.int v_1446] := by
                      intro v_1446 b_1447
                      refine v_istore hC dX12_lay_108 (by decide) (lv' := [(6, .int v_1446), (5, .int i_1370), (4, .int i_1371), (3, .int i_1372), (0, .ref a_0), (1, .int a_1), (2, .int a_2)]) rfl ?_
                      obtain ⟨v_1448, h_1449⟩ : ∃ v9 : Int32, i_1372 + Int32.ofInt 1 = v9 := ⟨_, rfl⟩
                      have h_1450 := add_v (b := 1) h_1449 (by first | omega | (simp only [Int32.lt_iff_toInt_lt, Int32.le_iff_toInt_le, Int32.reduceToInt, ← Int32.toInt_inj, true_and, and_true, or_true, true_or, false_or, or_false, false_and, and_false, not_true_eq_false, not_false_eq_true] <;> omega)) (by first | omega | (simp only [Int32.lt_iff_toInt_lt, Int32.le_iff_toInt_le, Int32.reduceToInt, ← Int32.toInt_inj, true_and, and_true, or_true, true_or, false_or, or_false, false_and, and_false, not_true_eq_false, not_false_eq_true] <;> omega))
                      simp only [Int32.reduceToInt] at h_1450
                      refine v_iinc hC dX12_lay_110 (k := 3) rfl (v := v_1448) h_1449 (by decide) (lv' := [(3, .int v_1448), (6, .int v_1446), (5, .int i_1370), (4, .int i_1371), (0, .ref a_0), (1, .int a_1), (2, .int a_2)]) rfl ?_
                      refine v_iload hC dX12_lay_113 rfl ?_
                      refine v_iload hC dX12_lay_115 rfl ?_
                      refine v_aload_n hC dX12_lay_117 rfl ?_
                      refine v_get hC fl_X12_37 m_1 hf_1377 rfl dX12_lay_118 ?_
                      refine v_iload hC dX12_lay_121 rfl ?_
                      obtain ⟨m_1451, t_1452⟩ := id k_9
                      obtain ⟨g_1454, e_1453⟩ := hW_1374.at m_1451 t_1452
                      obtain ⟨v_1455, h_1456⟩ : ∃ v9 : Int32, g_1454 (i_1370 : Int32).toNatClampNeg = v9 := ⟨_, rfl⟩
                      refine v_iald hC m_1451 e_1453 (vp_in_iff.mpr (by first | omega | (simp only [Int32.lt_iff_toInt_lt, Int32.le_iff_toInt_le, Int32.reduceToInt, ← Int32.toInt_inj, true_and, and_true, or_true, true_or, false_or, or_false, false_and, and_false, not_true_eq_false, not_false_eq_true] <;> omega))) h_1456 dX12_lay_123 ?_
                      refine v_icmp_ne hC dX12_lay_124 (tgt := 131) (by decide) (fun h_1457 => ?_) (fun h_1457 => ?_)
                      · simp only [Int32.lt_iff_toInt_lt, Int32.le_iff_toInt_le, Int32.reduceToInt, ← Int32.toInt_inj] at h_1457
                        refine v_iconst hC dX12_lay_131 (v := 1) (by decide) ?_
                        obtain ⟨v_1458, h_1459⟩ : ∃ v9 : Int32, i_1371 + 1 = v9 := ⟨_, rfl⟩
                        refine v_iadd hC dX12_lay_132 h_1459 ?_
                        refine v_istore hC dX12_lay_133 (by decide) (lv' := [(4, .int v_1458), (3, .int v_1448), (6, .int v_1446), (5, .int i_1370), (0, .ref a_0), (1, .int a_1), (2, .int a_2)]) rfl ?_
                        refine v_aload_n hC dX12_lay_135 rfl ?_
                        refine v_get hC fl_X12_37 m_1 hf_1377 rfl dX12_lay_136 ?_
                        refine v_iload hC dX12_lay_139 rfl ?_
                        refine v_iload hC dX12_lay_141 rfl ?_
                        refine v_iast hC m_1451 e_1453 (vp_in_iff.mpr (by first | omega | (simp only [Int32.lt_iff_toInt_lt, Int32.le_iff_toInt_le, Int32.reduceToInt, ← Int32.toInt_inj, true_and, and_true, or_true, true_or, false_or, or_false, false_and, and_false, not_true_eq_false, not_false_eq_true] <;> omega))) dX12_lay_143 (fun f_1461 hf_1462 hk_1463 => ?_)
                        have hW_1465 := hW_1374.up hf_1462 hk_1463 t_1452 ⟨_, rfl⟩
                        obtain ⟨g_1464, hf_1462⟩ : ∃ g9, f_1461 (q 15) = aI E 256 g9 := ⟨_, hf_1462⟩
                        have hf_1466 := (hk_1463 (q 1) (ne_kd hf_1376 e_1453 rfl)).trans hf_1376
                        have hf_1467 := (hk_1463 a_0 (ne_kd hf_1377 e_1453 rfl)).trans hf_1377
                        have hf_1468 := (hk_1463 (q 25) (ne_kd hf_1378 e_1453 rfl)).trans hf_1378
                        have hf_1469 := (hk_1463 (q 27) (ne_kd e_1429 e_1453 rfl)).trans e_1429
                        have fr_1470 := FR.w hk_1463 e_1453 (k := 356) rfl
                        obtain ⟨v_1471, h_1472⟩ : ∃ v9 : Int32, i_1370 + Int32.ofInt 1 = v9 := ⟨_, rfl⟩
                        have h_1473 := add_v (b := 1) h_1472 (by first | omega | (simp only [Int32.lt_iff_toInt_lt, Int32.le_iff_toInt_le, Int32.reduceToInt, ← Int32.toInt_inj, true_and, and_true, or_true, true_or, false_or, or_false, false_and, and_false, not_true_eq_false, not_false_eq_true] <;> omega)) (by first | omega | (simp only [Int32.lt_iff_toInt_lt, Int32.le_iff_toInt_le, Int32.reduceToInt, ← Int32.toInt_inj, true_and, and_true, or_true, true_or, false_or, or_false, false_and, and_false, not_true_eq_false, not_false_eq_true] <;> omega))
                        simp only [Int32.reduceToInt] at h_1473
                        refine v_iinc hC dX12_lay_144 (k := 3) rfl (v := v_1471) h_1472 (by decide) (lv' := [(5, .int v_1471), (4, .int v_1458), (3, .int v_1448), (6, .int v_1446), (0, .ref a_0), (1, .int a_1), (2, .int a_2)]) rfl ?_
                        refine v_goto hC dX12_lay_147 (tgt := 51) (by decide) ?_
                        refine v_pick [0, 1, 2, 4, 5, 6] rfl ?_
                        exact ih_1383 f_1461 hW_1465 ((hF_1375.tr fr_1470).mono rfl) v_1471 (by first | omega | (simp only [Int32.lt_iff_toInt_lt, Int32.le_iff_toInt_le, Int32.reduceToInt, ← Int32.toInt_inj, true_and, and_true, or_true, true_or, false_or, or_false, false_and, and_false, not_true_eq_false, not_false_eq_true] <;> omega)) v_1458 v_1448 (by first | omega | (simp only [Int32.lt_iff_toInt_lt, Int32.le_iff_toInt_le, Int32.reduceToInt, ← Int32.toInt_inj, true_and, and_true, or_true, true_or, false_or, or_false, false_and, and_false, not_true_eq_false, not_false_eq_true] <;> omega)) (by first | omega | (simp only [Int32.lt_iff_toInt_lt, Int32.le_iff_toInt_le, Int32.reduceToInt, ← Int32.toInt_inj, true_and, and_true, or_true, true_or, false_or, or_false, false_and, and_false, not_true_eq_false, not_false_eq_true] <;> omega))
                      · simp only [Int32.lt_iff_toInt_lt, Int32.le_iff_toInt_le, Int32.reduceToInt, ← Int32.toInt_inj] at h_1457
                        refine v_iconst hC dX12_lay_127 (v := 0) (by decide) ?_
                        refine v_goto hC dX12_lay_128 (tgt := 132) (by decide) ?_
                        obtain ⟨v_1474, h_1475⟩ : ∃ v9 : Int32, i_1371 + 0 = v9 := ⟨_, rfl⟩
                        refine v_iadd hC dX12_lay_132 h_1475 ?_
                        have rg_1477 := Int32.toInt_lt i_1371
                        have rg_1478 := Int32.le_toInt i_1371
                        have h_1476 := add_v h_1475 (by first | omega | (simp only [Int32.lt_iff_toInt_lt, Int32.le_iff_toInt_le, Int32.reduceToInt, ← Int32.toInt_inj, true_and, and_true, or_true, true_or, false_or, or_false, false_and, and_false, not_true_eq_false, not_false_eq_true] <;> omega)) (by first | omega | (simp only [Int32.lt_iff_toInt_lt, Int32.le_iff_toInt_le, Int32.reduceToInt, ← Int32.toInt_inj, true_and, and_true, or_true, true_or, false_or, or_false, false_and, and_false, not_true_eq_false, not_false_eq_true] <;> omega))
                        try simp only [Int32.reduceToInt] at h_1476
                        refine v_istore hC dX12_lay_133 (by decide) (lv' := [(4, .int v_1474), (3, .int v_1448), (6, .int v_1446), (5, .int i_1370), (0, .ref a_0), (1, .int a_1), (2, .int a_2)]) rfl ?_
                        refine v_aload_n hC dX12_lay_135 rfl ?_
                        refine v_get hC fl_X12_37 m_1 hf_1377 rfl dX12_lay_136 ?_
                        refine v_iload hC dX12_lay_139 rfl ?_
                        refine v_iload hC dX12_lay_141 rfl ?_
                        refine v_iast hC m_1451 e_1453 (vp_in_iff.mpr (by first | omega | (simp only [Int32.lt_iff_toInt_lt, Int32.le_iff_toInt_le, Int32.reduceToInt, ← Int32.toInt_inj, true_and, and_true, or_true, true_or, false_or, or_false, false_and, and_false, not_true_eq_false, not_false_eq_true] <;> omega))) dX12_lay_143 (fun f_1479 hf_1480 hk_1481 => ?_)
                        have hW_1483 := hW_1374.up hf_1480 hk_1481 t_1452 ⟨_, rfl⟩
                        obtain ⟨g_1482, hf_1480⟩ : ∃ g9, f_1479 (q 15) = aI E 256 g9 := ⟨_, hf_1480⟩
                        have hf_1484 := (hk_1481 (q 1) (ne_kd hf_1376 e_1453 rfl)).trans hf_1376
                        have hf_1485 := (hk_1481 a_0 (ne_kd hf_1377 e_1453 rfl)).trans hf_1377
                        have hf_1486 := (hk_1481 (q 25) (ne_kd hf_1378 e_1453 rfl)).trans hf_1378
                        have hf_1487 := (hk_1481 (q 27) (ne_kd e_1429 e_1453 rfl)).trans e_1429
                        have fr_1488 := FR.w hk_1481 e_1453 (k := 356) rfl
                        obtain ⟨v_1489, h_1490⟩ : ∃ v9 : Int32, i_1370 + Int32.ofInt 1 = v9 := ⟨_, rfl⟩
                        have h_1491 := add_v (b := 1) h_1490 (by first | omega | (simp only [Int32.lt_iff_toInt_lt, Int32.le_iff_toInt_le, Int32.reduceToInt, ← Int32.toInt_inj, true_and, and_true, or_true, true_or, false_or, or_false, false_and, and_false, not_true_eq_false, not_false_eq_true] <;> omega)) (by first | omega | (simp only [Int32.lt_iff_toInt_lt, Int32.le_iff_toInt_le, Int32.reduceToInt, ← Int32.toInt_inj, true_and, and_true, or_true, true_or, false_or, or_false, false_and, and_false, not_true_eq_false, not_false_eq_true] <;> omega))
                        simp only [Int32.reduceToInt] at h_1491
                        refine v_iinc hC dX12_lay_144 (k := 3) rfl (v := v_1489) h_1490 (by decide) (lv' := [(5, .int v_1489), (4, .int v_1474), (3, .int v_1448), (6, .int v_1446), (0, .ref a_0), (1, .int a_1), (2, .int a_2)]) rfl ?_
                        refine v_goto hC dX12_lay_147 (tgt := 51) (by decide) ?_
                        refine v_pick [0, 1, 2, 4, 5, 6] rfl ?_
                        exact ih_1383 f_1479 hW_1483 ((hF_1375.tr fr_1488).mono rfl) v_1489 (by first | omega | (simp only [Int32.lt_iff_toInt_lt, Int32.le_iff_toInt_le, Int32.reduceToInt, ← Int32.toInt_inj, true_and, and_true, or_true, true_or, false_or, or_false, false_and, and_false, not_true_eq_false, not_false_eq_true] <;> omega)) v_1474 v_1448 (by first | omega | (simp only [Int32.lt_iff_toInt_lt, Int32.le_iff_toInt_le, Int32.reduceToInt, ← Int32.toInt_inj, true_and, and_true, or_true, true_or, false_or, or_false, false_and, and_false, not_true_eq_false, not_false_eq_true] <;> omega)) (by first | omega | (simp only [Int32.lt_iff_toInt_lt, Int32.le_iff_toInt_le, Int32.reduceToInt, ← Int32.toInt_inj, true_and, and_true, or_true, true_or, false_or, or_false, false_and, and_false, not_true_eq_false, not_false_eq_true] <;> omega))
                    refine v_if_ne hC dX12_lay_95 (tgt := 102) (by decide) (fun h_1435 => ?_) (fun h_1435 => ?_)
                    · have h_1436 := h_1435
                      refine v_aload_n hC dX12_lay_102 rfl ?_
                      refine v_iload hC dX12_lay_103 rfl ?_
                      refine v_vi hC (rest := []) m_1 hf_1377 rfl mi_X12_turnedOf ms_X12_turnedOf (p_X12_turnedOf hW_1374 k_0 (by first | omega | (simp only [Int32.lt_iff_toInt_lt, Int32.le_iff_toInt_le, Int32.reduceToInt, ← Int32.toInt_inj, true_and, and_true, or_true, true_or, false_or, or_false, false_and, and_false, not_true_eq_false, not_false_eq_true] <;> omega)) hf_1376 o_w (by first | omega | (simp only [Int32.lt_iff_toInt_lt, Int32.le_iff_toInt_le, Int32.reduceToInt, ← Int32.toInt_inj, true_and, and_true, or_true, true_or, false_or, or_false, false_and, and_false, not_true_eq_false, not_false_eq_true] <;> omega))) mx_X12_turnedOf ml_X12_314 (by decide) rfl (cells1 := 0) (slots1 := 0) (by decide) (by decide) (Nat.le_of_ble_eq_true rfl) (Nat.le_of_ble_eq_true rfl) rfl (Nat.le_of_ble_eq_true rfl) dX12_lay_105 (fun r_1492 L_1493 f_1494 h_1495 => ?_)
                      obtain ⟨rfl, rfl, b_1496⟩ := h_1495
                      refine v_pick [0, 1, 2, 3, 4, 5] rfl ?_
                      exact jn_1445 r_1492 (by first | omega | (simp only [Int32.lt_iff_toInt_lt, Int32.le_iff_toInt_le, Int32.reduceToInt, ← Int32.toInt_inj, true_and, and_true, or_true, true_or, false_or, or_false, false_and, and_false, not_true_eq_false, not_false_eq_true] <;> omega))
                    · have h_1437 := h_1435
                      refine v_iconst hC dX12_lay_98 (v := 0) (by decide) ?_
                      refine v_goto hC dX12_lay_99 (tgt := 108) (by decide) ?_
                      refine v_pick [0, 1, 2, 3, 4, 5] rfl ?_
                      exact jn_1445 0 (by decide)
                  · simp only [Int32.lt_iff_toInt_lt, Int32.le_iff_toInt_le, Int32.reduceToInt, ← Int32.toInt_inj] at h_1420
                    refine v_goto hC dX12_lay_79 (tgt := 144) (by decide) ?_
                    obtain ⟨v_1499, h_1500⟩ : ∃ v9 : Int32, i_1370 + Int32.ofInt 1 = v9 := ⟨_, rfl⟩
                    have h_1501 := add_v (b := 1) h_1500 (by first | omega | (simp only [Int32.lt_iff_toInt_lt, Int32.le_iff_toInt_le, Int32.reduceToInt, ← Int32.toInt_inj, true_and, and_true, or_true, true_or, false_or, or_false, false_and, and_false, not_true_eq_false, not_false_eq_true] <;> omega)) (by first | omega | (simp only [Int32.lt_iff_toInt_lt, Int32.le_iff_toInt_le, Int32.reduceToInt, ← Int32.toInt_inj, true_and, and_true, or_true, true_or, false_or, or_false, false_and, and_false, not_true_eq_false, not_false_eq_true] <;> omega))
                    simp only [Int32.reduceToInt] at h_1501
                    refine v_iinc hC dX12_lay_144 (k := 0) rfl (v := v_1499) h_1500 (by decide) (lv' := [(5, .int v_1499), (4, .int i_1371), (3, .int i_1372), (0, .ref a_0), (1, .int a_1), (2, .int a_2)]) rfl ?_
                    refine v_goto hC dX12_lay_147 (tgt := 51) (by decide) ?_
                    refine v_pick [0, 1, 2, 3, 4, 5] rfl ?_
                    exact ih_1383 f_1373 hW_1374 (hF_1375.mono rfl) v_1499 (by first | omega | (simp only [Int32.lt_iff_toInt_lt, Int32.le_iff_toInt_le, Int32.reduceToInt, ← Int32.toInt_inj, true_and, and_true, or_true, true_or, false_or, or_false, false_and, and_false, not_true_eq_false, not_false_eq_true] <;> omega)) i_1371 i_1372 (by first | omega | (simp only [Int32.lt_iff_toInt_lt, Int32.le_iff_toInt_le, Int32.reduceToInt, ← Int32.toInt_inj, true_and, and_true, or_true, true_or, false_or, or_false, false_and, and_false, not_true_eq_false, not_false_eq_true] <;> omega)) (by first | omega | (simp only [Int32.lt_iff_toInt_lt, Int32.le_iff_toInt_le, Int32.reduceToInt, ← Int32.toInt_inj, true_and, and_true, or_true, true_or, false_or, or_false, false_and, and_false, not_true_eq_false, not_false_eq_true] <;> omega))
          refine v_pick [0, 1, 2, 3, 4, 5] rfl ?_
          exact lp_1381 258 f_83 hW_85 FR.rf 0 (by decide) 0 0 (by decide) (by decide)
        · simp only [Int32.lt_iff_toInt_lt, Int32.le_iff_toInt_le, Int32.reduceToInt, ← Int32.toInt_inj] at h_80
          refine v_bipush hC dX12_lay_35 (v := (-6)) (by decide) ?_
          exact hR _ _ _ _ _ _ _ dX12_lay_37 rfl (Nat.le_of_ble_eq_true rfl) (Nat.le_of_ble_eq_true rfl) ⟨rfl, hW, FR.rf, (.inl (by decide)), (.inl (by decide))⟩
    · simp only [Int32.lt_iff_toInt_lt, Int32.le_iff_toInt_le, Int32.reduceToInt, ← Int32.toInt_inj] at h_44
      refine v_bipush hC dX12_lay_14 (v := (-2)) (by decide) ?_
      exact hR _ _ _ _ _ _ _ dX12_lay_16 rfl (Nat.le_of_ble_eq_true rfl) (Nat.le_of_ble_eq_true rfl) ⟨rfl, hW, FR.rf, (.inl (by decide)), (.inl (by decide))⟩
