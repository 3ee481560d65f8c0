set_option maxRecDepth 100000 in
set_option maxHeartbeats 8000000 in
theorem p_X3_wear {l : Launch} {E : Ez} {L : List Nat} {f : Nat → va_E} {T : Nat → va_E → Prop} {a_0 : Nat} {a_1 : Nat} {a_2 : Nat} (hW : WT T L f) (k_0 : isLos T L E a_0) (k_1 : isClo T L E a_1) (k_2 : isPat T L E a_2) : CV l yX3_wear cX3_wear 5 2 0 0 E [.ref a_0, .ref a_1, .ref a_2] L f (fun L1 f1 => L = L1 ∧ WT T L f1 ∧ FR [356] f f1) := by
  refine cv_of (by decide) (Nat.le_of_ble_eq_true rfl) (fun z hz hnm hC hR => ?_)
  have hC : Cx z E cX3_wear RX3 5 2 0 0 := hC
  subst hz
  show V z E 5 0 0 L f 0 [(0, .ref a_0), (1, .ref a_1), (2, .ref a_2)] []
  refine v_iconst hC dX3_wear_0 (v := 0) (by decide) ?_
  refine v_istore_n hC dX3_wear_1 (by decide) (lv' := [(3, .int 0), (0, .ref a_0), (1, .ref a_1), (2, .ref a_2)]) rfl ?_
  have lp_2060 : ∀ (n_2061 : Nat) (f_2056 : Nat → va_E) (hW_2057 : WT T L f_2056) (hF_2058 : FR [356] f f_2056) (i_2055 : Int32) (b_2059 : (0 ≤ i_2055.toInt ∧ i_2055.toInt ≤ 12)) (hm_2063 : 12 - i_2055.toInt < (n_2061 : Int)), V z E 5 0 0 L f_2056 2 [(3, .int i_2055), (0, .ref a_0), (1, .ref a_1), (2, .ref a_2)] [] := by
    intro n_2061
    induction n_2061 with
    | zero =>
      intro f_2056 hW_2057 hF_2058 i_2055 b_2059 hm_2063
      exfalso; omega
    | succ n_2061 ih_2062 =>
      intro f_2056 hW_2057 hF_2058 i_2055 b_2059 hm_2063
      refine v_iload_n hC dX3_wear_2 rfl ?_
      refine v_aload_n hC dX3_wear_3 rfl ?_
      obtain ⟨m_2064, q_2066, q_2067, q_2068, t_2065, k_2069, k_2070, k_2071⟩ := id k_0
      obtain ⟨v_2073, e_2072, b_2074⟩ := hW_2057.at m_2064 t_2065
      refine v_get hC fl_X3_27 m_2064 e_2072 rfl dX3_wear_4 ?_
      refine v_icmp_ge hC dX3_wear_7 (tgt := 88) (by decide) (fun h_2075 => ?_) (fun h_2075 => ?_)
      · simp only [Int32.lt_iff_toInt_lt, Int32.le_iff_toInt_le, Int32.reduceToInt, ← Int32.toInt_inj] at h_2075
        exact hR _ _ _ _ _ _ dX3_wear_88 (Nat.le_of_ble_eq_true rfl) (Nat.le_of_ble_eq_true rfl) ⟨rfl, hW_2057, (hF_2058.mono rfl)⟩
      · simp only [Int32.lt_iff_toInt_lt, Int32.le_iff_toInt_le, Int32.reduceToInt, ← Int32.toInt_inj] at h_2075
        refine v_iload_n hC dX3_wear_10 rfl ?_
        refine v_bipush hC dX3_wear_11 (v := 12) (by decide) ?_
        refine v_icmp_ge_f hC dX3_wear_13 (tgt := 88) (by decide) (by first | omega | (simp only [Int32.lt_iff_toInt_lt, Int32.le_iff_toInt_le, Int32.reduceToInt, ← Int32.toInt_inj, true_and, and_true, or_true, true_or, false_or, or_false, false_and, and_false, not_true_eq_false, not_false_eq_true] <;> omega)) ?_
        refine v_iconst hC dX3_wear_16 (v := 0) (by decide) ?_
        refine v_istore hC dX3_wear_17 (by decide) (lv' := [(4, .int 0), (3, .int i_2055), (0, .ref a_0), (1, .ref a_1), (2, .ref a_2)]) rfl ?_
        have lp_2476 : ∀ (n_2477 : Nat) (f_2471 : Nat → va_E) (hW_2472 : WT T L f_2471) (hF_2473 : FR [356] f_2056 f_2471) (i_2470 : Int32) (b_2475 : (0 ≤ i_2470.toInt ∧ i_2470.toInt ≤ 256)) (hm_2479 : 256 - i_2470.toInt < (n_2477 : Int)), V z E 5 0 0 L f_2471 19 [(4, .int i_2470), (3, .int i_2055), (0, .ref a_0), (1, .ref a_1), (2, .ref a_2)] [] := by
          intro n_2477
          induction n_2477 with
          | zero =>
            intro f_2471 hW_2472 hF_2473 i_2470 b_2475 hm_2479
            have hf_2474 := hF_2473.at e_2072 rfl
            exfalso; omega
          | succ n_2477 ih_2478 =>
            intro f_2471 hW_2472 hF_2473 i_2470 b_2475 hm_2479
            have hf_2474 := hF_2473.at e_2072 rfl
            refine v_iload hC dX3_wear_19 rfl ?_
            refine v_aload_n hC dX3_wear_21 rfl ?_
            obtain ⟨m_2480, q_2482, q_2483, t_2481, k_2484, k_2485⟩ := id k_2
            obtain ⟨v_2487, v_2489, v_2491, e_2486, b_2488, b_2490, b_2492⟩ := hW_2472.at m_2480 t_2481
            refine v_vi hC (rest := [.int i_2470]) m_2480 e_2486 rfl mi_X4_places ms_X4_places (p_X4_places hW_2472 k_2) mx_X4_places ml_X3_86 (by decide) rfl (cells1 := 0) (slots1 := 0) (by decide) (by decide) (Nat.le_of_ble_eq_true rfl) (Nat.le_of_ble_eq_true rfl) rfl (Nat.le_of_ble_eq_true rfl) dX3_wear_22 (fun r_2493 L_2494 f_2495 h_2496 => ?_)
            obtain ⟨rfl, rfl, b_2497⟩ := h_2496
            refine v_icmp_ge hC dX3_wear_25 (tgt := 82) (by decide) (fun h_2500 => ?_) (fun h_2500 => ?_)
            · simp only [Int32.lt_iff_toInt_lt, Int32.le_iff_toInt_le, Int32.reduceToInt, ← Int32.toInt_inj] at h_2500
              obtain ⟨v_2501, h_2502⟩ : ∃ v9 : Int32, i_2055 + Int32.ofInt 1 = v9 := ⟨_, rfl⟩
              have h_2503 := add_v (b := 1) h_2502 (by first | omega | (simp only [Int32.lt_iff_toInt_lt, Int32.le_iff_toInt_le, Int32.reduceToInt, ← Int32.toInt_inj, true_and, and_true, or_true, true_or, false_or, or_false, false_and, and_false, not_true_eq_false, not_false_eq_true] <;> omega)) (by first | omega | (simp only [Int32.lt_iff_toInt_lt, Int32.le_iff_toInt_le, Int32.reduceToInt, ← Int32.toInt_inj, true_and, and_true, or_true, true_or, false_or, or_false, false_and, and_false, not_true_eq_false, not_false_eq_true] <;> omega))
              simp only [Int32.reduceToInt] at h_2503
              refine v_iinc hC dX3_wear_82 (k := 1) rfl (v := v_2501) h_2502 (by decide) (lv' := [(3, .int v_2501), (4, .int i_2470), (0, .ref a_0), (1, .ref a_1), (2, .ref a_2)]) rfl ?_
              refine v_goto hC dX3_wear_85 (tgt := 2) (by decide) ?_
              refine v_pick [0, 2, 3, 4] rfl ?_
              exact ih_2062 f_2471 hW_2472 ((hF_2058.tr hF_2473).mono rfl) v_2501 (by first | omega | (simp only [Int32.lt_iff_toInt_lt, Int32.le_iff_toInt_le, Int32.reduceToInt, ← Int32.toInt_inj, true_and, and_true, or_true, true_or, false_or, or_false, false_and, and_false, not_true_eq_false, not_false_eq_true] <;> omega)) (by first | omega | (simp only [Int32.lt_iff_toInt_lt, Int32.le_iff_toInt_le, Int32.reduceToInt, ← Int32.toInt_inj, true_and, and_true, or_true, true_or, false_or, or_false, false_and, and_false, not_true_eq_false, not_false_eq_true] <;> omega))
            · simp only [Int32.lt_iff_toInt_lt, Int32.le_iff_toInt_le, Int32.reduceToInt, ← Int32.toInt_inj] at h_2500
              refine v_aload_n hC dX3_wear_28 rfl ?_
              refine v_iload_n hC dX3_wear_29 rfl ?_
              refine v_iload hC dX3_wear_30 rfl ?_
              refine v_aload_n hC dX3_wear_32 rfl ?_
              refine v_vi hC (rest := []) m_2064 hf_2474 rfl mi_X3_takes ms_X3_takes (p_X3_takes hW_2472 k_0 k_2) mx_X3_takes ml_X3_92 (by decide) rfl (cells1 := 0) (slots1 := 0) (by decide) (by decide) (Nat.le_of_ble_eq_true rfl) (Nat.le_of_ble_eq_true rfl) rfl (Nat.le_of_ble_eq_true rfl) dX3_wear_33 (fun r_2504 L_2505 f_2506 h_2507 => ?_)
              obtain ⟨rfl, rfl, b_2508, h_2509⟩ := h_2507
              refine v_if_eq hC dX3_wear_36 (tgt := 49) (by decide) (fun h_2512 => ?_) (fun h_2512 => ?_)
              · simp only [Int32.lt_iff_toInt_lt, Int32.le_iff_toInt_le, Int32.reduceToInt, ← Int32.toInt_inj] at h_2512
                refine v_aload_n hC dX3_wear_49 rfl ?_
                refine v_get hC fl_X3_9 m_2064 hf_2474 rfl dX3_wear_50 ?_
                refine v_iload_n hC dX3_wear_53 rfl ?_
                obtain ⟨m_2513, t_2514⟩ := id k_2069
                obtain ⟨g_2516, e_2515⟩ := hW_2472.at m_2513 t_2514
                obtain ⟨v_2517, h_2518⟩ : ∃ v9 : Int32, g_2516 (i_2055 : Int32).toNatClampNeg = v9 := ⟨_, rfl⟩
                refine v_iald hC m_2513 e_2515 (vp_in_iff.mpr (by first | omega | (simp only [Int32.lt_iff_toInt_lt, Int32.le_iff_toInt_le, Int32.reduceToInt, ← Int32.toInt_inj, true_and, and_true, or_true, true_or, false_or, or_false, false_and, and_false, not_true_eq_false, not_false_eq_true] <;> omega))) h_2518 dX3_wear_54 ?_
                refine v_iconst hC dX3_wear_55 (v := 3) (by decide) ?_
                refine v_icmp_ne hC dX3_wear_56 (tgt := 76) (by decide) (fun h_2519 => ?_) (fun h_2519 => ?_)
                · simp only [Int32.lt_iff_toInt_lt, Int32.le_iff_toInt_le, Int32.reduceToInt, ← Int32.toInt_inj] at h_2519
                  obtain ⟨v_2520, h_2521⟩ : ∃ v9 : Int32, i_2470 + Int32.ofInt 1 = v9 := ⟨_, rfl⟩
                  have h_2522 := add_v (b := 1) h_2521 (by first | omega | (simp only [Int32.lt_iff_toInt_lt, Int32.le_iff_toInt_le, Int32.reduceToInt, ← Int32.toInt_inj, true_and, and_true, or_true, true_or, false_or, or_false, false_and, and_false, not_true_eq_false, not_false_eq_true] <;> omega)) (by first | omega | (simp only [Int32.lt_iff_toInt_lt, Int32.le_iff_toInt_le, Int32.reduceToInt, ← Int32.toInt_inj, true_and, and_true, or_true, true_or, false_or, or_false, false_and, and_false, not_true_eq_false, not_false_eq_true] <;> omega))
                  simp only [Int32.reduceToInt] at h_2522
                  refine v_iinc hC dX3_wear_76 (k := 0) rfl (v := v_2520) h_2521 (by decide) (lv' := [(4, .int v_2520), (3, .int i_2055), (0, .ref a_0), (1, .ref a_1), (2, .ref a_2)]) rfl ?_
                  refine v_goto hC dX3_wear_79 (tgt := 19) (by decide) ?_
                  refine v_pick [0, 1, 2, 3, 4] rfl ?_
                  exact ih_2478 f_2471 hW_2472 (hF_2473.mono rfl) v_2520 (by first | omega | (simp only [Int32.lt_iff_toInt_lt, Int32.le_iff_toInt_le, Int32.reduceToInt, ← Int32.toInt_inj, true_and, and_true, or_true, true_or, false_or, or_false, false_and, and_false, not_true_eq_false, not_false_eq_true] <;> omega)) (by first | omega | (simp only [Int32.lt_iff_toInt_lt, Int32.le_iff_toInt_le, Int32.reduceToInt, ← Int32.toInt_inj, true_and, and_true, or_true, true_or, false_or, or_false, false_and, and_false, not_true_eq_false, not_false_eq_true] <;> omega))
                · simp only [Int32.lt_iff_toInt_lt, Int32.le_iff_toInt_le, Int32.reduceToInt, ← Int32.toInt_inj] at h_2519
                  refine v_aload_n hC dX3_wear_59 rfl ?_
                  refine v_iload hC dX3_wear_60 rfl ?_
                  obtain ⟨m_2523, q_2525, t_2524, k_2526⟩ := id k_1
                  obtain ⟨v_2528, e_2527, b_2529⟩ := hW_2472.at m_2523 t_2524
                  refine v_vi hC (rest := []) m_2523 e_2527 rfl mi_X1_stitchAt ms_X1_stitchAt (p_X1_stitchAt hW_2472 k_1) mx_X1_stitchAt ml_X3_102 (by decide) rfl (cells1 := 0) (slots1 := 0) (by decide) (by decide) (Nat.le_of_ble_eq_true rfl) (Nat.le_of_ble_eq_true rfl) rfl (Nat.le_of_ble_eq_true rfl) dX3_wear_62 (fun r_2530 L_2531 f_2532 h_2533 => ?_)
                  obtain ⟨rfl, rfl, h_2534⟩ := h_2533
                  refine v_iconst hC dX3_wear_65 (v := 2) (by decide) ?_
                  refine v_icmp_ne hC dX3_wear_66 (tgt := 76) (by decide) (fun h_2537 => ?_) (fun h_2537 => ?_)
                  · simp only [Int32.lt_iff_toInt_lt, Int32.le_iff_toInt_le, Int32.reduceToInt, ← Int32.toInt_inj] at h_2537
                    obtain ⟨v_2538, h_2539⟩ : ∃ v9 : Int32, i_2470 + Int32.ofInt 1 = v9 := ⟨_, rfl⟩
                    have h_2540 := add_v (b := 1) h_2539 (by first | omega | (simp only [Int32.lt_iff_toInt_lt, Int32.le_iff_toInt_le, Int32.reduceToInt, ← Int32.toInt_inj, true_and, and_true, or_true, true_or, false_or, or_false, false_and, and_false, not_true_eq_false, not_false_eq_true] <;> omega)) (by first | omega | (simp only [Int32.lt_iff_toInt_lt, Int32.le_iff_toInt_le, Int32.reduceToInt, ← Int32.toInt_inj, true_and, and_true, or_true, true_or, false_or, or_false, false_and, and_false, not_true_eq_false, not_false_eq_true] <;> omega))
                    simp only [Int32.reduceToInt] at h_2540
                    refine v_iinc hC dX3_wear_76 (k := 0) rfl (v := v_2538) h_2539 (by decide) (lv' := [(4, .int v_2538), (3, .int i_2055), (0, .ref a_0), (1, .ref a_1), (2, .ref a_2)]) rfl ?_
                    refine v_goto hC dX3_wear_79 (tgt := 19) (by decide) ?_
                    refine v_pick [0, 1, 2, 3, 4] rfl ?_
                    exact ih_2478 f_2471 hW_2472 (hF_2473.mono rfl) v_2538 (by first | omega | (simp only [Int32.lt_iff_toInt_lt, Int32.le_iff_toInt_le, Int32.reduceToInt, ← Int32.toInt_inj, true_and, and_true, or_true, true_or, false_or, or_false, false_and, and_false, not_true_eq_false, not_false_eq_true] <;> omega)) (by first | omega | (simp only [Int32.lt_iff_toInt_lt, Int32.le_iff_toInt_le, Int32.reduceToInt, ← Int32.toInt_inj, true_and, and_true, or_true, true_or, false_or, or_false, false_and, and_false, not_true_eq_false, not_false_eq_true] <;> omega))
                  · simp only [Int32.lt_iff_toInt_lt, Int32.le_iff_toInt_le, Int32.reduceToInt, ← Int32.toInt_inj] at h_2537
                    refine v_aload_n hC dX3_wear_69 rfl ?_
                    refine v_iload hC dX3_wear_70 rfl ?_
                    refine v_iconst hC dX3_wear_72 (v := 0) (by decide) ?_
                    refine v_vv hC (rest := []) m_2523 e_2527 rfl mi_X1_setStitch ms_X1_setStitch (p_X1_setStitch hW_2472 k_1) mx_X1_setStitch ml_X3_96 (by decide) rfl (cells1 := 0) (slots1 := 0) (by decide) (by decide) (Nat.le_of_ble_eq_true rfl) (Nat.le_of_ble_eq_true rfl) rfl (Nat.le_of_ble_eq_true rfl) dX3_wear_73 (fun L_2542 f_2543 h_2544 => ?_)
                    obtain ⟨rfl, hW_2545, hF_2546⟩ := h_2544
                    have hf_2547 := hF_2546.at hf_2474 rfl
                    have hf_2548 := hF_2546.at e_2486 rfl
                    have hf_2549 := hF_2546.at e_2515 rfl
                    have hf_2550 := hF_2546.at e_2527 rfl
                    obtain ⟨v_2551, h_2552⟩ : ∃ v9 : Int32, i_2470 + Int32.ofInt 1 = v9 := ⟨_, rfl⟩
                    have h_2553 := add_v (b := 1) h_2552 (by first | omega | (simp only [Int32.lt_iff_toInt_lt, Int32.le_iff_toInt_le, Int32.reduceToInt, ← Int32.toInt_inj, true_and, and_true, or_true, true_or, false_or, or_false, false_and, and_false, not_true_eq_false, not_false_eq_true] <;> omega)) (by first | omega | (simp only [Int32.lt_iff_toInt_lt, Int32.le_iff_toInt_le, Int32.reduceToInt, ← Int32.toInt_inj, true_and, and_true, or_true, true_or, false_or, or_false, false_and, and_false, not_true_eq_false, not_false_eq_true] <;> omega))
                    simp only [Int32.reduceToInt] at h_2553
                    refine v_iinc hC dX3_wear_76 (k := 0) rfl (v := v_2551) h_2552 (by decide) (lv' := [(4, .int v_2551), (3, .int i_2055), (0, .ref a_0), (1, .ref a_1), (2, .ref a_2)]) rfl ?_
                    refine v_goto hC dX3_wear_79 (tgt := 19) (by decide) ?_
                    refine v_pick [0, 1, 2, 3, 4] rfl ?_
                    exact ih_2478 f_2543 hW_2545 ((hF_2473.tr hF_2546).mono rfl) v_2551 (by first | omega | (simp only [Int32.lt_iff_toInt_lt, Int32.le_iff_toInt_le, Int32.reduceToInt, ← Int32.toInt_inj, true_and, and_true, or_true, true_or, false_or, or_false, false_and, and_false, not_true_eq_false, not_false_eq_true] <;> omega)) (by first | omega | (simp only [Int32.lt_iff_toInt_lt, Int32.le_iff_toInt_le, Int32.reduceToInt, ← Int32.toInt_inj, true_and, and_true, or_true, true_or, false_or, or_false, false_and, and_false, not_true_eq_false, not_false_eq_true] <;> omega))
              · simp only [Int32.lt_iff_toInt_lt, Int32.le_iff_toInt_le, Int32.reduceToInt, ← Int32.toInt_inj] at h_2512
                refine v_aload_n hC dX3_wear_39 rfl ?_
                refine v_iload hC dX3_wear_40 rfl ?_
                refine v_iconst hC dX3_wear_42 (v := 4) (by decide) ?_
                obtain ⟨m_2554, q_2556, t_2555, k_2557⟩ := id k_1
                obtain ⟨v_2559, e_2558, b_2560⟩ := hW_2472.at m_2554 t_2555
                refine v_vv hC (rest := []) m_2554 e_2558 rfl mi_X1_setStitch ms_X1_setStitch (p_X1_setStitch hW_2472 k_1) mx_X1_setStitch ml_X3_96 (by decide) rfl (cells1 := 0) (slots1 := 0) (by decide) (by decide) (Nat.le_of_ble_eq_true rfl) (Nat.le_of_ble_eq_true rfl) rfl (Nat.le_of_ble_eq_true rfl) dX3_wear_43 (fun L_2562 f_2563 h_2564 => ?_)
                obtain ⟨rfl, hW_2565, hF_2566⟩ := h_2564
                have hf_2567 := hF_2566.at hf_2474 rfl
                have hf_2568 := hF_2566.at e_2486 rfl
                have hf_2569 := hF_2566.at e_2558 rfl
                refine v_goto hC dX3_wear_46 (tgt := 76) (by decide) ?_
                obtain ⟨v_2570, h_2571⟩ : ∃ v9 : Int32, i_2470 + Int32.ofInt 1 = v9 := ⟨_, rfl⟩
                have h_2572 := add_v (b := 1) h_2571 (by first | omega | (simp only [Int32.lt_iff_toInt_lt, Int32.le_iff_toInt_le, Int32.reduceToInt, ← Int32.toInt_inj, true_and, and_true, or_true, true_or, false_or, or_false, false_and, and_false, not_true_eq_false, not_false_eq_true] <;> omega)) (by first | omega | (simp only [Int32.lt_iff_toInt_lt, Int32.le_iff_toInt_le, Int32.reduceToInt, ← Int32.toInt_inj, true_and, and_true, or_true, true_or, false_or, or_false, false_and, and_false, not_true_eq_false, not_false_eq_true] <;> omega))
                simp only [Int32.reduceToInt] at h_2572
                refine v_iinc hC dX3_wear_76 (k := 0) rfl (v := v_2570) h_2571 (by decide) (lv' := [(4, .int v_2570), (3, .int i_2055), (0, .ref a_0), (1, .ref a_1), (2, .ref a_2)]) rfl ?_
                refine v_goto hC dX3_wear_79 (tgt := 19) (by decide) ?_
                refine v_pick [0, 1, 2, 3, 4] rfl ?_
                exact ih_2478 f_2563 hW_2565 ((hF_2473.tr hF_2566).mono rfl) v_2570 (by first | omega | (simp only [Int32.lt_iff_toInt_lt, Int32.le_iff_toInt_le, Int32.reduceToInt, ← Int32.toInt_inj, true_and, and_true, or_true, true_or, false_or, or_false, false_and, and_false, not_true_eq_false, not_false_eq_true] <;> omega)) (by first | omega | (simp only [Int32.lt_iff_toInt_lt, Int32.le_iff_toInt_le, Int32.reduceToInt, ← Int32.toInt_inj, true_and, and_true, or_true, true_or, false_or, or_false, false_and, and_false, not_true_eq_false, not_false_eq_true] <;> omega))
        refine v_pick [0, 1, 2, 3, 4] rfl ?_
        exact lp_2476 258 f_2056 hW_2057 FR.rf 0 (by decide) (by decide)
  refine v_pick [0, 1, 2, 3] rfl ?_
  exact lp_2060 14 f hW FR.rf 0 (by decide) (by decide)
set_option maxRecDepth 100000 in
set_option maxHeartbeats 8000000 in
theorem p_X2_takeFrom {l : Launch} {E : Ez} {L : List Nat} {f : Nat → va_E} {T : Nat → va_E → Prop} {a_0 : Nat} {a_1 : Nat} (hW : WT T L f) (k_0 : isLet T L E a_0) (k_1 : isLet T L E a_1) : CV l yX2_takeFrom cX2_takeFrom 2 1 0 0 E [.ref a_0, .ref a_1] L f (fun L1 f1 => L = L1 ∧ WT T L f1 ∧ FR [2, 151] f f1) := by
  refine cv_of (by decide) (Nat.le_of_ble_eq_true rfl) (fun z hz hnm hC hR => ?_)
  have hC : Cx z E cX2_takeFrom RX2 2 1 0 0 := hC
  subst hz
  show V z E 2 0 0 L f 0 [(0, .ref a_0), (1, .ref a_1)] []
  refine v_aload_n hC dX2_takeFrom_0 rfl ?_
  obtain ⟨m_1, q_3, t_2, k_4⟩ := id k_1
  obtain ⟨v_6, e_5, b_7⟩ := hW.at m_1 t_2
  refine v_get hC fl_X2_9 m_1 e_5 rfl dX2_takeFrom_1 ?_
  refine v_iconst hC dX2_takeFrom_4 (v := 0) (by decide) ?_
  refine v_aload_n hC dX2_takeFrom_5 rfl ?_
  obtain ⟨m_8, q_10, t_9, k_11⟩ := id k_0
  obtain ⟨v_13, e_12, b_14⟩ := hW.at m_8 t_9
  refine v_get hC fl_X2_9 m_8 e_12 rfl dX2_takeFrom_6 ?_
  refine v_iconst hC dX2_takeFrom_9 (v := 0) (by decide) ?_
  refine v_bipush hC dX2_takeFrom_10 (v := 51) (by decide) ?_
  obtain ⟨m_15, t_16⟩ := id k_4
  obtain ⟨g_18, e_17⟩ := hW.at m_15 t_16
  obtain ⟨m_19, t_20⟩ := id k_11
  obtain ⟨g_22, e_21⟩ := hW.at m_19 t_20
  refine v_copyi hC mo_X2_15 cp_n_ cp_s_ cp_i_ m_15 e_17 m_19 e_21 (by decide) (by decide) (by decide) (by decide) (by decide) (by decide) (Nat.le_of_ble_eq_true rfl) dX2_takeFrom_12 (fun f_23 hf_24 hk_25 => ?_)
  have hW_26 := hW.up hf_24 hk_25 t_20 ⟨_, rfl⟩
  obtain ⟨g_27, hf_24⟩ : ∃ g9, f_23 q_10 = aI E 51 g9 := ⟨_, hf_24⟩
  have hf_28 := (hk_25 a_1 (ne_kd e_5 e_21 rfl)).trans e_5
  have hf_29 := (hk_25 a_0 (ne_kd e_12 e_21 rfl)).trans e_12
  have fr_30 := FR.w hk_25 e_21 (k := 151) rfl
  refine v_aload_n hC dX2_takeFrom_15 rfl ?_
  refine v_aload_n hC dX2_takeFrom_16 rfl ?_
  refine v_get hC fl_X2_21 m_1 hf_28 rfl dX2_takeFrom_17 ?_
  refine v_put hC fl_X2_21 m_8 hf_29 rfl rfl (Nat.le_of_ble_eq_true rfl) (fs' := [.ref q_10, .int v_6]) rfl dX2_takeFrom_20 (fun f_31 hf_32 hk_33 => ?_)
  have hW_34 := hW_26.up hf_32 hk_33 t_9 ⟨v_6, rfl, (by first | omega | (simp only [Int32.lt_iff_toInt_lt, Int32.le_iff_toInt_le, Int32.reduceToInt, ← Int32.toInt_inj, true_and, and_true, or_true, true_or, false_or, or_false, false_and, and_false, not_true_eq_false, not_false_eq_true] <;> omega))⟩
  have hf_35 := (hk_33 q_10 (ne_kd hf_24 hf_29 rfl)).trans hf_24
  have fr_36 := FR.w hk_33 hf_29 (k := 2) rfl
  exact hR _ _ _ _ _ _ dX2_takeFrom_23 (Nat.le_of_ble_eq_true rfl) (Nat.le_of_ble_eq_true rfl) ⟨rfl, hW_34, ((fr_30.tr fr_36).mono rfl)⟩
set_option maxRecDepth 100000 in
set_option maxHeartbeats 8000000 in
theorem p_X2_add {l : Launch} {E : Ez} {L : List Nat} {f : Nat → va_E} {T : Nat → va_E → Prop} {a_0 : Nat} {a_1 : Int32} (hW : WT T L f) (k_0 : isLet T L E a_0) : CV l yX2_add cX2_add 2 0 0 0 E [.ref a_0, .int a_1] L f (fun L1 f1 => L = L1 ∧ WT T L f1 ∧ FR [2, 151] f f1) := by
  refine cv_of (by decide) (Nat.le_of_ble_eq_true rfl) (fun z hz hnm hC hR => ?_)
  have hC : Cx z E cX2_add RX2 2 0 0 0 := hC
  subst hz
  show V z E 2 0 0 L f 0 [(0, .ref a_0), (1, .int a_1)] []
  refine v_aload_n hC dX2_add_0 rfl ?_
  obtain ⟨m_1, q_3, t_2, k_4⟩ := id k_0
  obtain ⟨v_6, e_5, b_7⟩ := hW.at m_1 t_2
  refine v_get hC fl_X2_21 m_1 e_5 rfl dX2_add_1 ?_
  refine v_bipush hC dX2_add_4 (v := 51) (by decide) ?_
  refine v_icmp_ge hC dX2_add_6 (tgt := 29) (by decide) (fun h_8 => ?_) (fun h_8 => ?_)
  · simp only [Int32.lt_iff_toInt_lt, Int32.le_iff_toInt_le, Int32.reduceToInt, ← Int32.toInt_inj] at h_8
    exact hR _ _ _ _ _ _ dX2_add_29 (Nat.le_of_ble_eq_true rfl) (Nat.le_of_ble_eq_true rfl) ⟨rfl, hW, FR.rf⟩
  · simp only [Int32.lt_iff_toInt_lt, Int32.le_iff_toInt_le, Int32.reduceToInt, ← Int32.toInt_inj] at h_8
    refine v_aload_n hC dX2_add_9 rfl ?_
    refine v_get hC fl_X2_9 m_1 e_5 rfl dX2_add_10 ?_
    refine v_aload_n hC dX2_add_13 rfl ?_
    refine v_get hC fl_X2_21 m_1 e_5 rfl dX2_add_14 ?_
    refine v_iload_n hC dX2_add_17 rfl ?_
    obtain ⟨m_9, t_10⟩ := id k_4
    obtain ⟨g_12, e_11⟩ := hW.at m_9 t_10
    refine v_iast hC m_9 e_11 (vp_in_iff.mpr (by first | omega | (simp only [Int32.lt_iff_toInt_lt, Int32.le_iff_toInt_le, Int32.reduceToInt, ← Int32.toInt_inj, true_and, and_true, or_true, true_or, false_or, or_false, false_and, and_false, not_true_eq_false, not_false_eq_true] <;> omega))) dX2_add_18 (fun f_13 hf_14 hk_15 => ?_)
    have hW_17 := hW.up hf_14 hk_15 t_10 ⟨_, rfl⟩
    obtain ⟨g_16, hf_14⟩ : ∃ g9, f_13 q_3 = aI E 51 g9 := ⟨_, hf_14⟩
    have hf_18 := (hk_15 a_0 (ne_kd e_5 e_11 rfl)).trans e_5
    have fr_19 := FR.w hk_15 e_11 (k := 151) rfl
    refine v_aload_n hC dX2_add_19 rfl ?_
    refine v_dup hC dX2_add_20 rfl ?_
    refine v_get hC fl_X2_21 m_1 hf_18 rfl dX2_add_21 ?_
    refine v_iconst hC dX2_add_24 (v := 1) (by decide) ?_
    obtain ⟨v_20, h_21⟩ : ∃ v9 : Int32, v_6 + 1 = v9 := ⟨_, rfl⟩
    refine v_iadd hC dX2_add_25 h_21 ?_
    have h_22 := add_v h_21 (by first | omega | (simp only [Int32.lt_iff_toInt_lt, Int32.le_iff_toInt_le, Int32.reduceToInt, ← Int32.toInt_inj, true_and, and_true, or_true, true_or, false_or, or_false, false_and, and_false, not_true_eq_false, not_false_eq_true] <;> omega)) (by first | omega | (simp only [Int32.lt_iff_toInt_lt, Int32.le_iff_toInt_le, Int32.reduceToInt, ← Int32.toInt_inj, true_and, and_true, or_true, true_or, false_or, or_false, false_and, and_false, not_true_eq_false, not_false_eq_true] <;> omega))
    try simp only [Int32.reduceToInt] at h_22
    refine v_put hC fl_X2_21 m_1 hf_18 rfl rfl (Nat.le_of_ble_eq_true rfl) (fs' := [.ref q_3, .int v_20]) rfl dX2_add_26 (fun f_23 hf_24 hk_25 => ?_)
    have hW_26 := hW_17.up hf_24 hk_25 t_2 ⟨v_20, rfl, (by first | omega | (simp only [Int32.lt_iff_toInt_lt, Int32.le_iff_toInt_le, Int32.reduceToInt, ← Int32.toInt_inj, true_and, and_true, or_true, true_or, false_or, or_false, false_and, and_false, not_true_eq_false, not_false_eq_true] <;> omega))⟩
    have hf_27 := (hk_25 q_3 (ne_kd hf_14 hf_18 rfl)).trans hf_14
    have fr_28 := FR.w hk_25 hf_18 (k := 2) rfl
    exact hR _ _ _ _ _ _ dX2_add_29 (Nat.le_of_ble_eq_true rfl) (Nat.le_of_ble_eq_true rfl) ⟨rfl, hW_26, ((fr_19.tr fr_28).mono rfl)⟩
set_option maxRecDepth 100000 in
set_option maxHeartbeats 8000000 in
theorem p_X2_takeTape {l : Launch} {E : Ez} {L : List Nat} {f : Nat → va_E} {T : Nat → va_E → Prop} {a_0 : Nat} {a_1 : Nat} (hW : WT T L f) (k_0 : isLet T L E a_0) (k_1 : isTape T L E a_1) : CV l yX2_takeTape cX2_takeTape 4 1 0 0 E [.ref a_0, .ref a_1] L f (fun L1 f1 => L = L1 ∧ WT T L f1 ∧ FR [2, 151] f f1) := by
  refine cv_of (by decide) (Nat.le_of_ble_eq_true rfl) (fun z hz hnm hC hR => ?_)
  have hC : Cx z E cX2_takeTape RX2 4 1 0 0 := hC
  subst hz
  show V z E 4 0 0 L f 0 [(0, .ref a_0), (1, .ref a_1)] []
  refine v_aload_n hC dX2_takeTape_0 rfl ?_
  refine v_iconst hC dX2_takeTape_1 (v := 0) (by decide) ?_
  obtain ⟨m_1, q_3, t_2, k_4⟩ := id k_0
  obtain ⟨v_6, e_5, b_7⟩ := hW.at m_1 t_2
  refine v_put hC fl_X2_21 m_1 e_5 rfl rfl (Nat.le_of_ble_eq_true rfl) (fs' := [.ref q_3, .int 0]) rfl dX2_takeTape_2 (fun f_8 hf_9 hk_10 => ?_)
  have hW_11 := hW.up hf_9 hk_10 t_2 ⟨0, rfl, (by decide)⟩
  have fr_12 := FR.w hk_10 e_5 (k := 2) rfl
  refine v_iconst hC dX2_takeTape_5 (v := 0) (by decide) ?_
  refine v_istore_n hC dX2_takeTape_6 (by decide) (lv' := [(2, .int 0), (0, .ref a_0), (1, .ref a_1)]) rfl ?_
  have lp_251 : ∀ (n_252 : Nat) (f_247 : Nat → va_E) (hW_248 : WT T L f_247) (hF_249 : FR [2, 151] f_8 f_247) (i_246 : Int32) (b_250 : (0 ≤ i_246.toInt ∧ i_246.toInt ≤ 600)) (hm_254 : 600 - i_246.toInt < (n_252 : Int)), V z E 4 0 0 L f_247 7 [(2, .int i_246), (0, .ref a_0), (1, .ref a_1)] [] := by
    intro n_252
    induction n_252 with
    | zero =>
      intro f_247 hW_248 hF_249 i_246 b_250 hm_254
      exfalso; omega
    | succ n_252 ih_253 =>
      intro f_247 hW_248 hF_249 i_246 b_250 hm_254
      refine v_iload_n hC dX2_takeTape_7 rfl ?_
      refine v_aload_n hC dX2_takeTape_8 rfl ?_
      obtain ⟨m_255, q_257, t_256, k_258⟩ := id k_1
      obtain ⟨v_260, v_262, v_263, v_265, v_267, v_268, e_259, b_261, b_264, b_266⟩ := hW_248.at m_255 t_256
      refine v_getN hC fn_X2_25 m_255 e_259 rfl dX2_takeTape_9 ?_
      refine v_icmp_ge hC dX2_takeTape_12 (tgt := 47) (by decide) (fun h_269 => ?_) (fun h_269 => ?_)
      · simp only [Int32.lt_iff_toInt_lt, Int32.le_iff_toInt_le, Int32.reduceToInt, ← Int32.toInt_inj] at h_269
        exact hR _ _ _ _ _ _ dX2_takeTape_47 (Nat.le_of_ble_eq_true rfl) (Nat.le_of_ble_eq_true rfl) ⟨rfl, hW_248, ((fr_12.tr hF_249).mono rfl)⟩
      · simp only [Int32.lt_iff_toInt_lt, Int32.le_iff_toInt_le, Int32.reduceToInt, ← Int32.toInt_inj] at h_269
        refine v_aload_n hC dX2_takeTape_15 rfl ?_
        refine v_iload_n hC dX2_takeTape_16 rfl ?_
        refine v_vi hC (rest := []) m_255 e_259 rfl mi_X7_byteAt ms_X7_byteAt (p_X7_byteAt hW_248 k_1) mx_X7_byteAt ml_X2_28 (by decide) rfl (cells1 := 0) (slots1 := 0) (by decide) (by decide) (Nat.le_of_ble_eq_true rfl) (Nat.le_of_ble_eq_true rfl) rfl (Nat.le_of_ble_eq_true rfl) dX2_takeTape_17 (fun r_270 L_271 f_272 h_273 => ?_)
        obtain ⟨rfl, rfl, h_274⟩ := h_273
        refine v_istore_n hC dX2_takeTape_20 (by decide) (lv' := [(3, .int r_270), (2, .int i_246), (0, .ref a_0), (1, .ref a_1)]) rfl ?_
        refine v_aload_n hC dX2_takeTape_21 rfl ?_
        refine v_iload_n hC dX2_takeTape_22 rfl ?_
        refine v_bipush hC dX2_takeTape_23 (v := 32) (by decide) ?_
        refine v_icmp_ne hC dX2_takeTape_25 (tgt := 32) (by decide) (fun h_277 => ?_) (fun h_277 => ?_)
        · simp only [Int32.lt_iff_toInt_lt, Int32.le_iff_toInt_le, Int32.reduceToInt, ← Int32.toInt_inj] at h_277
          refine v_iload_n hC dX2_takeTape_32 rfl ?_
          refine v_bipush hC dX2_takeTape_33 (v := 97) (by decide) ?_
          obtain ⟨v_278, h_279⟩ : ∃ v9 : Int32, r_270 - 97 = v9 := ⟨_, rfl⟩
          refine v_isub hC dX2_takeTape_35 h_279 ?_
          refine v_iconst hC dX2_takeTape_36 (v := 1) (by decide) ?_
          obtain ⟨v_281, h_282⟩ : ∃ v9 : Int32, v_278 + 1 = v9 := ⟨_, rfl⟩
          refine v_iadd hC dX2_takeTape_37 h_282 ?_
          obtain ⟨v_285, e_284, b_286⟩ := hW_248.at m_1 t_2
          refine v_vv hC (rest := []) m_1 e_284 rfl mi_X2_add ms_X2_add (p_X2_add hW_248 k_0) mx_X2_add ml_X2_32 (by decide) rfl (cells1 := 0) (slots1 := 0) (by decide) (by decide) (Nat.le_of_ble_eq_true rfl) (Nat.le_of_ble_eq_true rfl) rfl (Nat.le_of_ble_eq_true rfl) dX2_takeTape_38 (fun L_288 f_289 h_290 => ?_)
          obtain ⟨rfl, hW_291, hF_292⟩ := h_290
          have hf_293 := hF_292.at e_259 rfl
          obtain ⟨v_294, h_295⟩ : ∃ v9 : Int32, i_246 + Int32.ofInt 1 = v9 := ⟨_, rfl⟩
          have h_296 := add_v (b := 1) h_295 (by first | omega | (simp only [Int32.lt_iff_toInt_lt, Int32.le_iff_toInt_le, Int32.reduceToInt, ← Int32.toInt_inj, true_and, and_true, or_true, true_or, false_or, or_false, false_and, and_false, not_true_eq_false, not_false_eq_true] <;> omega)) (by first | omega | (simp only [Int32.lt_iff_toInt_lt, Int32.le_iff_toInt_le, Int32.reduceToInt, ← Int32.toInt_inj, true_and, and_true, or_true, true_or, false_or, or_false, false_and, and_false, not_true_eq_false, not_false_eq_true] <;> omega))
          simp only [Int32.reduceToInt] at h_296
          refine v_iinc hC dX2_takeTape_41 (k := 1) rfl (v := v_294) h_295 (by decide) (lv' := [(2, .int v_294), (3, .int r_270), (0, .ref a_0), (1, .ref a_1)]) rfl ?_
          refine v_goto hC dX2_takeTape_44 (tgt := 7) (by decide) ?_
          refine v_pick [0, 2, 3] rfl ?_
          exact ih_253 f_289 hW_291 ((hF_249.tr hF_292).mono rfl) v_294 (by first | omega | (simp only [Int32.lt_iff_toInt_lt, Int32.le_iff_toInt_le, Int32.reduceToInt, ← Int32.toInt_inj, true_and, and_true, or_true, true_or, false_or, or_false, false_and, and_false, not_true_eq_false, not_false_eq_true] <;> omega)) (by first | omega | (simp only [Int32.lt_iff_toInt_lt, Int32.le_iff_toInt_le, Int32.reduceToInt, ← Int32.toInt_inj, true_and, and_true, or_true, true_or, false_or, or_false, false_and, and_false, not_true_eq_false, not_false_eq_true] <;> omega))
        · simp only [Int32.lt_iff_toInt_lt, Int32.le_iff_toInt_le, Int32.reduceToInt, ← Int32.toInt_inj] at h_277
          refine v_iconst hC dX2_takeTape_28 (v := 0) (by decide) ?_
          refine v_goto hC dX2_takeTape_29 (tgt := 38) (by decide) ?_
          obtain ⟨v_298, e_297, b_299⟩ := hW_248.at m_1 t_2
          refine v_vv hC (rest := []) m_1 e_297 rfl mi_X2_add ms_X2_add (p_X2_add hW_248 k_0) mx_X2_add ml_X2_32 (by decide) rfl (cells1 := 0) (slots1 := 0) (by decide) (by decide) (Nat.le_of_ble_eq_true rfl) (Nat.le_of_ble_eq_true rfl) rfl (Nat.le_of_ble_eq_true rfl) dX2_takeTape_38 (fun L_301 f_302 h_303 => ?_)
          obtain ⟨rfl, hW_304, hF_305⟩ := h_303
          have hf_306 := hF_305.at e_259 rfl
          obtain ⟨v_307, h_308⟩ : ∃ v9 : Int32, i_246 + Int32.ofInt 1 = v9 := ⟨_, rfl⟩
          have h_309 := add_v (b := 1) h_308 (by first | omega | (simp only [Int32.lt_iff_toInt_lt, Int32.le_iff_toInt_le, Int32.reduceToInt, ← Int32.toInt_inj, true_and, and_true, or_true, true_or, false_or, or_false, false_and, and_false, not_true_eq_false, not_false_eq_true] <;> omega)) (by first | omega | (simp only [Int32.lt_iff_toInt_lt, Int32.le_iff_toInt_le, Int32.reduceToInt, ← Int32.toInt_inj, true_and, and_true, or_true, true_or, false_or, or_false, false_and, and_false, not_true_eq_false, not_false_eq_true] <;> omega))
          simp only [Int32.reduceToInt] at h_309
          refine v_iinc hC dX2_takeTape_41 (k := 1) rfl (v := v_307) h_308 (by decide) (lv' := [(2, .int v_307), (3, .int r_270), (0, .ref a_0), (1, .ref a_1)]) rfl ?_
          refine v_goto hC dX2_takeTape_44 (tgt := 7) (by decide) ?_
          refine v_pick [0, 2, 3] rfl ?_
          exact ih_253 f_302 hW_304 ((hF_249.tr hF_305).mono rfl) v_307 (by first | omega | (simp only [Int32.lt_iff_toInt_lt, Int32.le_iff_toInt_le, Int32.reduceToInt, ← Int32.toInt_inj, true_and, and_true, or_true, true_or, false_or, or_false, false_and, and_false, not_true_eq_false, not_false_eq_true] <;> omega)) (by first | omega | (simp only [Int32.lt_iff_toInt_lt, Int32.le_iff_toInt_le, Int32.reduceToInt, ← Int32.toInt_inj, true_and, and_true, or_true, true_or, false_or, or_false, false_and, and_false, not_true_eq_false, not_false_eq_true] <;> omega))
  refine v_pick [0, 1, 2] rfl ?_
  exact lp_251 602 f_8 hW_11 FR.rf 0 (by decide) (by decide)
set_option maxRecDepth 100000 in
set_option maxHeartbeats 8000000 in
theorem p_X2_fiveAt {l : Launch} {E : Ez} {L : List Nat} {f : Nat → va_E} {T : Nat → va_E → Prop} {a_0 : Nat} {a_1 : Int32} (hW : WT T L f) (k_0 : isLet T L E a_0) : CI l yX2_fiveAt cX2_fiveAt 2 .int 0 0 0 E [.ref a_0, .int a_1] L f (fun r L1 f1 => L = L1 ∧ f = f1 ∧ (¬ r.toInt = 0 ∨ (0 ≤ a_1.toInt ∧ a_1.toInt ≤ 50))) := by
  refine ci_of (by decide) (Nat.le_of_ble_eq_true rfl) (fun z hz hnm hC hR => ?_)
  have hC : Cx z E cX2_fiveAt RX2 2 0 0 0 := hC
  subst hz
  show V z E 2 0 0 L f 0 [(0, .ref a_0), (1, .int a_1)] []
  refine v_iload_n hC dX2_fiveAt_0 rfl ?_
  refine v_if_lt hC dX2_fiveAt_1 (tgt := 27) (by decide) (fun h_1 => ?_) (fun h_1 => ?_)
  · simp only [Int32.lt_iff_toInt_lt, Int32.le_iff_toInt_le, Int32.reduceToInt, ← Int32.toInt_inj] at h_1
    refine v_iconst hC dX2_fiveAt_27 (v := (-1)) (by decide) ?_
    exact hR _ _ _ _ _ _ _ dX2_fiveAt_28 rfl (Nat.le_of_ble_eq_true rfl) (Nat.le_of_ble_eq_true rfl) ⟨rfl, rfl, (.inl (by decide))⟩
  · simp only [Int32.lt_iff_toInt_lt, Int32.le_iff_toInt_le, Int32.reduceToInt, ← Int32.toInt_inj] at h_1
    refine v_iload_n hC dX2_fiveAt_4 rfl ?_
    refine v_aload_n hC dX2_fiveAt_5 rfl ?_
    obtain ⟨m_2, q_4, t_3, k_5⟩ := id k_0
    obtain ⟨v_7, e_6, b_8⟩ := hW.at m_2 t_3
    refine v_get hC fl_X2_21 m_2 e_6 rfl dX2_fiveAt_6 ?_
    refine v_icmp_ge hC dX2_fiveAt_9 (tgt := 27) (by decide) (fun h_9 => ?_) (fun h_9 => ?_)
    · simp only [Int32.lt_iff_toInt_lt, Int32.le_iff_toInt_le, Int32.reduceToInt, ← Int32.toInt_inj] at h_9
      refine v_iconst hC dX2_fiveAt_27 (v := (-1)) (by decide) ?_
      exact hR _ _ _ _ _ _ _ dX2_fiveAt_28 rfl (Nat.le_of_ble_eq_true rfl) (Nat.le_of_ble_eq_true rfl) ⟨rfl, rfl, (.inl (by decide))⟩
    · simp only [Int32.lt_iff_toInt_lt, Int32.le_iff_toInt_le, Int32.reduceToInt, ← Int32.toInt_inj] at h_9
      refine v_iload_n hC dX2_fiveAt_12 rfl ?_
      refine v_bipush hC dX2_fiveAt_13 (v := 51) (by decide) ?_
      refine v_icmp_ge_f hC dX2_fiveAt_15 (tgt := 27) (by decide) (by first | omega | (simp only [Int32.lt_iff_toInt_lt, Int32.le_iff_toInt_le, Int32.reduceToInt, ← Int32.toInt_inj, true_and, and_true, or_true, true_or, false_or, or_false, false_and, and_false, not_true_eq_false, not_false_eq_true] <;> omega)) ?_
      refine v_aload_n hC dX2_fiveAt_18 rfl ?_
      refine v_get hC fl_X2_9 m_2 e_6 rfl dX2_fiveAt_19 ?_
      refine v_iload_n hC dX2_fiveAt_22 rfl ?_
      obtain ⟨m_10, t_11⟩ := id k_5
      obtain ⟨g_13, e_12⟩ := hW.at m_10 t_11
      obtain ⟨v_14, h_15⟩ : ∃ v9 : Int32, g_13 (a_1 : Int32).toNatClampNeg = v9 := ⟨_, rfl⟩
      refine v_iald hC m_10 e_12 (vp_in_iff.mpr (by first | omega | (simp only [Int32.lt_iff_toInt_lt, Int32.le_iff_toInt_le, Int32.reduceToInt, ← Int32.toInt_inj, true_and, and_true, or_true, true_or, false_or, or_false, false_and, and_false, not_true_eq_false, not_false_eq_true] <;> omega))) h_15 dX2_fiveAt_23 ?_
      refine v_goto hC dX2_fiveAt_24 (tgt := 28) (by decide) ?_
      exact hR _ _ _ _ _ _ _ dX2_fiveAt_28 rfl (Nat.le_of_ble_eq_true rfl) (Nat.le_of_ble_eq_true rfl) ⟨rfl, rfl, (.inr (by first | omega | (simp only [Int32.lt_iff_toInt_lt, Int32.le_iff_toInt_le, Int32.reduceToInt, ← Int32.toInt_inj, true_and, and_true, or_true, true_or, false_or, or_false, false_and, and_false, not_true_eq_false, not_false_eq_true] <;> omega)))⟩
set_option maxRecDepth 100000 in
set_option maxHeartbeats 8000000 in
theorem p_X2_byteOf {l : Launch} {E : Ez} {L : List Nat} {f : Nat → va_E} {T : Nat → va_E → Prop} {a_0 : Nat} {a_1 : Int32} (hW : WT T L f) (k_0 : isLet T L E a_0) : CI l yX2_byteOf cX2_byteOf 3 .int 1 0 0 E [.ref a_0, .int a_1] L f (fun r L1 f1 => L = L1 ∧ f = f1) := by
  refine ci_of (by decide) (Nat.le_of_ble_eq_true rfl) (fun z hz hnm hC hR => ?_)
  have hC : Cx z E cX2_byteOf RX2 3 1 0 0 := hC
  subst hz
  show V z E 3 0 0 L f 0 [(0, .ref a_0), (1, .int a_1)] []
  refine v_aload_n hC dX2_byteOf_0 rfl ?_
  refine v_iload_n hC dX2_byteOf_1 rfl ?_
  obtain ⟨m_1, q_3, t_2, k_4⟩ := id k_0
  obtain ⟨v_6, e_5, b_7⟩ := hW.at m_1 t_2
  refine v_vi hC (rest := []) m_1 e_5 rfl mi_X2_fiveAt ms_X2_fiveAt (p_X2_fiveAt hW k_0) mx_X2_fiveAt ml_X2_36 (by decide) rfl (cells1 := 0) (slots1 := 0) (by decide) (by decide) (Nat.le_of_ble_eq_true rfl) (Nat.le_of_ble_eq_true rfl) rfl (Nat.le_of_ble_eq_true rfl) dX2_byteOf_2 (fun r_8 L_9 f_10 h_11 => ?_)
  obtain ⟨rfl, rfl, h_12⟩ := h_11
  refine v_istore_n hC dX2_byteOf_5 (by decide) (lv' := [(2, .int r_8), (0, .ref a_0), (1, .int a_1)]) rfl ?_
  refine v_iload_n hC dX2_byteOf_6 rfl ?_
  refine v_iconst hC dX2_byteOf_7 (v := (-1)) (by decide) ?_
  refine v_icmp_ne hC dX2_byteOf_8 (tgt := 13) (by decide) (fun h_15 => ?_) (fun h_15 => ?_)
  · simp only [Int32.lt_iff_toInt_lt, Int32.le_iff_toInt_le, Int32.reduceToInt, ← Int32.toInt_inj] at h_15
    refine v_iload_n hC dX2_byteOf_13 rfl ?_
    refine v_bipush hC dX2_byteOf_14 (v := 32) (by decide) ?_
    refine v_icmp_ne hC dX2_byteOf_16 (tgt := 22) (by decide) (fun h_16 => ?_) (fun h_16 => ?_)
    · simp only [Int32.lt_iff_toInt_lt, Int32.le_iff_toInt_le, Int32.reduceToInt, ← Int32.toInt_inj] at h_16
      refine v_iload_n hC dX2_byteOf_22 rfl ?_
      refine v_if_ne hC dX2_byteOf_23 (tgt := 31) (by decide) (fun h_17 => ?_) (fun h_17 => ?_)
      · simp only [Int32.lt_iff_toInt_lt, Int32.le_iff_toInt_le, Int32.reduceToInt, ← Int32.toInt_inj] at h_17
        refine v_bipush hC dX2_byteOf_31 (v := 97) (by decide) ?_
        refine v_iload_n hC dX2_byteOf_33 rfl ?_
        obtain ⟨v_18, h_19⟩ : ∃ v9 : Int32, (97 : Int32) + r_8 = v9 := ⟨_, rfl⟩
        refine v_iadd hC dX2_byteOf_34 h_19 ?_
        refine v_iconst hC dX2_byteOf_35 (v := 1) (by decide) ?_
        obtain ⟨v_21, h_22⟩ : ∃ v9 : Int32, v_18 - 1 = v9 := ⟨_, rfl⟩
        refine v_isub hC dX2_byteOf_36 h_22 ?_
        exact hR _ _ _ _ _ _ _ dX2_byteOf_37 rfl (Nat.le_of_ble_eq_true rfl) (Nat.le_of_ble_eq_true rfl) ⟨rfl, rfl⟩
      · simp only [Int32.lt_iff_toInt_lt, Int32.le_iff_toInt_le, Int32.reduceToInt, ← Int32.toInt_inj] at h_17
        refine v_bipush hC dX2_byteOf_26 (v := 32) (by decide) ?_
        refine v_goto hC dX2_byteOf_28 (tgt := 37) (by decide) ?_
        exact hR _ _ _ _ _ _ _ dX2_byteOf_37 rfl (Nat.le_of_ble_eq_true rfl) (Nat.le_of_ble_eq_true rfl) ⟨rfl, rfl⟩
    · simp only [Int32.lt_iff_toInt_lt, Int32.le_iff_toInt_le, Int32.reduceToInt, ← Int32.toInt_inj] at h_16
      refine v_bipush hC dX2_byteOf_19 (v := 63) (by decide) ?_
      exact hR _ _ _ _ _ _ _ dX2_byteOf_21 rfl (Nat.le_of_ble_eq_true rfl) (Nat.le_of_ble_eq_true rfl) ⟨rfl, rfl⟩
  · simp only [Int32.lt_iff_toInt_lt, Int32.le_iff_toInt_le, Int32.reduceToInt, ← Int32.toInt_inj] at h_15
    refine v_iconst hC dX2_byteOf_11 (v := (-1)) (by decide) ?_
    exact hR _ _ _ _ _ _ _ dX2_byteOf_12 rfl (Nat.le_of_ble_eq_true rfl) (Nat.le_of_ble_eq_true rfl) ⟨rfl, rfl⟩
set_option maxRecDepth 100000 in
set_option maxHeartbeats 8000000 in
theorem p_X2_isSure {l : Launch} {E : Ez} {L : List Nat} {f : Nat → va_E} {T : Nat → va_E → Prop} {a_0 : Nat} (hW : WT T L f) (k_0 : isLet T L E a_0) : CI l yX2_isSure cX2_isSure 2 .boolean 1 0 0 E [.ref a_0] L f (fun r L1 f1 => L = L1 ∧ f = f1 ∧ (0 ≤ r.toInt ∧ r.toInt ≤ 1)) := by
  refine ci_of (by decide) (Nat.le_of_ble_eq_true rfl) (fun z hz hnm hC hR => ?_)
  have hC : Cx z E cX2_isSure RX2 2 1 0 0 := hC
  subst hz
  show V z E 2 0 0 L f 0 [(0, .ref a_0)] []
  refine v_iconst hC dX2_isSure_0 (v := 0) (by decide) ?_
  refine v_istore_n hC dX2_isSure_1 (by decide) (lv' := [(1, .int 0), (0, .ref a_0)]) rfl ?_
  have lp_71 : ∀ (n_72 : Nat) (i_69 : Int32) (b_70 : (0 ≤ i_69.toInt ∧ i_69.toInt ≤ 51)) (hm_74 : 51 - i_69.toInt < (n_72 : Int)), V z E 2 0 0 L f 2 [(1, .int i_69), (0, .ref a_0)] [] := by
    intro n_72
    induction n_72 with
    | zero =>
      intro i_69 b_70 hm_74
      exfalso; omega
    | succ n_72 ih_73 =>
      intro i_69 b_70 hm_74
      refine v_iload_n hC dX2_isSure_2 rfl ?_
      refine v_aload_n hC dX2_isSure_3 rfl ?_
      obtain ⟨m_75, q_77, t_76, k_78⟩ := id k_0
      obtain ⟨v_80, e_79, b_81⟩ := hW.at m_75 t_76
      refine v_get hC fl_X2_21 m_75 e_79 rfl dX2_isSure_4 ?_
      refine v_icmp_ge hC dX2_isSure_7 (tgt := 28) (by decide) (fun h_82 => ?_) (fun h_82 => ?_)
      · simp only [Int32.lt_iff_toInt_lt, Int32.le_iff_toInt_le, Int32.reduceToInt, ← Int32.toInt_inj] at h_82
        refine v_aload_n hC dX2_isSure_28 rfl ?_
        refine v_get hC fl_X2_21 m_75 e_79 rfl dX2_isSure_29 ?_
        refine v_if_le hC dX2_isSure_32 (tgt := 39) (by decide) (fun h_83 => ?_) (fun h_83 => ?_)
        · simp only [Int32.lt_iff_toInt_lt, Int32.le_iff_toInt_le, Int32.reduceToInt, ← Int32.toInt_inj] at h_83
          refine v_iconst hC dX2_isSure_39 (v := 0) (by decide) ?_
          exact hR _ _ _ _ _ _ _ dX2_isSure_40 rfl (Nat.le_of_ble_eq_true rfl) (Nat.le_of_ble_eq_true rfl) ⟨rfl, rfl, (by decide)⟩
        · simp only [Int32.lt_iff_toInt_lt, Int32.le_iff_toInt_le, Int32.reduceToInt, ← Int32.toInt_inj] at h_83
          refine v_iconst hC dX2_isSure_35 (v := 1) (by decide) ?_
          refine v_goto hC dX2_isSure_36 (tgt := 40) (by decide) ?_
          exact hR _ _ _ _ _ _ _ dX2_isSure_40 rfl (Nat.le_of_ble_eq_true rfl) (Nat.le_of_ble_eq_true rfl) ⟨rfl, rfl, (by decide)⟩
      · simp only [Int32.lt_iff_toInt_lt, Int32.le_iff_toInt_le, Int32.reduceToInt, ← Int32.toInt_inj] at h_82
        refine v_aload_n hC dX2_isSure_10 rfl ?_
        refine v_iload_n hC dX2_isSure_11 rfl ?_
        refine v_vi hC (rest := []) m_75 e_79 rfl mi_X2_fiveAt ms_X2_fiveAt (p_X2_fiveAt hW k_0) mx_X2_fiveAt ml_X2_36 (by decide) rfl (cells1 := 0) (slots1 := 0) (by decide) (by decide) (Nat.le_of_ble_eq_true rfl) (Nat.le_of_ble_eq_true rfl) rfl (Nat.le_of_ble_eq_true rfl) dX2_isSure_12 (fun r_84 L_85 f_86 h_87 => ?_)
        obtain ⟨rfl, rfl, h_88⟩ := h_87
        refine v_bipush hC dX2_isSure_15 (v := 32) (by decide) ?_
        refine v_icmp_ne hC dX2_isSure_17 (tgt := 22) (by decide) (fun h_91 => ?_) (fun h_91 => ?_)
        · simp only [Int32.lt_iff_toInt_lt, Int32.le_iff_toInt_le, Int32.reduceToInt, ← Int32.toInt_inj] at h_91
          obtain ⟨v_92, h_93⟩ : ∃ v9 : Int32, i_69 + Int32.ofInt 1 = v9 := ⟨_, rfl⟩
          have h_94 := add_v (b := 1) h_93 (by first | omega | (simp only [Int32.lt_iff_toInt_lt, Int32.le_iff_toInt_le, Int32.reduceToInt, ← Int32.toInt_inj, true_and, and_true, or_true, true_or, false_or, or_false, false_and, and_false, not_true_eq_false, not_false_eq_true] <;> omega)) (by first | omega | (simp only [Int32.lt_iff_toInt_lt, Int32.le_iff_toInt_le, Int32.reduceToInt, ← Int32.toInt_inj, true_and, and_true, or_true, true_or, false_or, or_false, false_and, and_false, not_true_eq_false, not_false_eq_true] <;> omega))
          simp only [Int32.reduceToInt] at h_94
          refine v_iinc hC dX2_isSure_22 (k := 0) rfl (v := v_92) h_93 (by decide) (lv' := [(1, .int v_92), (0, .ref a_0)]) rfl ?_
          refine v_goto hC dX2_isSure_25 (tgt := 2) (by decide) ?_
          refine v_pick [0, 1] rfl ?_
          exact ih_73 v_92 (by first | omega | (simp only [Int32.lt_iff_toInt_lt, Int32.le_iff_toInt_le, Int32.reduceToInt, ← Int32.toInt_inj, true_and, and_true, or_true, true_or, false_or, or_false, false_and, and_false, not_true_eq_false, not_false_eq_true] <;> omega)) (by first | omega | (simp only [Int32.lt_iff_toInt_lt, Int32.le_iff_toInt_le, Int32.reduceToInt, ← Int32.toInt_inj, true_and, and_true, or_true, true_or, false_or, or_false, false_and, and_false, not_true_eq_false, not_false_eq_true] <;> omega))
        · simp only [Int32.lt_iff_toInt_lt, Int32.le_iff_toInt_le, Int32.reduceToInt, ← Int32.toInt_inj] at h_91
          refine v_iconst hC dX2_isSure_20 (v := 0) (by decide) ?_
          exact hR _ _ _ _ _ _ _ dX2_isSure_21 rfl (Nat.le_of_ble_eq_true rfl) (Nat.le_of_ble_eq_true rfl) ⟨rfl, rfl, (by decide)⟩
  refine v_pick [0, 1] rfl ?_
  exact lp_71 53 0 (by decide) (by decide)
set_option maxRecDepth 100000 in
set_option maxHeartbeats 8000000 in
theorem p_X2_isAs {l : Launch} {E : Ez} {L : List Nat} {f : Nat → va_E} {T : Nat → va_E → Prop} {a_0 : Nat} {a_1 : Nat} (hW : WT T L f) (k_0 : isLet T L E a_0) (k_1 : isLet T L E a_1) : CI l yX2_isAs cX2_isAs 3 .boolean 1 0 0 E [.ref a_0, .ref a_1] L f (fun r L1 f1 => L = L1 ∧ f = f1 ∧ (0 ≤ r.toInt ∧ r.toInt ≤ 1)) := by
  refine ci_of (by decide) (Nat.le_of_ble_eq_true rfl) (fun z hz hnm hC hR => ?_)
  have hC : Cx z E cX2_isAs RX2 3 1 0 0 := hC
  subst hz
  show V z E 3 0 0 L f 0 [(0, .ref a_0), (1, .ref a_1)] []
  refine v_aload_n hC dX2_isAs_0 rfl ?_
  obtain ⟨m_1, q_3, t_2, k_4⟩ := id k_0
  obtain ⟨v_6, e_5, b_7⟩ := hW.at m_1 t_2
  refine v_get hC fl_X2_21 m_1 e_5 rfl dX2_isAs_1 ?_
  refine v_aload_n hC dX2_isAs_4 rfl ?_
  obtain ⟨m_8, q_10, t_9, k_11⟩ := id k_1
  obtain ⟨v_13, e_12, b_14⟩ := hW.at m_8 t_9
  refine v_get hC fl_X2_21 m_8 e_12 rfl dX2_isAs_5 ?_
  refine v_icmp_eq hC dX2_isAs_8 (tgt := 13) (by decide) (fun h_15 => ?_) (fun h_15 => ?_)
  · simp only [Int32.lt_iff_toInt_lt, Int32.le_iff_toInt_le, Int32.reduceToInt, ← Int32.toInt_inj] at h_15
    refine v_iconst hC dX2_isAs_13 (v := 0) (by decide) ?_
    refine v_istore_n hC dX2_isAs_14 (by decide) (lv' := [(2, .int 0), (0, .ref a_0), (1, .ref a_1)]) rfl ?_
    have lp_85 : ∀ (n_86 : Nat) (i_83 : Int32) (b_84 : (0 ≤ i_83.toInt ∧ i_83.toInt ≤ 51)) (hm_88 : 51 - i_83.toInt < (n_86 : Int)), V z E 3 0 0 L f 15 [(2, .int i_83), (0, .ref a_0), (1, .ref a_1)] [] := by
      intro n_86
      induction n_86 with
      | zero =>
        intro i_83 b_84 hm_88
        exfalso; omega
      | succ n_86 ih_87 =>
        intro i_83 b_84 hm_88
        refine v_iload_n hC dX2_isAs_15 rfl ?_
        refine v_aload_n hC dX2_isAs_16 rfl ?_
        refine v_get hC fl_X2_21 m_1 e_5 rfl dX2_isAs_17 ?_
        refine v_icmp_ge hC dX2_isAs_20 (tgt := 44) (by decide) (fun h_89 => ?_) (fun h_89 => ?_)
        · simp only [Int32.lt_iff_toInt_lt, Int32.le_iff_toInt_le, Int32.reduceToInt, ← Int32.toInt_inj] at h_89
          refine v_iconst hC dX2_isAs_44 (v := 1) (by decide) ?_
          exact hR _ _ _ _ _ _ _ dX2_isAs_45 rfl (Nat.le_of_ble_eq_true rfl) (Nat.le_of_ble_eq_true rfl) ⟨rfl, rfl, (by decide)⟩
        · simp only [Int32.lt_iff_toInt_lt, Int32.le_iff_toInt_le, Int32.reduceToInt, ← Int32.toInt_inj] at h_89
          refine v_aload_n hC dX2_isAs_23 rfl ?_
          refine v_iload_n hC dX2_isAs_24 rfl ?_
          refine v_vi hC (rest := []) m_1 e_5 rfl mi_X2_fiveAt ms_X2_fiveAt (p_X2_fiveAt hW k_0) mx_X2_fiveAt ml_X2_36 (by decide) rfl (cells1 := 0) (slots1 := 0) (by decide) (by decide) (Nat.le_of_ble_eq_true rfl) (Nat.le_of_ble_eq_true rfl) rfl (Nat.le_of_ble_eq_true rfl) dX2_isAs_25 (fun r_90 L_91 f_92 h_93 => ?_)
          obtain ⟨rfl, rfl, h_94⟩ := h_93
          refine v_aload_n hC dX2_isAs_28 rfl ?_
          refine v_iload_n hC dX2_isAs_29 rfl ?_
          refine v_vi hC (rest := [.int r_90]) m_8 e_12 rfl mi_X2_fiveAt ms_X2_fiveAt (p_X2_fiveAt hW k_1) mx_X2_fiveAt ml_X2_36 (by decide) rfl (cells1 := 0) (slots1 := 0) (by decide) (by decide) (Nat.le_of_ble_eq_true rfl) (Nat.le_of_ble_eq_true rfl) rfl (Nat.le_of_ble_eq_true rfl) dX2_isAs_30 (fun r_97 L_98 f_99 h_100 => ?_)
          obtain ⟨rfl, rfl, h_101⟩ := h_100
          refine v_icmp_eq hC dX2_isAs_33 (tgt := 38) (by decide) (fun h_104 => ?_) (fun h_104 => ?_)
          · simp only [Int32.lt_iff_toInt_lt, Int32.le_iff_toInt_le, Int32.reduceToInt, ← Int32.toInt_inj] at h_104
            obtain ⟨v_105, h_106⟩ : ∃ v9 : Int32, i_83 + Int32.ofInt 1 = v9 := ⟨_, rfl⟩
            have h_107 := add_v (b := 1) h_106 (by first | omega | (simp only [Int32.lt_iff_toInt_lt, Int32.le_iff_toInt_le, Int32.reduceToInt, ← Int32.toInt_inj, true_and, and_true, or_true, true_or, false_or, or_false, false_and, and_false, not_true_eq_false, not_false_eq_true] <;> omega)) (by first | omega | (simp only [Int32.lt_iff_toInt_lt, Int32.le_iff_toInt_le, Int32.reduceToInt, ← Int32.toInt_inj, true_and, and_true, or_true, true_or, false_or, or_false, false_and, and_false, not_true_eq_false, not_false_eq_true] <;> omega))
            simp only [Int32.reduceToInt] at h_107
            refine v_iinc hC dX2_isAs_38 (k := 0) rfl (v := v_105) h_106 (by decide) (lv' := [(2, .int v_105), (0, .ref a_0), (1, .ref a_1)]) rfl ?_
            refine v_goto hC dX2_isAs_41 (tgt := 15) (by decide) ?_
            refine v_pick [0, 1, 2] rfl ?_
            exact ih_87 v_105 (by first | omega | (simp only [Int32.lt_iff_toInt_lt, Int32.le_iff_toInt_le, Int32.reduceToInt, ← Int32.toInt_inj, true_and, and_true, or_true, true_or, false_or, or_false, false_and, and_false, not_true_eq_false, not_false_eq_true] <;> omega)) (by first | omega | (simp only [Int32.lt_iff_toInt_lt, Int32.le_iff_toInt_le, Int32.reduceToInt, ← Int32.toInt_inj, true_and, and_true, or_true, true_or, false_or, or_false, false_and, and_false, not_true_eq_false, not_false_eq_true] <;> omega))
          · simp only [Int32.lt_iff_toInt_lt, Int32.le_iff_toInt_le, Int32.reduceToInt, ← Int32.toInt_inj] at h_104
            refine v_iconst hC dX2_isAs_36 (v := 0) (by decide) ?_
            exact hR _ _ _ _ _ _ _ dX2_isAs_37 rfl (Nat.le_of_ble_eq_true rfl) (Nat.le_of_ble_eq_true rfl) ⟨rfl, rfl, (by decide)⟩
    refine v_pick [0, 1, 2] rfl ?_
    exact lp_85 53 0 (by decide) (by decide)
  · simp only [Int32.lt_iff_toInt_lt, Int32.le_iff_toInt_le, Int32.reduceToInt, ← Int32.toInt_inj] at h_15
    refine v_iconst hC dX2_isAs_11 (v := 0) (by decide) ?_
    exact hR _ _ _ _ _ _ _ dX2_isAs_12 rfl (Nat.le_of_ble_eq_true rfl) (Nat.le_of_ble_eq_true rfl) ⟨rfl, rfl, (by decide)⟩
set_option maxRecDepth 100000 in
set_option maxHeartbeats 8000000 in
theorem p_X8_placeAt {l : Launch} {E : Ez} {L : List Nat} {f : Nat → va_E} {T : Nat → va_E → Prop} {a_0 : Nat} {a_1 : Int32} (hW : WT T L f) (k_0 : isWalk T L E a_0) : CI l yX8_placeAt cX8_placeAt 2 .int 0 0 0 E [.ref a_0, .int a_1] L f (fun r L1 f1 => L = L1 ∧ f = f1 ∧ (¬ r.toInt = 0 ∨ (0 ≤ a_1.toInt ∧ a_1.toInt ≤ 255))) := by
  refine ci_of (by decide) (Nat.le_of_ble_eq_true rfl) (fun z hz hnm hC hR => ?_)
  have hC : Cx z E cX8_placeAt RX8 2 0 0 0 := hC
  subst hz
  show V z E 2 0 0 L f 0 [(0, .ref a_0), (1, .int a_1)] []
  refine v_iload_n hC dX8_placeAt_0 rfl ?_
  refine v_if_lt hC dX8_placeAt_1 (tgt := 28) (by decide) (fun h_1 => ?_) (fun h_1 => ?_)
  · simp only [Int32.lt_iff_toInt_lt, Int32.le_iff_toInt_le, Int32.reduceToInt, ← Int32.toInt_inj] at h_1
    refine v_iconst hC dX8_placeAt_28 (v := (-1)) (by decide) ?_
    exact hR _ _ _ _ _ _ _ dX8_placeAt_29 rfl (Nat.le_of_ble_eq_true rfl) (Nat.le_of_ble_eq_true rfl) ⟨rfl, rfl, (.inl (by decide))⟩
  · simp only [Int32.lt_iff_toInt_lt, Int32.le_iff_toInt_le, Int32.reduceToInt, ← Int32.toInt_inj] at h_1
    refine v_iload_n hC dX8_placeAt_4 rfl ?_
    refine v_aload_n hC dX8_placeAt_5 rfl ?_
    obtain ⟨m_2, q_4, t_3, k_5⟩ := id k_0
    obtain ⟨v_7, v_9, v_11, v_13, e_6, b_8, b_10, b_12, b_14⟩ := hW.at m_2 t_3
    refine v_get hC fl_X8_22 m_2 e_6 rfl dX8_placeAt_6 ?_
    refine v_icmp_ge hC dX8_placeAt_9 (tgt := 28) (by decide) (fun h_15 => ?_) (fun h_15 => ?_)
    · simp only [Int32.lt_iff_toInt_lt, Int32.le_iff_toInt_le, Int32.reduceToInt, ← Int32.toInt_inj] at h_15
      refine v_iconst hC dX8_placeAt_28 (v := (-1)) (by decide) ?_
      exact hR _ _ _ _ _ _ _ dX8_placeAt_29 rfl (Nat.le_of_ble_eq_true rfl) (Nat.le_of_ble_eq_true rfl) ⟨rfl, rfl, (.inl (by decide))⟩
    · simp only [Int32.lt_iff_toInt_lt, Int32.le_iff_toInt_le, Int32.reduceToInt, ← Int32.toInt_inj] at h_15
      refine v_iload_n hC dX8_placeAt_12 rfl ?_
      refine v_sipush hC dX8_placeAt_13 (v := 256) (by decide) ?_
      refine v_icmp_ge_f hC dX8_placeAt_16 (tgt := 28) (by decide) (by first | omega | (simp only [Int32.lt_iff_toInt_lt, Int32.le_iff_toInt_le, Int32.reduceToInt, ← Int32.toInt_inj, true_and, and_true, or_true, true_or, false_or, or_false, false_and, and_false, not_true_eq_false, not_false_eq_true] <;> omega)) ?_
      refine v_aload_n hC dX8_placeAt_19 rfl ?_
      refine v_get hC fl_X8_9 m_2 e_6 rfl dX8_placeAt_20 ?_
      refine v_iload_n hC dX8_placeAt_23 rfl ?_
      obtain ⟨m_16, t_17⟩ := id k_5
      obtain ⟨g_19, e_18⟩ := hW.at m_16 t_17
      obtain ⟨v_20, h_21⟩ : ∃ v9 : Int32, g_19 (a_1 : Int32).toNatClampNeg = v9 := ⟨_, rfl⟩
      refine v_iald hC m_16 e_18 (vp_in_iff.mpr (by first | omega | (simp only [Int32.lt_iff_toInt_lt, Int32.le_iff_toInt_le, Int32.reduceToInt, ← Int32.toInt_inj, true_and, and_true, or_true, true_or, false_or, or_false, false_and, and_false, not_true_eq_false, not_false_eq_true] <;> omega))) h_21 dX8_placeAt_24 ?_
      refine v_goto hC dX8_placeAt_25 (tgt := 29) (by decide) ?_
      exact hR _ _ _ _ _ _ _ dX8_placeAt_29 rfl (Nat.le_of_ble_eq_true rfl) (Nat.le_of_ble_eq_true rfl) ⟨rfl, rfl, (.inr (by first | omega | (simp only [Int32.lt_iff_toInt_lt, Int32.le_iff_toInt_le, Int32.reduceToInt, ← Int32.toInt_inj, true_and, and_true, or_true, true_or, false_or, or_false, false_and, and_false, not_true_eq_false, not_false_eq_true] <;> omega)))⟩
set_option maxRecDepth 100000 in
set_option maxHeartbeats 8000000 in
theorem p_X8_groupTells {l : Launch} {E : Ez} {L : List Nat} {f : Nat → va_E} {T : Nat → va_E → Prop} {a_0 : Nat} {a_1 : Nat} {a_2 : Int32} (hW : WT T L f) (k_0 : isWalk T L E a_0) (k_1 : isClo T L E a_1) : CI l yX8_groupTells cX8_groupTells 6 .int 1 0 0 E [.ref a_0, .ref a_1, .int a_2] L f (fun r L1 f1 => L = L1 ∧ f = f1) := by
  refine ci_of (by decide) (Nat.le_of_ble_eq_true rfl) (fun z hz hnm hC hR => ?_)
  have hC : Cx z E cX8_groupTells RX8 6 1 0 0 := hC
  subst hz
  show V z E 6 0 0 L f 0 [(0, .ref a_0), (1, .ref a_1), (2, .int a_2)] []
  refine v_iconst hC dX8_groupTells_0 (v := 0) (by decide) ?_
  refine v_istore_n hC dX8_groupTells_1 (by decide) (lv' := [(3, .int 0), (0, .ref a_0), (1, .ref a_1), (2, .int a_2)]) rfl ?_
  refine v_iconst hC dX8_groupTells_2 (v := 0) (by decide) ?_
  refine v_istore hC dX8_groupTells_3 (by decide) (lv' := [(4, .int 0), (3, .int 0), (0, .ref a_0), (1, .ref a_1), (2, .int a_2)]) rfl ?_
  have lp_530 : ∀ (n_531 : Nat) (i_527 : Int32) (b_529 : (0 ≤ i_527.toInt ∧ i_527.toInt ≤ 5)) (i_528 : Int32) (hm_533 : 5 - i_527.toInt < (n_531 : Int)), V z E 6 0 0 L f 5 [(4, .int i_527), (3, .int i_528), (0, .ref a_0), (1, .ref a_1), (2, .int a_2)] [] := by
    intro n_531
    induction n_531 with
    | zero =>
      intro i_527 b_529 i_528 hm_533
      exfalso; omega
    | succ n_531 ih_532 =>
      intro i_527 b_529 i_528 hm_533
      refine v_iload hC dX8_groupTells_5 rfl ?_
      refine v_aload_n hC dX8_groupTells_7 rfl ?_
      obtain ⟨m_534, q_536, t_535, k_537⟩ := id k_0
      obtain ⟨v_539, v_541, v_543, v_545, e_538, b_540, b_542, b_544, b_546⟩ := hW.at m_534 t_535
      refine v_get hC fl_X8_15 m_534 e_538 rfl dX8_groupTells_8 ?_
      refine v_icmp_ge hC dX8_groupTells_11 (tgt := 55) (by decide) (fun h_547 => ?_) (fun h_547 => ?_)
      · simp only [Int32.lt_iff_toInt_lt, Int32.le_iff_toInt_le, Int32.reduceToInt, ← Int32.toInt_inj] at h_547
        refine v_iload_n hC dX8_groupTells_55 rfl ?_
        refine v_iconst hC dX8_groupTells_56 (v := 2) (by decide) ?_
        obtain ⟨v_548, h_549⟩ : ∃ v9 : Int32, i_528 - i_528 / 2 * 2 = v9 := ⟨_, rfl⟩
        refine v_irem hC dX8_groupTells_57 (by decide) h_549 ?_
        exact hR _ _ _ _ _ _ _ dX8_groupTells_58 rfl (Nat.le_of_ble_eq_true rfl) (Nat.le_of_ble_eq_true rfl) ⟨rfl, rfl⟩
      · simp only [Int32.lt_iff_toInt_lt, Int32.le_iff_toInt_le, Int32.reduceToInt, ← Int32.toInt_inj] at h_547
        refine v_aload_n hC dX8_groupTells_14 rfl ?_
        refine v_aload_n hC dX8_groupTells_15 rfl ?_
        refine v_iload_n hC dX8_groupTells_16 rfl ?_
        refine v_aload_n hC dX8_groupTells_17 rfl ?_
        refine v_get hC fl_X8_15 m_534 e_538 rfl dX8_groupTells_18 ?_
        obtain ⟨v_551, h_552⟩ : ∃ v9 : Int32, a_2 * v_541 = v9 := ⟨_, rfl⟩
        refine v_imul hC dX8_groupTells_21 h_552 ?_
        refine v_iload hC dX8_groupTells_22 rfl ?_
        obtain ⟨v_554, h_555⟩ : ∃ v9 : Int32, v_551 + i_527 = v9 := ⟨_, rfl⟩
        refine v_iadd hC dX8_groupTells_24 h_555 ?_
        refine v_vi hC (rest := [.ref a_1]) m_534 e_538 rfl mi_X8_placeAt ms_X8_placeAt (p_X8_placeAt hW k_0) mx_X8_placeAt ml_X8_71 (by decide) rfl (cells1 := 0) (slots1 := 0) (by decide) (by decide) (Nat.le_of_ble_eq_true rfl) (Nat.le_of_ble_eq_true rfl) rfl (Nat.le_of_ble_eq_true rfl) dX8_groupTells_25 (fun r_557 L_558 f_559 h_560 => ?_)
        obtain ⟨rfl, rfl, h_561⟩ := h_560
        obtain ⟨m_564, q_566, t_565, k_567⟩ := id k_1
        obtain ⟨v_569, e_568, b_570⟩ := hW.at m_564 t_565
        refine v_vi hC (rest := []) m_564 e_568 rfl mi_X1_stitchAt ms_X1_stitchAt (p_X1_stitchAt hW k_1) mx_X1_stitchAt ml_X8_74 (by decide) rfl (cells1 := 0) (slots1 := 0) (by decide) (by decide) (Nat.le_of_ble_eq_true rfl) (Nat.le_of_ble_eq_true rfl) rfl (Nat.le_of_ble_eq_true rfl) dX8_groupTells_28 (fun r_571 L_572 f_573 h_574 => ?_)
        obtain ⟨rfl, rfl, h_575⟩ := h_574
        refine v_istore hC dX8_groupTells_31 (by decide) (lv' := [(5, .int r_571), (4, .int i_527), (3, .int i_528), (0, .ref a_0), (1, .ref a_1), (2, .int a_2)]) rfl ?_
        refine v_iload hC dX8_groupTells_33 rfl ?_
        refine v_iconst hC dX8_groupTells_35 (v := 4) (by decide) ?_
        refine v_icmp_ne hC dX8_groupTells_36 (tgt := 41) (by decide) (fun h_578 => ?_) (fun h_578 => ?_)
        · simp only [Int32.lt_iff_toInt_lt, Int32.le_iff_toInt_le, Int32.reduceToInt, ← Int32.toInt_inj] at h_578
          refine v_iload hC dX8_groupTells_41 rfl ?_
          refine v_if_eq hC dX8_groupTells_43 (tgt := 49) (by decide) (fun h_579 => ?_) (fun h_579 => ?_)
          · simp only [Int32.lt_iff_toInt_lt, Int32.le_iff_toInt_le, Int32.reduceToInt, ← Int32.toInt_inj] at h_579
            obtain ⟨v_580, h_581⟩ : ∃ v9 : Int32, i_527 + Int32.ofInt 1 = v9 := ⟨_, rfl⟩
            have h_582 := add_v (b := 1) h_581 (by first | omega | (simp only [Int32.lt_iff_toInt_lt, Int32.le_iff_toInt_le, Int32.reduceToInt, ← Int32.toInt_inj, true_and, and_true, or_true, true_or, false_or, or_false, false_and, and_false, not_true_eq_false, not_false_eq_true] <;> omega)) (by first | omega | (simp only [Int32.lt_iff_toInt_lt, Int32.le_iff_toInt_le, Int32.reduceToInt, ← Int32.toInt_inj, true_and, and_true, or_true, true_or, false_or, or_false, false_and, and_false, not_true_eq_false, not_false_eq_true] <;> omega))
            simp only [Int32.reduceToInt] at h_582
            refine v_iinc hC dX8_groupTells_49 (k := 1) rfl (v := v_580) h_581 (by decide) (lv' := [(4, .int v_580), (5, .int r_571), (3, .int i_528), (0, .ref a_0), (1, .ref a_1), (2, .int a_2)]) rfl ?_
            refine v_goto hC dX8_groupTells_52 (tgt := 5) (by decide) ?_
            refine v_pick [0, 2, 3, 4, 5] rfl ?_
            exact ih_532 v_580 (by first | omega | (simp only [Int32.lt_iff_toInt_lt, Int32.le_iff_toInt_le, Int32.reduceToInt, ← Int32.toInt_inj, true_and, and_true, or_true, true_or, false_or, or_false, false_and, and_false, not_true_eq_false, not_false_eq_true] <;> omega)) i_528 (by first | omega | (simp only [Int32.lt_iff_toInt_lt, Int32.le_iff_toInt_le, Int32.reduceToInt, ← Int32.toInt_inj, true_and, and_true, or_true, true_or, false_or, or_false, false_and, and_false, not_true_eq_false, not_false_eq_true] <;> omega))
          · simp only [Int32.lt_iff_toInt_lt, Int32.le_iff_toInt_le, Int32.reduceToInt, ← Int32.toInt_inj] at h_579
            obtain ⟨v_583, h_584⟩ : ∃ v9 : Int32, i_528 + Int32.ofInt 1 = v9 := ⟨_, rfl⟩
            refine v_iinc hC dX8_groupTells_46 (k := 2) rfl (v := v_583) h_584 (by decide) (lv' := [(3, .int v_583), (5, .int r_571), (4, .int i_527), (0, .ref a_0), (1, .ref a_1), (2, .int a_2)]) rfl ?_
            obtain ⟨v_585, h_586⟩ : ∃ v9 : Int32, i_527 + Int32.ofInt 1 = v9 := ⟨_, rfl⟩
            have h_587 := add_v (b := 1) h_586 (by first | omega | (simp only [Int32.lt_iff_toInt_lt, Int32.le_iff_toInt_le, Int32.reduceToInt, ← Int32.toInt_inj, true_and, and_true, or_true, true_or, false_or, or_false, false_and, and_false, not_true_eq_false, not_false_eq_true] <;> omega)) (by first | omega | (simp only [Int32.lt_iff_toInt_lt, Int32.le_iff_toInt_le, Int32.reduceToInt, ← Int32.toInt_inj, true_and, and_true, or_true, true_or, false_or, or_false, false_and, and_false, not_true_eq_false, not_false_eq_true] <;> omega))
            simp only [Int32.reduceToInt] at h_587
            refine v_iinc hC dX8_groupTells_49 (k := 2) rfl (v := v_585) h_586 (by decide) (lv' := [(4, .int v_585), (3, .int v_583), (5, .int r_571), (0, .ref a_0), (1, .ref a_1), (2, .int a_2)]) rfl ?_
            refine v_goto hC dX8_groupTells_52 (tgt := 5) (by decide) ?_
            refine v_pick [0, 1, 3, 4, 5] rfl ?_
            exact ih_532 v_585 (by first | omega | (simp only [Int32.lt_iff_toInt_lt, Int32.le_iff_toInt_le, Int32.reduceToInt, ← Int32.toInt_inj, true_and, and_true, or_true, true_or, false_or, or_false, false_and, and_false, not_true_eq_false, not_false_eq_true] <;> omega)) v_583 (by first | omega | (simp only [Int32.lt_iff_toInt_lt, Int32.le_iff_toInt_le, Int32.reduceToInt, ← Int32.toInt_inj, true_and, and_true, or_true, true_or, false_or, or_false, false_and, and_false, not_true_eq_false, not_false_eq_true] <;> omega))
        · simp only [Int32.lt_iff_toInt_lt, Int32.le_iff_toInt_le, Int32.reduceToInt, ← Int32.toInt_inj] at h_578
          refine v_iconst hC dX8_groupTells_39 (v := 2) (by decide) ?_
          exact hR _ _ _ _ _ _ _ dX8_groupTells_40 rfl (Nat.le_of_ble_eq_true rfl) (Nat.le_of_ble_eq_true rfl) ⟨rfl, rfl⟩
  refine v_pick [0, 1, 2, 3, 4] rfl ?_
  exact lp_530 7 0 (by decide) 0 (by decide)
set_option maxRecDepth 100000 in
set_option maxHeartbeats 8000000 in
theorem p_X8_bitTells {l : Launch} {E : Ez} {L : List Nat} {f : Nat → va_E} {T : Nat → va_E → Prop} {a_0 : Nat} {a_1 : Nat} {a_2 : Int32} (hW : WT T L f) (k_0 : isWalk T L E a_0) (k_1 : isClo T L E a_1) : CI l yX8_bitTells cX8_bitTells 6 .int 2 0 0 E [.ref a_0, .ref a_1, .int a_2] L f (fun r L1 f1 => L = L1 ∧ f = f1 ∧ (0 ≤ r.toInt ∧ r.toInt ≤ 2)) := by
  refine ci_of (by decide) (Nat.le_of_ble_eq_true rfl) (fun z hz hnm hC hR => ?_)
  have hC : Cx z E cX8_bitTells RX8 6 2 0 0 := hC
  subst hz
  show V z E 6 0 0 L f 0 [(0, .ref a_0), (1, .ref a_1), (2, .int a_2)] []
  refine v_iconst hC dX8_bitTells_0 (v := 0) (by decide) ?_
  refine v_istore_n hC dX8_bitTells_1 (by decide) (lv' := [(3, .int 0), (0, .ref a_0), (1, .ref a_1), (2, .int a_2)]) rfl ?_
  refine v_iconst hC dX8_bitTells_2 (v := 0) (by decide) ?_
  refine v_istore hC dX8_bitTells_3 (by decide) (lv' := [(4, .int 0), (3, .int 0), (0, .ref a_0), (1, .ref a_1), (2, .int a_2)]) rfl ?_
  have lp_444 : ∀ (n_445 : Nat) (i_441 : Int32) (b_443 : (0 ≤ i_441.toInt ∧ i_441.toInt ≤ 5)) (i_442 : Int32) (hm_447 : 5 - i_441.toInt < (n_445 : Int)), V z E 6 0 0 L f 5 [(4, .int i_441), (3, .int i_442), (0, .ref a_0), (1, .ref a_1), (2, .int a_2)] [] := by
    intro n_445
    induction n_445 with
    | zero =>
      intro i_441 b_443 i_442 hm_447
      exfalso; omega
    | succ n_445 ih_446 =>
      intro i_441 b_443 i_442 hm_447
      refine v_iload hC dX8_bitTells_5 rfl ?_
      refine v_aload_n hC dX8_bitTells_7 rfl ?_
      obtain ⟨m_448, q_450, t_449, k_451⟩ := id k_0
      obtain ⟨v_453, v_455, v_457, v_459, e_452, b_454, b_456, b_458, b_460⟩ := hW.at m_448 t_449
      refine v_get hC fl_X8_19 m_448 e_452 rfl dX8_bitTells_8 ?_
      refine v_icmp_ge hC dX8_bitTells_11 (tgt := 56) (by decide) (fun h_461 => ?_) (fun h_461 => ?_)
      · simp only [Int32.lt_iff_toInt_lt, Int32.le_iff_toInt_le, Int32.reduceToInt, ← Int32.toInt_inj] at h_461
        refine v_iload_n hC dX8_bitTells_56 rfl ?_
        refine v_if_ne hC dX8_bitTells_57 (tgt := 62) (by decide) (fun h_462 => ?_) (fun h_462 => ?_)
        · simp only [Int32.lt_iff_toInt_lt, Int32.le_iff_toInt_le, Int32.reduceToInt, ← Int32.toInt_inj] at h_462
          refine v_iload_n hC dX8_bitTells_62 rfl ?_
          refine v_if_le hC dX8_bitTells_63 (tgt := 70) (by decide) (fun h_463 => ?_) (fun h_463 => ?_)
          · simp only [Int32.lt_iff_toInt_lt, Int32.le_iff_toInt_le, Int32.reduceToInt, ← Int32.toInt_inj] at h_463
            refine v_iconst hC dX8_bitTells_70 (v := 0) (by decide) ?_
            exact hR _ _ _ _ _ _ _ dX8_bitTells_71 rfl (Nat.le_of_ble_eq_true rfl) (Nat.le_of_ble_eq_true rfl) ⟨rfl, rfl, (by decide)⟩
          · simp only [Int32.lt_iff_toInt_lt, Int32.le_iff_toInt_le, Int32.reduceToInt, ← Int32.toInt_inj] at h_463
            refine v_iconst hC dX8_bitTells_66 (v := 1) (by decide) ?_
            refine v_goto hC dX8_bitTells_67 (tgt := 71) (by decide) ?_
            exact hR _ _ _ _ _ _ _ dX8_bitTells_71 rfl (Nat.le_of_ble_eq_true rfl) (Nat.le_of_ble_eq_true rfl) ⟨rfl, rfl, (by decide)⟩
        · simp only [Int32.lt_iff_toInt_lt, Int32.le_iff_toInt_le, Int32.reduceToInt, ← Int32.toInt_inj] at h_462
          refine v_iconst hC dX8_bitTells_60 (v := 2) (by decide) ?_
          exact hR _ _ _ _ _ _ _ dX8_bitTells_61 rfl (Nat.le_of_ble_eq_true rfl) (Nat.le_of_ble_eq_true rfl) ⟨rfl, rfl, (by decide)⟩
      · simp only [Int32.lt_iff_toInt_lt, Int32.le_iff_toInt_le, Int32.reduceToInt, ← Int32.toInt_inj] at h_461
        refine v_aload_n hC dX8_bitTells_14 rfl ?_
        refine v_aload_n hC dX8_bitTells_15 rfl ?_
        refine v_iload_n hC dX8_bitTells_16 rfl ?_
        refine v_aload_n hC dX8_bitTells_17 rfl ?_
        refine v_get hC fl_X8_19 m_448 e_452 rfl dX8_bitTells_18 ?_
        obtain ⟨v_464, h_465⟩ : ∃ v9 : Int32, a_2 * v_457 = v9 := ⟨_, rfl⟩
        refine v_imul hC dX8_bitTells_21 h_465 ?_
        refine v_iload hC dX8_bitTells_22 rfl ?_
        obtain ⟨v_467, h_468⟩ : ∃ v9 : Int32, v_464 + i_441 = v9 := ⟨_, rfl⟩
        refine v_iadd hC dX8_bitTells_24 h_468 ?_
        refine v_vi hC (rest := []) m_448 e_452 rfl mi_X8_groupTells ms_X8_groupTells (p_X8_groupTells hW k_0 k_1) mx_X8_groupTells ml_X8_79 (by decide) rfl (cells1 := 0) (slots1 := 0) (by decide) (by decide) (Nat.le_of_ble_eq_true rfl) (Nat.le_of_ble_eq_true rfl) rfl (Nat.le_of_ble_eq_true rfl) dX8_bitTells_25 (fun r_470 L_471 f_472 h_473 => ?_)
        obtain ⟨rfl, rfl⟩ := h_473
        refine v_istore hC dX8_bitTells_28 (by decide) (lv' := [(5, .int r_470), (4, .int i_441), (3, .int i_442), (0, .ref a_0), (1, .ref a_1), (2, .int a_2)]) rfl ?_
        refine v_iload hC dX8_bitTells_30 rfl ?_
        refine v_iconst hC dX8_bitTells_32 (v := 2) (by decide) ?_
        refine v_icmp_eq hC dX8_bitTells_33 (tgt := 50) (by decide) (fun h_476 => ?_) (fun h_476 => ?_)
        · simp only [Int32.lt_iff_toInt_lt, Int32.le_iff_toInt_le, Int32.reduceToInt, ← Int32.toInt_inj] at h_476
          obtain ⟨v_477, h_478⟩ : ∃ v9 : Int32, i_441 + Int32.ofInt 1 = v9 := ⟨_, rfl⟩
          have h_479 := add_v (b := 1) h_478 (by first | omega | (simp only [Int32.lt_iff_toInt_lt, Int32.le_iff_toInt_le, Int32.reduceToInt, ← Int32.toInt_inj, true_and, and_true, or_true, true_or, false_or, or_false, false_and, and_false, not_true_eq_false, not_false_eq_true] <;> omega)) (by first | omega | (simp only [Int32.lt_iff_toInt_lt, Int32.le_iff_toInt_le, Int32.reduceToInt, ← Int32.toInt_inj, true_and, and_true, or_true, true_or, false_or, or_false, false_and, and_false, not_true_eq_false, not_false_eq_true] <;> omega))
          simp only [Int32.reduceToInt] at h_479
          refine v_iinc hC dX8_bitTells_50 (k := 1) rfl (v := v_477) h_478 (by decide) (lv' := [(4, .int v_477), (5, .int r_470), (3, .int i_442), (0, .ref a_0), (1, .ref a_1), (2, .int a_2)]) rfl ?_
          refine v_goto hC dX8_bitTells_53 (tgt := 5) (by decide) ?_
          refine v_pick [0, 2, 3, 4, 5] rfl ?_
          exact ih_446 v_477 (by first | omega | (simp only [Int32.lt_iff_toInt_lt, Int32.le_iff_toInt_le, Int32.reduceToInt, ← Int32.toInt_inj, true_and, and_true, or_true, true_or, false_or, or_false, false_and, and_false, not_true_eq_false, not_false_eq_true] <;> omega)) i_442 (by first | omega | (simp only [Int32.lt_iff_toInt_lt, Int32.le_iff_toInt_le, Int32.reduceToInt, ← Int32.toInt_inj, true_and, and_true, or_true, true_or, false_or, or_false, false_and, and_false, not_true_eq_false, not_false_eq_true] <;> omega))
        · simp only [Int32.lt_iff_toInt_lt, Int32.le_iff_toInt_le, Int32.reduceToInt, ← Int32.toInt_inj] at h_476
          refine v_iload_n hC dX8_bitTells_36 rfl ?_
          refine v_iload hC dX8_bitTells_37 rfl ?_
          refine v_iconst hC dX8_bitTells_39 (v := 1) (by decide) ?_
          refine v_icmp_ne hC dX8_bitTells_40 (tgt := 47) (by decide) (fun h_480 => ?_) (fun h_480 => ?_)
          · simp only [Int32.lt_iff_toInt_lt, Int32.le_iff_toInt_le, Int32.reduceToInt, ← Int32.toInt_inj] at h_480
            refine v_iconst hC dX8_bitTells_47 (v := (-1)) (by decide) ?_
            obtain ⟨v_481, h_482⟩ : ∃ v9 : Int32, i_442 + (-1) = v9 := ⟨_, rfl⟩
            refine v_iadd hC dX8_bitTells_48 h_482 ?_
            refine v_istore_n hC dX8_bitTells_49 (by decide) (lv' := [(3, .int v_481), (5, .int r_470), (4, .int i_441), (0, .ref a_0), (1, .ref a_1), (2, .int a_2)]) rfl ?_
            obtain ⟨v_484, h_485⟩ : ∃ v9 : Int32, i_441 + Int32.ofInt 1 = v9 := ⟨_, rfl⟩
            have h_486 := add_v (b := 1) h_485 (by first | omega | (simp only [Int32.lt_iff_toInt_lt, Int32.le_iff_toInt_le, Int32.reduceToInt, ← Int32.toInt_inj, true_and, and_true, or_true, true_or, false_or, or_false, false_and, and_false, not_true_eq_false, not_false_eq_true] <;> omega)) (by first | omega | (simp only [Int32.lt_iff_toInt_lt, Int32.le_iff_toInt_le, Int32.reduceToInt, ← Int32.toInt_inj, true_and, and_true, or_true, true_or, false_or, or_false, false_and, and_false, not_true_eq_false, not_false_eq_true] <;> omega))
            simp only [Int32.reduceToInt] at h_486
            refine v_iinc hC dX8_bitTells_50 (k := 2) rfl (v := v_484) h_485 (by decide) (lv' := [(4, .int v_484), (3, .int v_481), (5, .int r_470), (0, .ref a_0), (1, .ref a_1), (2, .int a_2)]) rfl ?_
            refine v_goto hC dX8_bitTells_53 (tgt := 5) (by decide) ?_
            refine v_pick [0, 1, 3, 4, 5] rfl ?_
            exact ih_446 v_484 (by first | omega | (simp only [Int32.lt_iff_toInt_lt, Int32.le_iff_toInt_le, Int32.reduceToInt, ← Int32.toInt_inj, true_and, and_true, or_true, true_or, false_or, or_false, false_and, and_false, not_true_eq_false, not_false_eq_true] <;> omega)) v_481 (by first | omega | (simp only [Int32.lt_iff_toInt_lt, Int32.le_iff_toInt_le, Int32.reduceToInt, ← Int32.toInt_inj, true_and, and_true, or_true, true_or, false_or, or_false, false_and, and_false, not_true_eq_false, not_false_eq_true] <;> omega))
          · simp only [Int32.lt_iff_toInt_lt, Int32.le_iff_toInt_le, Int32.reduceToInt, ← Int32.toInt_inj] at h_480
            refine v_iconst hC dX8_bitTells_43 (v := 1) (by decide) ?_
            refine v_goto hC dX8_bitTells_44 (tgt := 48) (by decide) ?_
            obtain ⟨v_487, h_488⟩ : ∃ v9 : Int32, i_442 + 1 = v9 := ⟨_, rfl⟩
            refine v_iadd hC dX8_bitTells_48 h_488 ?_
            refine v_istore_n hC dX8_bitTells_49 (by decide) (lv' := [(3, .int v_487), (5, .int r_470), (4, .int i_441), (0, .ref a_0), (1, .ref a_1), (2, .int a_2)]) rfl ?_
            obtain ⟨v_490, h_491⟩ : ∃ v9 : Int32, i_441 + Int32.ofInt 1 = v9 := ⟨_, rfl⟩
            have h_492 := add_v (b := 1) h_491 (by first | omega | (simp only [Int32.lt_iff_toInt_lt, Int32.le_iff_toInt_le, Int32.reduceToInt, ← Int32.toInt_inj, true_and, and_true, or_true, true_or, false_or, or_false, false_and, and_false, not_true_eq_false, not_false_eq_true] <;> omega)) (by first | omega | (simp only [Int32.lt_iff_toInt_lt, Int32.le_iff_toInt_le, Int32.reduceToInt, ← Int32.toInt_inj, true_and, and_true, or_true, true_or, false_or, or_false, false_and, and_false, not_true_eq_false, not_false_eq_true] <;> omega))
            simp only [Int32.reduceToInt] at h_492
            refine v_iinc hC dX8_bitTells_50 (k := 2) rfl (v := v_490) h_491 (by decide) (lv' := [(4, .int v_490), (3, .int v_487), (5, .int r_470), (0, .ref a_0), (1, .ref a_1), (2, .int a_2)]) rfl ?_
            refine v_goto hC dX8_bitTells_53 (tgt := 5) (by decide) ?_
            refine v_pick [0, 1, 3, 4, 5] rfl ?_
            exact ih_446 v_490 (by first | omega | (simp only [Int32.lt_iff_toInt_lt, Int32.le_iff_toInt_le, Int32.reduceToInt, ← Int32.toInt_inj, true_and, and_true, or_true, true_or, false_or, or_false, false_and, and_false, not_true_eq_false, not_false_eq_true] <;> omega)) v_487 (by first | omega | (simp only [Int32.lt_iff_toInt_lt, Int32.le_iff_toInt_le, Int32.reduceToInt, ← Int32.toInt_inj, true_and, and_true, or_true, true_or, false_or, or_false, false_and, and_false, not_true_eq_false, not_false_eq_true] <;> omega))
  refine v_pick [0, 1, 2, 3, 4] rfl ?_
  exact lp_444 7 0 (by decide) 0 (by decide)
set_option maxRecDepth 100000 in
set_option maxHeartbeats 8000000 in
theorem p_X8_fiveTells {l : Launch} {E : Ez} {L : List Nat} {f : Nat → va_E} {T : Nat → va_E → Prop} {a_0 : Nat} {a_1 : Nat} {a_2 : Int32} (hW : WT T L f) (k_0 : isWalk T L E a_0) (k_1 : isClo T L E a_1) : CI l yX8_fiveTells cX8_fiveTells 6 .int 3 0 0 E [.ref a_0, .ref a_1, .int a_2] L f (fun r L1 f1 => L = L1 ∧ f = f1) := by
  refine ci_of (by decide) (Nat.le_of_ble_eq_true rfl) (fun z hz hnm hC hR => ?_)
  have hC : Cx z E cX8_fiveTells RX8 6 3 0 0 := hC
  subst hz
  show V z E 6 0 0 L f 0 [(0, .ref a_0), (1, .ref a_1), (2, .int a_2)] []
  refine v_iconst hC dX8_fiveTells_0 (v := 0) (by decide) ?_
  refine v_istore_n hC dX8_fiveTells_1 (by decide) (lv' := [(3, .int 0), (0, .ref a_0), (1, .ref a_1), (2, .int a_2)]) rfl ?_
  refine v_iconst hC dX8_fiveTells_2 (v := 0) (by decide) ?_
  refine v_istore hC dX8_fiveTells_3 (by decide) (lv' := [(4, .int 0), (3, .int 0), (0, .ref a_0), (1, .ref a_1), (2, .int a_2)]) rfl ?_
  have lp_372 : ∀ (n_373 : Nat) (i_369 : Int32) (b_371 : (0 ≤ i_369.toInt ∧ i_369.toInt ≤ 5)) (i_370 : Int32) (hm_375 : 5 - i_369.toInt < (n_373 : Int)), V z E 6 0 0 L f 5 [(4, .int i_369), (3, .int i_370), (0, .ref a_0), (1, .ref a_1), (2, .int a_2)] [] := by
    intro n_373
    induction n_373 with
    | zero =>
      intro i_369 b_371 i_370 hm_375
      exfalso; omega
    | succ n_373 ih_374 =>
      intro i_369 b_371 i_370 hm_375
      refine v_iload hC dX8_fiveTells_5 rfl ?_
      refine v_iconst hC dX8_fiveTells_7 (v := 5) (by decide) ?_
      refine v_icmp_ge hC dX8_fiveTells_8 (tgt := 46) (by decide) (fun h_376 => ?_) (fun h_376 => ?_)
      · simp only [Int32.lt_iff_toInt_lt, Int32.le_iff_toInt_le, Int32.reduceToInt, ← Int32.toInt_inj] at h_376
        refine v_iload_n hC dX8_fiveTells_46 rfl ?_
        exact hR _ _ _ _ _ _ _ dX8_fiveTells_47 rfl (Nat.le_of_ble_eq_true rfl) (Nat.le_of_ble_eq_true rfl) ⟨rfl, rfl⟩
      · simp only [Int32.lt_iff_toInt_lt, Int32.le_iff_toInt_le, Int32.reduceToInt, ← Int32.toInt_inj] at h_376
        refine v_aload_n hC dX8_fiveTells_11 rfl ?_
        refine v_aload_n hC dX8_fiveTells_12 rfl ?_
        refine v_iload_n hC dX8_fiveTells_13 rfl ?_
        refine v_iconst hC dX8_fiveTells_14 (v := 5) (by decide) ?_
        obtain ⟨v_377, h_378⟩ : ∃ v9 : Int32, a_2 * 5 = v9 := ⟨_, rfl⟩
        refine v_imul hC dX8_fiveTells_15 h_378 ?_
        refine v_iload hC dX8_fiveTells_16 rfl ?_
        obtain ⟨v_380, h_381⟩ : ∃ v9 : Int32, v_377 + i_369 = v9 := ⟨_, rfl⟩
        refine v_iadd hC dX8_fiveTells_18 h_381 ?_
        obtain ⟨m_383, q_385, t_384, k_386⟩ := id k_0
        obtain ⟨v_388, v_390, v_392, v_394, e_387, b_389, b_391, b_393, b_395⟩ := hW.at m_383 t_384
        refine v_vi hC (rest := []) m_383 e_387 rfl mi_X8_bitTells ms_X8_bitTells (p_X8_bitTells hW k_0 k_1) mx_X8_bitTells ml_X8_83 (by decide) rfl (cells1 := 0) (slots1 := 0) (by decide) (by decide) (Nat.le_of_ble_eq_true rfl) (Nat.le_of_ble_eq_true rfl) rfl (Nat.le_of_ble_eq_true rfl) dX8_fiveTells_19 (fun r_396 L_397 f_398 h_399 => ?_)
        obtain ⟨rfl, rfl, b_400⟩ := h_399
        refine v_istore hC dX8_fiveTells_22 (by decide) (lv' := [(5, .int r_396), (4, .int i_369), (3, .int i_370), (0, .ref a_0), (1, .ref a_1), (2, .int a_2)]) rfl ?_
        refine v_iload hC dX8_fiveTells_24 rfl ?_
        refine v_iconst hC dX8_fiveTells_26 (v := 2) (by decide) ?_
        refine v_icmp_ne hC dX8_fiveTells_27 (tgt := 33) (by decide) (fun h_403 => ?_) (fun h_403 => ?_)
        · simp only [Int32.lt_iff_toInt_lt, Int32.le_iff_toInt_le, Int32.reduceToInt, ← Int32.toInt_inj] at h_403
          refine v_iconst hC dX8_fiveTells_33 (v := 2) (by decide) ?_
          refine v_iload_n hC dX8_fiveTells_34 rfl ?_
          obtain ⟨v_404, h_405⟩ : ∃ v9 : Int32, (2 : Int32) * i_370 = v9 := ⟨_, rfl⟩
          refine v_imul hC dX8_fiveTells_35 h_405 ?_
          refine v_iload hC dX8_fiveTells_36 rfl ?_
          obtain ⟨v_407, h_408⟩ : ∃ v9 : Int32, v_404 + r_396 = v9 := ⟨_, rfl⟩
          refine v_iadd hC dX8_fiveTells_38 h_408 ?_
          refine v_istore_n hC dX8_fiveTells_39 (by decide) (lv' := [(3, .int v_407), (5, .int r_396), (4, .int i_369), (0, .ref a_0), (1, .ref a_1), (2, .int a_2)]) rfl ?_
          obtain ⟨v_410, h_411⟩ : ∃ v9 : Int32, i_369 + Int32.ofInt 1 = v9 := ⟨_, rfl⟩
          have h_412 := add_v (b := 1) h_411 (by first | omega | (simp only [Int32.lt_iff_toInt_lt, Int32.le_iff_toInt_le, Int32.reduceToInt, ← Int32.toInt_inj, true_and, and_true, or_true, true_or, false_or, or_false, false_and, and_false, not_true_eq_false, not_false_eq_true] <;> omega)) (by first | omega | (simp only [Int32.lt_iff_toInt_lt, Int32.le_iff_toInt_le, Int32.reduceToInt, ← Int32.toInt_inj, true_and, and_true, or_true, true_or, false_or, or_false, false_and, and_false, not_true_eq_false, not_false_eq_true] <;> omega))
          simp only [Int32.reduceToInt] at h_412
          refine v_iinc hC dX8_fiveTells_40 (k := 2) rfl (v := v_410) h_411 (by decide) (lv' := [(4, .int v_410), (3, .int v_407), (5, .int r_396), (0, .ref a_0), (1, .ref a_1), (2, .int a_2)]) rfl ?_
          refine v_goto hC dX8_fiveTells_43 (tgt := 5) (by decide) ?_
          refine v_pick [0, 1, 3, 4, 5] rfl ?_
          exact ih_374 v_410 (by first | omega | (simp only [Int32.lt_iff_toInt_lt, Int32.le_iff_toInt_le, Int32.reduceToInt, ← Int32.toInt_inj, true_and, and_true, or_true, true_or, false_or, or_false, false_and, and_false, not_true_eq_false, not_false_eq_true] <;> omega)) v_407 (by first | omega | (simp only [Int32.lt_iff_toInt_lt, Int32.le_iff_toInt_le, Int32.reduceToInt, ← Int32.toInt_inj, true_and, and_true, or_true, true_or, false_or, or_false, false_and, and_false, not_true_eq_false, not_false_eq_true] <;> omega))
        · simp only [Int32.lt_iff_toInt_lt, Int32.le_iff_toInt_le, Int32.reduceToInt, ← Int32.toInt_inj] at h_403
          refine v_bipush hC dX8_fiveTells_30 (v := 32) (by decide) ?_
          exact hR _ _ _ _ _ _ _ dX8_fiveTells_32 rfl (Nat.le_of_ble_eq_true rfl) (Nat.le_of_ble_eq_true rfl) ⟨rfl, rfl⟩
  refine v_pick [0, 1, 2, 3, 4] rfl ?_
  exact lp_372 7 0 (by decide) 0 (by decide)
set_option maxRecDepth 100000 in
set_option maxHeartbeats 8000000 in
theorem p_X2_hear {l : Launch} {E : Ez} {L : List Nat} {f : Nat → va_E} {T : Nat → va_E → Prop} {a_0 : Nat} {a_1 : Nat} {a_2 : Nat} (hW : WT T L f) (k_0 : isLet T L E a_0) (k_1 : isClo T L E a_1) (k_2 : isWalk T L E a_2) : CI l yX2_hear cX2_hear 5 .boolean 4 0 0 E [.ref a_0, .ref a_1, .ref a_2] L f (fun r L1 f1 => L = L1 ∧ WT T L f1 ∧ FR [2, 151] f f1 ∧ (0 ≤ r.toInt ∧ r.toInt ≤ 1)) := by
  refine ci_of (by decide) (Nat.le_of_ble_eq_true rfl) (fun z hz hnm hC hR => ?_)
  have hC : Cx z E cX2_hear RX2 5 4 0 0 := hC
  subst hz
  show V z E 5 0 0 L f 0 [(0, .ref a_0), (1, .ref a_1), (2, .ref a_2)] []
  refine v_aload_n hC dX2_hear_0 rfl ?_
  refine v_iconst hC dX2_hear_1 (v := 0) (by decide) ?_
  obtain ⟨m_1, q_3, t_2, k_4⟩ := id k_0
  obtain ⟨v_6, e_5, b_7⟩ := hW.at m_1 t_2
  refine v_put hC fl_X2_21 m_1 e_5 rfl rfl (Nat.le_of_ble_eq_true rfl) (fs' := [.ref q_3, .int 0]) rfl dX2_hear_2 (fun f_8 hf_9 hk_10 => ?_)
  have hW_11 := hW.up hf_9 hk_10 t_2 ⟨0, rfl, (by decide)⟩
  have fr_12 := FR.w hk_10 e_5 (k := 2) rfl
  refine v_iconst hC dX2_hear_5 (v := 0) (by decide) ?_
  refine v_istore_n hC dX2_hear_6 (by decide) (lv' := [(3, .int 0), (0, .ref a_0), (1, .ref a_1), (2, .ref a_2)]) rfl ?_
  have lp_251 : ∀ (n_252 : Nat) (f_247 : Nat → va_E) (hW_248 : WT T L f_247) (hF_249 : FR [2, 151] f_8 f_247) (i_246 : Int32) (b_250 : (0 ≤ i_246.toInt ∧ i_246.toInt ≤ 51)) (hm_254 : 51 - i_246.toInt < (n_252 : Int)), V z E 5 0 0 L f_247 7 [(3, .int i_246), (0, .ref a_0), (1, .ref a_1), (2, .ref a_2)] [] := by
    intro n_252
    induction n_252 with
    | zero =>
      intro f_247 hW_248 hF_249 i_246 b_250 hm_254
      exfalso; omega
    | succ n_252 ih_253 =>
      intro f_247 hW_248 hF_249 i_246 b_250 hm_254
      refine v_iload_n hC dX2_hear_7 rfl ?_
      refine v_aload_n hC dX2_hear_8 rfl ?_
      obtain ⟨m_255, q_257, t_256, k_258⟩ := id k_2
      obtain ⟨v_260, v_262, v_264, v_266, e_259, b_261, b_263, b_265, b_267⟩ := hW_248.at m_255 t_256
      refine v_getN hC fn_X2_39 m_255 e_259 rfl dX2_hear_9 ?_
      refine v_iconst hC dX2_hear_12 (v := 5) (by decide) ?_
      obtain ⟨v_268, h_269⟩ : ∃ v9 : Int32, v_266 / 5 = v9 := ⟨_, rfl⟩
      refine v_idiv hC dX2_hear_13 (by decide) h_269 ?_
      have h_270 := div_v h_269 (by first | omega | (simp only [Int32.lt_iff_toInt_lt, Int32.le_iff_toInt_le, Int32.reduceToInt, ← Int32.toInt_inj, true_and, and_true, or_true, true_or, false_or, or_false, false_and, and_false, not_true_eq_false, not_false_eq_true] <;> omega)) (by decide)
      try simp only [Int32.reduceToInt] at h_270
      refine v_icmp_ge hC dX2_hear_14 (tgt := 73) (by decide) (fun h_271 => ?_) (fun h_271 => ?_)
      · simp only [Int32.lt_iff_toInt_lt, Int32.le_iff_toInt_le, Int32.reduceToInt, ← Int32.toInt_inj] at h_271
        refine v_iconst hC dX2_hear_73 (v := 0) (by decide) ?_
        exact hR _ _ _ _ _ _ _ dX2_hear_74 rfl (Nat.le_of_ble_eq_true rfl) (Nat.le_of_ble_eq_true rfl) ⟨rfl, hW_248, ((fr_12.tr hF_249).mono rfl), (by decide)⟩
      · simp only [Int32.lt_iff_toInt_lt, Int32.le_iff_toInt_le, Int32.reduceToInt, ← Int32.toInt_inj] at h_271
        refine v_aload_n hC dX2_hear_17 rfl ?_
        refine v_aload_n hC dX2_hear_18 rfl ?_
        refine v_iload_n hC dX2_hear_19 rfl ?_
        refine v_vi hC (rest := []) m_255 e_259 rfl mi_X8_fiveTells ms_X8_fiveTells (p_X8_fiveTells hW_248 k_2 k_1) mx_X8_fiveTells ml_X2_44 (by decide) rfl (cells1 := 0) (slots1 := 0) (by decide) (by decide) (Nat.le_of_ble_eq_true rfl) (Nat.le_of_ble_eq_true rfl) rfl (Nat.le_of_ble_eq_true rfl) dX2_hear_20 (fun r_272 L_273 f_274 h_275 => ?_)
        obtain ⟨rfl, rfl⟩ := h_275
        refine v_istore hC dX2_hear_23 (by decide) (lv' := [(4, .int r_272), (3, .int i_246), (0, .ref a_0), (1, .ref a_1), (2, .ref a_2)]) rfl ?_
        refine v_iload hC dX2_hear_25 rfl ?_
        refine v_bipush hC dX2_hear_27 (v := 31) (by decide) ?_
        refine v_icmp_ne hC dX2_hear_29 (tgt := 45) (by decide) (fun h_278 => ?_) (fun h_278 => ?_)
        · simp only [Int32.lt_iff_toInt_lt, Int32.le_iff_toInt_le, Int32.reduceToInt, ← Int32.toInt_inj] at h_278
          refine v_iload hC dX2_hear_45 rfl ?_
          refine v_bipush hC dX2_hear_47 (v := 26) (by decide) ?_
          refine v_icmp_le hC dX2_hear_49 (tgt := 61) (by decide) (fun h_279 => ?_) (fun h_279 => ?_)
          · simp only [Int32.lt_iff_toInt_lt, Int32.le_iff_toInt_le, Int32.reduceToInt, ← Int32.toInt_inj] at h_279
            refine v_aload_n hC dX2_hear_61 rfl ?_
            refine v_iload hC dX2_hear_62 rfl ?_
            obtain ⟨v_281, e_280, b_282⟩ := hW_248.at m_1 t_2
            refine v_vv hC (rest := []) m_1 e_280 rfl mi_X2_add ms_X2_add (p_X2_add hW_248 k_0) mx_X2_add ml_X2_32 (by decide) rfl (cells1 := 0) (slots1 := 0) (by decide) (by decide) (Nat.le_of_ble_eq_true rfl) (Nat.le_of_ble_eq_true rfl) rfl (Nat.le_of_ble_eq_true rfl) dX2_hear_64 (fun L_284 f_285 h_286 => ?_)
            obtain ⟨rfl, hW_287, hF_288⟩ := h_286
            have hf_289 := hF_288.at e_259 rfl
            obtain ⟨v_290, h_291⟩ : ∃ v9 : Int32, i_246 + Int32.ofInt 1 = v9 := ⟨_, rfl⟩
            have h_292 := add_v (b := 1) h_291 (by first | omega | (simp only [Int32.lt_iff_toInt_lt, Int32.le_iff_toInt_le, Int32.reduceToInt, ← Int32.toInt_inj, true_and, and_true, or_true, true_or, false_or, or_false, false_and, and_false, not_true_eq_false, not_false_eq_true] <;> omega)) (by first | omega | (simp only [Int32.lt_iff_toInt_lt, Int32.le_iff_toInt_le, Int32.reduceToInt, ← Int32.toInt_inj, true_and, and_true, or_true, true_or, false_or, or_false, false_and, and_false, not_true_eq_false, not_false_eq_true] <;> omega))
            simp only [Int32.reduceToInt] at h_292
            refine v_iinc hC dX2_hear_67 (k := 1) rfl (v := v_290) h_291 (by decide) (lv' := [(3, .int v_290), (4, .int r_272), (0, .ref a_0), (1, .ref a_1), (2, .ref a_2)]) rfl ?_
            refine v_goto hC dX2_hear_70 (tgt := 7) (by decide) ?_
            refine v_pick [0, 2, 3, 4] rfl ?_
            exact ih_253 f_285 hW_287 ((hF_249.tr hF_288).mono rfl) v_290 (by first | omega | (simp only [Int32.lt_iff_toInt_lt, Int32.le_iff_toInt_le, Int32.reduceToInt, ← Int32.toInt_inj, true_and, and_true, or_true, true_or, false_or, or_false, false_and, and_false, not_true_eq_false, not_false_eq_true] <;> omega)) (by first | omega | (simp only [Int32.lt_iff_toInt_lt, Int32.le_iff_toInt_le, Int32.reduceToInt, ← Int32.toInt_inj, true_and, and_true, or_true, true_or, false_or, or_false, false_and, and_false, not_true_eq_false, not_false_eq_true] <;> omega))
          · simp only [Int32.lt_iff_toInt_lt, Int32.le_iff_toInt_le, Int32.reduceToInt, ← Int32.toInt_inj] at h_279
            refine v_iload hC dX2_hear_52 rfl ?_
            refine v_bipush hC dX2_hear_54 (v := 32) (by decide) ?_
            refine v_icmp_eq hC dX2_hear_56 (tgt := 61) (by decide) (fun h_293 => ?_) (fun h_293 => ?_)
            · simp only [Int32.lt_iff_toInt_lt, Int32.le_iff_toInt_le, Int32.reduceToInt, ← Int32.toInt_inj] at h_293
              refine v_aload_n hC dX2_hear_61 rfl ?_
              refine v_iload hC dX2_hear_62 rfl ?_
              obtain ⟨v_295, e_294, b_296⟩ := hW_248.at m_1 t_2
              refine v_vv hC (rest := []) m_1 e_294 rfl mi_X2_add ms_X2_add (p_X2_add hW_248 k_0) mx_X2_add ml_X2_32 (by decide) rfl (cells1 := 0) (slots1 := 0) (by decide) (by decide) (Nat.le_of_ble_eq_true rfl) (Nat.le_of_ble_eq_true rfl) rfl (Nat.le_of_ble_eq_true rfl) dX2_hear_64 (fun L_298 f_299 h_300 => ?_)
              obtain ⟨rfl, hW_301, hF_302⟩ := h_300
              have hf_303 := hF_302.at e_259 rfl
              obtain ⟨v_304, h_305⟩ : ∃ v9 : Int32, i_246 + Int32.ofInt 1 = v9 := ⟨_, rfl⟩
              have h_306 := add_v (b := 1) h_305 (by first | omega | (simp only [Int32.lt_iff_toInt_lt, Int32.le_iff_toInt_le, Int32.reduceToInt, ← Int32.toInt_inj, true_and, and_true, or_true, true_or, false_or, or_false, false_and, and_false, not_true_eq_false, not_false_eq_true] <;> omega)) (by first | omega | (simp only [Int32.lt_iff_toInt_lt, Int32.le_iff_toInt_le, Int32.reduceToInt, ← Int32.toInt_inj, true_and, and_true, or_true, true_or, false_or, or_false, false_and, and_false, not_true_eq_false, not_false_eq_true] <;> omega))
              simp only [Int32.reduceToInt] at h_306
              refine v_iinc hC dX2_hear_67 (k := 1) rfl (v := v_304) h_305 (by decide) (lv' := [(3, .int v_304), (4, .int r_272), (0, .ref a_0), (1, .ref a_1), (2, .ref a_2)]) rfl ?_
              refine v_goto hC dX2_hear_70 (tgt := 7) (by decide) ?_
              refine v_pick [0, 2, 3, 4] rfl ?_
              exact ih_253 f_299 hW_301 ((hF_249.tr hF_302).mono rfl) v_304 (by first | omega | (simp only [Int32.lt_iff_toInt_lt, Int32.le_iff_toInt_le, Int32.reduceToInt, ← Int32.toInt_inj, true_and, and_true, or_true, true_or, false_or, or_false, false_and, and_false, not_true_eq_false, not_false_eq_true] <;> omega)) (by first | omega | (simp only [Int32.lt_iff_toInt_lt, Int32.le_iff_toInt_le, Int32.reduceToInt, ← Int32.toInt_inj, true_and, and_true, or_true, true_or, false_or, or_false, false_and, and_false, not_true_eq_false, not_false_eq_true] <;> omega))
            · simp only [Int32.lt_iff_toInt_lt, Int32.le_iff_toInt_le, Int32.reduceToInt, ← Int32.toInt_inj] at h_293
              refine v_iconst hC dX2_hear_59 (v := 0) (by decide) ?_
              exact hR _ _ _ _ _ _ _ dX2_hear_60 rfl (Nat.le_of_ble_eq_true rfl) (Nat.le_of_ble_eq_true rfl) ⟨rfl, hW_248, ((fr_12.tr hF_249).mono rfl), (by decide)⟩
        · simp only [Int32.lt_iff_toInt_lt, Int32.le_iff_toInt_le, Int32.reduceToInt, ← Int32.toInt_inj] at h_278
          refine v_aload_n hC dX2_hear_32 rfl ?_
          obtain ⟨v_308, e_307, b_309⟩ := hW_248.at m_1 t_2
          refine v_get hC fl_X2_21 m_1 e_307 rfl dX2_hear_33 ?_
          refine v_if_le hC dX2_hear_36 (tgt := 43) (by decide) (fun h_310 => ?_) (fun h_310 => ?_)
          · simp only [Int32.lt_iff_toInt_lt, Int32.le_iff_toInt_le, Int32.reduceToInt, ← Int32.toInt_inj] at h_310
            refine v_iconst hC dX2_hear_43 (v := 0) (by decide) ?_
            exact hR _ _ _ _ _ _ _ dX2_hear_44 rfl (Nat.le_of_ble_eq_true rfl) (Nat.le_of_ble_eq_true rfl) ⟨rfl, hW_248, ((fr_12.tr hF_249).mono rfl), (by decide)⟩
          · simp only [Int32.lt_iff_toInt_lt, Int32.le_iff_toInt_le, Int32.reduceToInt, ← Int32.toInt_inj] at h_310
            refine v_iconst hC dX2_hear_39 (v := 1) (by decide) ?_
            refine v_goto hC dX2_hear_40 (tgt := 44) (by decide) ?_
            exact hR _ _ _ _ _ _ _ dX2_hear_44 rfl (Nat.le_of_ble_eq_true rfl) (Nat.le_of_ble_eq_true rfl) ⟨rfl, hW_248, ((fr_12.tr hF_249).mono rfl), (by decide)⟩
  refine v_pick [0, 1, 2, 3] rfl ?_
  exact lp_251 53 f_8 hW_11 FR.rf 0 (by decide) (by decide)
set_option maxRecDepth 100000 in
set_option maxHeartbeats 8000000 in
theorem p_X8_lastPlaceLeft {l : Launch} {E : Ez} {L : List Nat} {f : Nat → va_E} {T : Nat → va_E → Prop} {a_0 : Nat} {a_1 : Nat} {a_2 : Int32} (hW : WT T L f) (k_0 : isWalk T L E a_0) (k_1 : isClo T L E a_1) : CI l yX8_lastPlaceLeft cX8_lastPlaceLeft 5 .int 1 0 0 E [.ref a_0, .ref a_1, .int a_2] L f (fun r L1 f1 => L = L1 ∧ f = f1) := by
  refine ci_of (by decide) (Nat.le_of_ble_eq_true rfl) (fun z hz hnm hC hR => ?_)
  have hC : Cx z E cX8_lastPlaceLeft RX8 5 1 0 0 := hC
  subst hz
  show V z E 5 0 0 L f 0 [(0, .ref a_0), (1, .ref a_1), (2, .int a_2)] []
  refine v_aload_n hC dX8_lastPlaceLeft_0 rfl ?_
  obtain ⟨m_1, q_3, t_2, k_4⟩ := id k_0
  obtain ⟨v_6, v_8, v_10, v_12, e_5, b_7, b_9, b_11, b_13⟩ := hW.at m_1 t_2
  refine v_get hC fl_X8_15 m_1 e_5 rfl dX8_lastPlaceLeft_1 ?_
  refine v_iconst hC dX8_lastPlaceLeft_4 (v := 1) (by decide) ?_
  obtain ⟨v_14, h_15⟩ : ∃ v9 : Int32, v_8 - 1 = v9 := ⟨_, rfl⟩
  refine v_isub hC dX8_lastPlaceLeft_5 h_15 ?_
  have h_16 := sub_v h_15 (by first | omega | (simp only [Int32.lt_iff_toInt_lt, Int32.le_iff_toInt_le, Int32.reduceToInt, ← Int32.toInt_inj, true_and, and_true, or_true, true_or, false_or, or_false, false_and, and_false, not_true_eq_false, not_false_eq_true] <;> omega)) (by first | omega | (simp only [Int32.lt_iff_toInt_lt, Int32.le_iff_toInt_le, Int32.reduceToInt, ← Int32.toInt_inj, true_and, and_true, or_true, true_or, false_or, or_false, false_and, and_false, not_true_eq_false, not_false_eq_true] <;> omega))
  try simp only [Int32.reduceToInt] at h_16
  refine v_istore_n hC dX8_lastPlaceLeft_6 (by decide) (lv' := [(3, .int v_14), (0, .ref a_0), (1, .ref a_1), (2, .int a_2)]) rfl ?_
  have lp_157 : ∀ (n_158 : Nat) (i_155 : Int32) (b_156 : ((-1) ≤ i_155.toInt ∧ i_155.toInt ≤ 4)) (hm_160 : i_155.toInt - (-1) < (n_158 : Int)), V z E 5 0 0 L f 7 [(3, .int i_155), (0, .ref a_0), (1, .ref a_1), (2, .int a_2)] [] := by
    intro n_158
    induction n_158 with
    | zero =>
      intro i_155 b_156 hm_160
      exfalso; omega
    | succ n_158 ih_159 =>
      intro i_155 b_156 hm_160
      refine v_iload_n hC dX8_lastPlaceLeft_7 rfl ?_
      refine v_if_lt hC dX8_lastPlaceLeft_8 (tgt := 44) (by decide) (fun h_161 => ?_) (fun h_161 => ?_)
      · simp only [Int32.lt_iff_toInt_lt, Int32.le_iff_toInt_le, Int32.reduceToInt, ← Int32.toInt_inj] at h_161
        refine v_iconst hC dX8_lastPlaceLeft_44 (v := (-1)) (by decide) ?_
        exact hR _ _ _ _ _ _ _ dX8_lastPlaceLeft_45 rfl (Nat.le_of_ble_eq_true rfl) (Nat.le_of_ble_eq_true rfl) ⟨rfl, rfl⟩
      · simp only [Int32.lt_iff_toInt_lt, Int32.le_iff_toInt_le, Int32.reduceToInt, ← Int32.toInt_inj] at h_161
        refine v_aload_n hC dX8_lastPlaceLeft_11 rfl ?_
        refine v_iload_n hC dX8_lastPlaceLeft_12 rfl ?_
        refine v_aload_n hC dX8_lastPlaceLeft_13 rfl ?_
        refine v_get hC fl_X8_15 m_1 e_5 rfl dX8_lastPlaceLeft_14 ?_
        obtain ⟨v_162, h_163⟩ : ∃ v9 : Int32, a_2 * v_8 = v9 := ⟨_, rfl⟩
        refine v_imul hC dX8_lastPlaceLeft_17 h_163 ?_
        refine v_iload_n hC dX8_lastPlaceLeft_18 rfl ?_
        obtain ⟨v_165, h_166⟩ : ∃ v9 : Int32, v_162 + i_155 = v9 := ⟨_, rfl⟩
        refine v_iadd hC dX8_lastPlaceLeft_19 h_166 ?_
        refine v_vi hC (rest := []) m_1 e_5 rfl mi_X8_placeAt ms_X8_placeAt (p_X8_placeAt hW k_0) mx_X8_placeAt ml_X8_71 (by decide) rfl (cells1 := 0) (slots1 := 0) (by decide) (by decide) (Nat.le_of_ble_eq_true rfl) (Nat.le_of_ble_eq_true rfl) rfl (Nat.le_of_ble_eq_true rfl) dX8_lastPlaceLeft_20 (fun r_168 L_169 f_170 h_171 => ?_)
        obtain ⟨rfl, rfl, h_172⟩ := h_171
        refine v_istore hC dX8_lastPlaceLeft_23 (by decide) (lv' := [(4, .int r_168), (3, .int i_155), (0, .ref a_0), (1, .ref a_1), (2, .int a_2)]) rfl ?_
        refine v_aload_n hC dX8_lastPlaceLeft_25 rfl ?_
        refine v_iload hC dX8_lastPlaceLeft_26 rfl ?_
        obtain ⟨m_175, q_177, t_176, k_178⟩ := id k_1
        obtain ⟨v_180, e_179, b_181⟩ := hW.at m_175 t_176
        refine v_vi hC (rest := []) m_175 e_179 rfl mi_X1_stitchAt ms_X1_stitchAt (p_X1_stitchAt hW k_1) mx_X1_stitchAt ml_X8_74 (by decide) rfl (cells1 := 0) (slots1 := 0) (by decide) (by decide) (Nat.le_of_ble_eq_true rfl) (Nat.le_of_ble_eq_true rfl) rfl (Nat.le_of_ble_eq_true rfl) dX8_lastPlaceLeft_28 (fun r_182 L_183 f_184 h_185 => ?_)
        obtain ⟨rfl, rfl, h_186⟩ := h_185
        refine v_iconst hC dX8_lastPlaceLeft_31 (v := 4) (by decide) ?_
        refine v_icmp_eq hC dX8_lastPlaceLeft_32 (tgt := 38) (by decide) (fun h_189 => ?_) (fun h_189 => ?_)
        · simp only [Int32.lt_iff_toInt_lt, Int32.le_iff_toInt_le, Int32.reduceToInt, ← Int32.toInt_inj] at h_189
          obtain ⟨v_190, h_191⟩ : ∃ v9 : Int32, i_155 + Int32.ofInt (-1) = v9 := ⟨_, rfl⟩
          have h_192 := add_v (b := (-1)) h_191 (by first | omega | (simp only [Int32.lt_iff_toInt_lt, Int32.le_iff_toInt_le, Int32.reduceToInt, ← Int32.toInt_inj, true_and, and_true, or_true, true_or, false_or, or_false, false_and, and_false, not_true_eq_false, not_false_eq_true] <;> omega)) (by first | omega | (simp only [Int32.lt_iff_toInt_lt, Int32.le_iff_toInt_le, Int32.reduceToInt, ← Int32.toInt_inj, true_and, and_true, or_true, true_or, false_or, or_false, false_and, and_false, not_true_eq_false, not_false_eq_true] <;> omega))
          simp only [Int32.reduceToInt] at h_192
          refine v_iinc hC dX8_lastPlaceLeft_38 (k := 1) rfl (v := v_190) h_191 (by decide) (lv' := [(3, .int v_190), (4, .int r_168), (0, .ref a_0), (1, .ref a_1), (2, .int a_2)]) rfl ?_
          refine v_goto hC dX8_lastPlaceLeft_41 (tgt := 7) (by decide) ?_
          refine v_pick [0, 2, 3, 4] rfl ?_
          exact ih_159 v_190 (by first | omega | (simp only [Int32.lt_iff_toInt_lt, Int32.le_iff_toInt_le, Int32.reduceToInt, ← Int32.toInt_inj, true_and, and_true, or_true, true_or, false_or, or_false, false_and, and_false, not_true_eq_false, not_false_eq_true] <;> omega)) (by first | omega | (simp only [Int32.lt_iff_toInt_lt, Int32.le_iff_toInt_le, Int32.reduceToInt, ← Int32.toInt_inj, true_and, and_true, or_true, true_or, false_or, or_false, false_and, and_false, not_true_eq_false, not_false_eq_true] <;> omega))
        · simp only [Int32.lt_iff_toInt_lt, Int32.le_iff_toInt_le, Int32.reduceToInt, ← Int32.toInt_inj] at h_189
          refine v_iload hC dX8_lastPlaceLeft_35 rfl ?_
          exact hR _ _ _ _ _ _ _ dX8_lastPlaceLeft_37 rfl (Nat.le_of_ble_eq_true rfl) (Nat.le_of_ble_eq_true rfl) ⟨rfl, rfl⟩
  refine v_pick [0, 1, 2, 3] rfl ?_
  exact lp_157 7 v_14 (by first | omega | (simp only [Int32.lt_iff_toInt_lt, Int32.le_iff_toInt_le, Int32.reduceToInt, ← Int32.toInt_inj, true_and, and_true, or_true, true_or, false_or, or_false, false_and, and_false, not_true_eq_false, not_false_eq_true] <;> omega)) (by first | omega | (simp only [Int32.lt_iff_toInt_lt, Int32.le_iff_toInt_le, Int32.reduceToInt, ← Int32.toInt_inj, true_and, and_true, or_true, true_or, false_or, or_false, false_and, and_false, not_true_eq_false, not_false_eq_true] <;> omega))
set_option maxRecDepth 100000 in
set_option maxHeartbeats 8000000 in
theorem p_X8_setBit {l : Launch} {E : Ez} {L : List Nat} {f : Nat → va_E} {T : Nat → va_E → Prop} {a_0 : Nat} {a_1 : Nat} {a_2 : Nat} {a_3 : Int32} {a_4 : Int32} (hW : WT T L f) (k_0 : isWalk T L E a_0) (k_1 : isClo T L E a_1) (k_2 : isPat T L E a_2) : CI l yX8_setBit cX8_setBit 9 .int 3 0 0 E [.ref a_0, .ref a_1, .ref a_2, .int a_3, .int a_4] L f (fun r L1 f1 => L = L1 ∧ WT T L f1 ∧ FR [356] f f1) := by
  refine ci_of (by decide) (Nat.le_of_ble_eq_true rfl) (fun z hz hnm hC hR => ?_)
  have hC : Cx z E cX8_setBit RX8 9 3 0 0 := hC
  subst hz
  show V z E 9 0 0 L f 0 [(0, .ref a_0), (1, .ref a_1), (2, .ref a_2), (3, .int a_3), (4, .int a_4)] []
  refine v_iconst hC dX8_setBit_0 (v := 0) (by decide) ?_
  refine v_istore hC dX8_setBit_1 (by decide) (lv' := [(5, .int 0), (0, .ref a_0), (1, .ref a_1), (2, .ref a_2), (3, .int a_3), (4, .int a_4)]) rfl ?_
  refine v_iconst hC dX8_setBit_3 (v := 0) (by decide) ?_
  refine v_istore hC dX8_setBit_4 (by decide) (lv' := [(6, .int 0), (5, .int 0), (0, .ref a_0), (1, .ref a_1), (2, .ref a_2), (3, .int a_3), (4, .int a_4)]) rfl ?_
  have lp_966 : ∀ (n_967 : Nat) (f_962 : Nat → va_E) (hW_963 : WT T L f_962) (hF_964 : FR [356] f f_962) (i_960 : Int32) (b_965 : (0 ≤ i_960.toInt ∧ i_960.toInt ≤ 5)) (i_961 : Int32) (hm_969 : 5 - i_960.toInt < (n_967 : Int)), V z E 9 0 0 L f_962 6 [(6, .int i_960), (5, .int i_961), (0, .ref a_0), (1, .ref a_1), (2, .ref a_2), (3, .int a_3), (4, .int a_4)] [] := by
    intro n_967
    induction n_967 with
    | zero =>
      intro f_962 hW_963 hF_964 i_960 b_965 i_961 hm_969
      exfalso; omega
    | succ n_967 ih_968 =>
      intro f_962 hW_963 hF_964 i_960 b_965 i_961 hm_969
      refine v_iload hC dX8_setBit_6 rfl ?_
      refine v_aload_n hC dX8_setBit_8 rfl ?_
      obtain ⟨m_970, q_972, t_971, k_973⟩ := id k_0
      obtain ⟨v_975, v_977, v_979, v_981, e_974, b_976, b_978, b_980, b_982⟩ := hW_963.at m_970 t_971
      refine v_get hC fl_X8_19 m_970 e_974 rfl dX8_setBit_9 ?_
      refine v_icmp_ge hC dX8_setBit_12 (tgt := 80) (by decide) (fun h_983 => ?_) (fun h_983 => ?_)
      · simp only [Int32.lt_iff_toInt_lt, Int32.le_iff_toInt_le, Int32.reduceToInt, ← Int32.toInt_inj] at h_983
        refine v_iload hC dX8_setBit_80 rfl ?_
        exact hR _ _ _ _ _ _ _ dX8_setBit_82 rfl (Nat.le_of_ble_eq_true rfl) (Nat.le_of_ble_eq_true rfl) ⟨rfl, hW_963, (hF_964.mono rfl)⟩
      · simp only [Int32.lt_iff_toInt_lt, Int32.le_iff_toInt_le, Int32.reduceToInt, ← Int32.toInt_inj] at h_983
        refine v_iload_n hC dX8_setBit_15 rfl ?_
        refine v_aload_n hC dX8_setBit_16 rfl ?_
        refine v_get hC fl_X8_19 m_970 e_974 rfl dX8_setBit_17 ?_
        obtain ⟨v_984, h_985⟩ : ∃ v9 : Int32, a_3 * v_979 = v9 := ⟨_, rfl⟩
        refine v_imul hC dX8_setBit_20 h_985 ?_
        refine v_iload hC dX8_setBit_21 rfl ?_
        obtain ⟨v_987, h_988⟩ : ∃ v9 : Int32, v_984 + i_960 = v9 := ⟨_, rfl⟩
        refine v_iadd hC dX8_setBit_23 h_988 ?_
        refine v_istore hC dX8_setBit_24 (by decide) (lv' := [(7, .int v_987), (6, .int i_960), (5, .int i_961), (0, .ref a_0), (1, .ref a_1), (2, .ref a_2), (3, .int a_3), (4, .int a_4)]) rfl ?_
        refine v_aload_n hC dX8_setBit_26 rfl ?_
        refine v_aload_n hC dX8_setBit_27 rfl ?_
        refine v_iload hC dX8_setBit_28 rfl ?_
        refine v_vi hC (rest := []) m_970 e_974 rfl mi_X8_groupTells ms_X8_groupTells (p_X8_groupTells hW_963 k_0 k_1) mx_X8_groupTells ml_X8_79 (by decide) rfl (cells1 := 0) (slots1 := 0) (by decide) (by decide) (Nat.le_of_ble_eq_true rfl) (Nat.le_of_ble_eq_true rfl) rfl (Nat.le_of_ble_eq_true rfl) dX8_setBit_30 (fun r_990 L_991 f_992 h_993 => ?_)
        obtain ⟨rfl, rfl⟩ := h_993
        refine v_iload hC dX8_setBit_33 rfl ?_
        refine v_icmp_eq hC dX8_setBit_35 (tgt := 74) (by decide) (fun h_996 => ?_) (fun h_996 => ?_)
        · simp only [Int32.lt_iff_toInt_lt, Int32.le_iff_toInt_le, Int32.reduceToInt, ← Int32.toInt_inj] at h_996
          obtain ⟨v_997, h_998⟩ : ∃ v9 : Int32, i_960 + Int32.ofInt 1 = v9 := ⟨_, rfl⟩
          have h_999 := add_v (b := 1) h_998 (by first | omega | (simp only [Int32.lt_iff_toInt_lt, Int32.le_iff_toInt_le, Int32.reduceToInt, ← Int32.toInt_inj, true_and, and_true, or_true, true_or, false_or, or_false, false_and, and_false, not_true_eq_false, not_false_eq_true] <;> omega)) (by first | omega | (simp only [Int32.lt_iff_toInt_lt, Int32.le_iff_toInt_le, Int32.reduceToInt, ← Int32.toInt_inj, true_and, and_true, or_true, true_or, false_or, or_false, false_and, and_false, not_true_eq_false, not_false_eq_true] <;> omega))
          simp only [Int32.reduceToInt] at h_999
          refine v_iinc hC dX8_setBit_74 (k := 1) rfl (v := v_997) h_998 (by decide) (lv' := [(6, .int v_997), (7, .int v_987), (5, .int i_961), (0, .ref a_0), (1, .ref a_1), (2, .ref a_2), (3, .int a_3), (4, .int a_4)]) rfl ?_
          refine v_goto hC dX8_setBit_77 (tgt := 6) (by decide) ?_
          refine v_pick [0, 2, 3, 4, 5, 6, 7] rfl ?_
          exact ih_968 f_962 hW_963 (hF_964.mono rfl) v_997 (by first | omega | (simp only [Int32.lt_iff_toInt_lt, Int32.le_iff_toInt_le, Int32.reduceToInt, ← Int32.toInt_inj, true_and, and_true, or_true, true_or, false_or, or_false, false_and, and_false, not_true_eq_false, not_false_eq_true] <;> omega)) i_961 (by first | omega | (simp only [Int32.lt_iff_toInt_lt, Int32.le_iff_toInt_le, Int32.reduceToInt, ← Int32.toInt_inj, true_and, and_true, or_true, true_or, false_or, or_false, false_and, and_false, not_true_eq_false, not_false_eq_true] <;> omega))
        · simp only [Int32.lt_iff_toInt_lt, Int32.le_iff_toInt_le, Int32.reduceToInt, ← Int32.toInt_inj] at h_996
          refine v_aload_n hC dX8_setBit_38 rfl ?_
          refine v_aload_n hC dX8_setBit_39 rfl ?_
          refine v_iload hC dX8_setBit_40 rfl ?_
          refine v_vi hC (rest := []) m_970 e_974 rfl mi_X8_lastPlaceLeft ms_X8_lastPlaceLeft (p_X8_lastPlaceLeft hW_963 k_0 k_1) mx_X8_lastPlaceLeft ml_X8_86 (by decide) rfl (cells1 := 0) (slots1 := 0) (by decide) (by decide) (Nat.le_of_ble_eq_true rfl) (Nat.le_of_ble_eq_true rfl) rfl (Nat.le_of_ble_eq_true rfl) dX8_setBit_42 (fun r_1000 L_1001 f_1002 h_1003 => ?_)
          obtain ⟨rfl, rfl⟩ := h_1003
          refine v_istore hC dX8_setBit_45 (by decide) (lv' := [(8, .int r_1000), (7, .int v_987), (6, .int i_960), (5, .int i_961), (0, .ref a_0), (1, .ref a_1), (2, .ref a_2), (3, .int a_3), (4, .int a_4)]) rfl ?_
          refine v_iload hC dX8_setBit_47 rfl ?_
          refine v_iconst hC dX8_setBit_49 (v := (-1)) (by decide) ?_
          refine v_icmp_eq hC dX8_setBit_50 (tgt := 74) (by decide) (fun h_1006 => ?_) (fun h_1006 => ?_)
          · simp only [Int32.lt_iff_toInt_lt, Int32.le_iff_toInt_le, Int32.reduceToInt, ← Int32.toInt_inj] at h_1006
            obtain ⟨v_1007, h_1008⟩ : ∃ v9 : Int32, i_960 + Int32.ofInt 1 = v9 := ⟨_, rfl⟩
            have h_1009 := add_v (b := 1) h_1008 (by first | omega | (simp only [Int32.lt_iff_toInt_lt, Int32.le_iff_toInt_le, Int32.reduceToInt, ← Int32.toInt_inj, true_and, and_true, or_true, true_or, false_or, or_false, false_and, and_false, not_true_eq_false, not_false_eq_true] <;> omega)) (by first | omega | (simp only [Int32.lt_iff_toInt_lt, Int32.le_iff_toInt_le, Int32.reduceToInt, ← Int32.toInt_inj, true_and, and_true, or_true, true_or, false_or, or_false, false_and, and_false, not_true_eq_false, not_false_eq_true] <;> omega))
            simp only [Int32.reduceToInt] at h_1009
            refine v_iinc hC dX8_setBit_74 (k := 2) rfl (v := v_1007) h_1008 (by decide) (lv' := [(6, .int v_1007), (8, .int r_1000), (7, .int v_987), (5, .int i_961), (0, .ref a_0), (1, .ref a_1), (2, .ref a_2), (3, .int a_3), (4, .int a_4)]) rfl ?_
            refine v_goto hC dX8_setBit_77 (tgt := 6) (by decide) ?_
            refine v_pick [0, 3, 4, 5, 6, 7, 8] rfl ?_
            exact ih_968 f_962 hW_963 (hF_964.mono rfl) v_1007 (by first | omega | (simp only [Int32.lt_iff_toInt_lt, Int32.le_iff_toInt_le, Int32.reduceToInt, ← Int32.toInt_inj, true_and, and_true, or_true, true_or, false_or, or_false, false_and, and_false, not_true_eq_false, not_false_eq_true] <;> omega)) i_961 (by first | omega | (simp only [Int32.lt_iff_toInt_lt, Int32.le_iff_toInt_le, Int32.reduceToInt, ← Int32.toInt_inj, true_and, and_true, or_true, true_or, false_or, or_false, false_and, and_false, not_true_eq_false, not_false_eq_true] <;> omega))
          · simp only [Int32.lt_iff_toInt_lt, Int32.le_iff_toInt_le, Int32.reduceToInt, ← Int32.toInt_inj] at h_1006
            refine v_aload_n hC dX8_setBit_53 rfl ?_
            refine v_iload hC dX8_setBit_54 rfl ?_
            refine v_aload_n hC dX8_setBit_56 rfl ?_
            refine v_iload hC dX8_setBit_57 rfl ?_
            refine v_aload_n hC dX8_setBit_59 rfl ?_
            refine v_iload hC dX8_setBit_60 rfl ?_
            obtain ⟨m_1010, q_1012, t_1011, k_1013⟩ := id k_1
            obtain ⟨v_1015, e_1014, b_1016⟩ := hW_963.at m_1010 t_1011
            refine v_vi hC (rest := [.int r_1000, .ref a_2, .int r_1000, .ref a_1]) m_1010 e_1014 rfl mi_X1_stitchAt ms_X1_stitchAt (p_X1_stitchAt hW_963 k_1) mx_X1_stitchAt ml_X8_74 (by decide) rfl (cells1 := 0) (slots1 := 0) (by decide) (by decide) (Nat.le_of_ble_eq_true rfl) (Nat.le_of_ble_eq_true rfl) rfl (Nat.le_of_ble_eq_true rfl) dX8_setBit_62 (fun r_1017 L_1018 f_1019 h_1020 => ?_)
            obtain ⟨rfl, rfl, h_1021⟩ := h_1020
            obtain ⟨m_1024, q_1026, q_1027, t_1025, k_1028, k_1029⟩ := id k_2
            obtain ⟨v_1031, v_1033, v_1035, e_1030, b_1032, b_1034, b_1036⟩ := hW_963.at m_1024 t_1025
            refine v_vi hC (rest := [.int r_1000, .ref a_1]) m_1024 e_1030 rfl mi_X4_turnedOver ms_X4_turnedOver (p_X4_turnedOver hW_963 k_2) mx_X4_turnedOver ml_X8_89 (by decide) rfl (cells1 := 0) (slots1 := 0) (by decide) (by decide) (Nat.le_of_ble_eq_true rfl) (Nat.le_of_ble_eq_true rfl) rfl (Nat.le_of_ble_eq_true rfl) dX8_setBit_65 (fun r_1037 L_1038 f_1039 h_1040 => ?_)
            obtain ⟨rfl, rfl, b_1041, h_1042⟩ := h_1040
            refine v_vv hC (rest := []) m_1010 e_1014 rfl mi_X1_setStitch ms_X1_setStitch (p_X1_setStitch hW_963 k_1) mx_X1_setStitch ml_X8_92 (by decide) rfl (cells1 := 0) (slots1 := 0) (by decide) (by decide) (Nat.le_of_ble_eq_true rfl) (Nat.le_of_ble_eq_true rfl) rfl (Nat.le_of_ble_eq_true rfl) dX8_setBit_68 (fun L_1046 f_1047 h_1048 => ?_)
            obtain ⟨rfl, hW_1049, hF_1050⟩ := h_1048
            have hf_1051 := hF_1050.at e_974 rfl
            have hf_1052 := hF_1050.at e_1014 rfl
            have hf_1053 := hF_1050.at e_1030 rfl
            obtain ⟨v_1054, h_1055⟩ : ∃ v9 : Int32, i_961 + Int32.ofInt 1 = v9 := ⟨_, rfl⟩
            refine v_iinc hC dX8_setBit_71 (k := 3) rfl (v := v_1054) h_1055 (by decide) (lv' := [(5, .int v_1054), (8, .int r_1000), (7, .int v_987), (6, .int i_960), (0, .ref a_0), (1, .ref a_1), (2, .ref a_2), (3, .int a_3), (4, .int a_4)]) rfl ?_
            obtain ⟨v_1056, h_1057⟩ : ∃ v9 : Int32, i_960 + Int32.ofInt 1 = v9 := ⟨_, rfl⟩
            have h_1058 := add_v (b := 1) h_1057 (by first | omega | (simp only [Int32.lt_iff_toInt_lt, Int32.le_iff_toInt_le, Int32.reduceToInt, ← Int32.toInt_inj, true_and, and_true, or_true, true_or, false_or, or_false, false_and, and_false, not_true_eq_false, not_false_eq_true] <;> omega)) (by first | omega | (simp only [Int32.lt_iff_toInt_lt, Int32.le_iff_toInt_le, Int32.reduceToInt, ← Int32.toInt_inj, true_and, and_true, or_true, true_or, false_or, or_false, false_and, and_false, not_true_eq_false, not_false_eq_true] <;> omega))
            simp only [Int32.reduceToInt] at h_1058
            refine v_iinc hC dX8_setBit_74 (k := 3) rfl (v := v_1056) h_1057 (by decide) (lv' := [(6, .int v_1056), (5, .int v_1054), (8, .int r_1000), (7, .int v_987), (0, .ref a_0), (1, .ref a_1), (2, .ref a_2), (3, .int a_3), (4, .int a_4)]) rfl ?_
            refine v_goto hC dX8_setBit_77 (tgt := 6) (by decide) ?_
            refine v_pick [0, 1, 4, 5, 6, 7, 8] rfl ?_
            exact ih_968 f_1047 hW_1049 ((hF_964.tr hF_1050).mono rfl) v_1056 (by first | omega | (simp only [Int32.lt_iff_toInt_lt, Int32.le_iff_toInt_le, Int32.reduceToInt, ← Int32.toInt_inj, true_and, and_true, or_true, true_or, false_or, or_false, false_and, and_false, not_true_eq_false, not_false_eq_true] <;> omega)) v_1054 (by first | omega | (simp only [Int32.lt_iff_toInt_lt, Int32.le_iff_toInt_le, Int32.reduceToInt, ← Int32.toInt_inj, true_and, and_true, or_true, true_or, false_or, or_false, false_and, and_false, not_true_eq_false, not_false_eq_true] <;> omega))
  refine v_pick [0, 1, 2, 3, 4, 5, 6] rfl ?_
  exact lp_966 7 f hW FR.rf 0 (by decide) 0 (by decide)
set_option maxRecDepth 100000 in
set_option maxHeartbeats 8000000 in
theorem p_X2_weaveInto {l : Launch} {E : Ez} {L : List Nat} {f : Nat → va_E} {T : Nat → va_E → Prop} {a_0 : Nat} {a_1 : Nat} {a_2 : Nat} {a_3 : Nat} (hW : WT T L f) (k_0 : isLet T L E a_0) (k_1 : isClo T L E a_1) (k_2 : isPat T L E a_2) (k_3 : isWalk T L E a_3) : CI l yX2_weaveInto cX2_weaveInto 9 .int 4 0 0 E [.ref a_0, .ref a_1, .ref a_2, .ref a_3] L f (fun r L1 f1 => L = L1 ∧ WT T L f1 ∧ FR [356] f f1) := by
  refine ci_of (by decide) (Nat.le_of_ble_eq_true rfl) (fun z hz hnm hC hR => ?_)
  have hC : Cx z E cX2_weaveInto RX2 9 4 0 0 := hC
  subst hz
  show V z E 9 0 0 L f 0 [(0, .ref a_0), (1, .ref a_1), (2, .ref a_2), (3, .ref a_3)] []
  refine v_iconst hC dX2_weaveInto_0 (v := 0) (by decide) ?_
  refine v_istore hC dX2_weaveInto_1 (by decide) (lv' := [(4, .int 0), (0, .ref a_0), (1, .ref a_1), (2, .ref a_2), (3, .ref a_3)]) rfl ?_
  refine v_iconst hC dX2_weaveInto_3 (v := 0) (by decide) ?_
  refine v_istore hC dX2_weaveInto_4 (by decide) (lv' := [(5, .int 0), (4, .int 0), (0, .ref a_0), (1, .ref a_1), (2, .ref a_2), (3, .ref a_3)]) rfl ?_
  have lp_2652 : ∀ (n_2653 : Nat) (f_2648 : Nat → va_E) (hW_2649 : WT T L f_2648) (hF_2650 : FR [356] f f_2648) (i_2646 : Int32) (b_2651 : (0 ≤ i_2646.toInt ∧ i_2646.toInt ≤ 52)) (i_2647 : Int32) (hm_2655 : 52 - i_2646.toInt < (n_2653 : Int)), V z E 9 0 0 L f_2648 6 [(5, .int i_2646), (4, .int i_2647), (0, .ref a_0), (1, .ref a_1), (2, .ref a_2), (3, .ref a_3)] [] := by
    intro n_2653
    induction n_2653 with
    | zero =>
      intro f_2648 hW_2649 hF_2650 i_2646 b_2651 i_2647 hm_2655
      exfalso; omega
    | succ n_2653 ih_2654 =>
      intro f_2648 hW_2649 hF_2650 i_2646 b_2651 i_2647 hm_2655
      refine v_iload hC dX2_weaveInto_6 rfl ?_
      refine v_aload_n hC dX2_weaveInto_8 rfl ?_
      obtain ⟨m_2656, q_2658, t_2657, k_2659⟩ := id k_0
      obtain ⟨v_2661, e_2660, b_2662⟩ := hW_2649.at m_2656 t_2657
      refine v_get hC fl_X2_21 m_2656 e_2660 rfl dX2_weaveInto_9 ?_
      refine v_icmp_gt hC dX2_weaveInto_12 (tgt := 89) (by decide) (fun h_2663 => ?_) (fun h_2663 => ?_)
      · simp only [Int32.lt_iff_toInt_lt, Int32.le_iff_toInt_le, Int32.reduceToInt, ← Int32.toInt_inj] at h_2663
        refine v_iload hC dX2_weaveInto_89 rfl ?_
        exact hR _ _ _ _ _ _ _ dX2_weaveInto_91 rfl (Nat.le_of_ble_eq_true rfl) (Nat.le_of_ble_eq_true rfl) ⟨rfl, hW_2649, (hF_2650.mono rfl)⟩
      · simp only [Int32.lt_iff_toInt_lt, Int32.le_iff_toInt_le, Int32.reduceToInt, ← Int32.toInt_inj] at h_2663
        refine v_iload hC dX2_weaveInto_15 rfl ?_
        refine v_aload_n hC dX2_weaveInto_17 rfl ?_
        refine v_get hC fl_X2_21 m_2656 e_2660 rfl dX2_weaveInto_18 ?_
        have jn_2672 : ∀ (v_2673 : Int32), V z E 9 0 0 L f_2648 35 [(5, .int i_2646), (4, .int i_2647), (0, .ref a_0), (1, .ref a_1), (2, .ref a_2), (3, .ref a_3)] [.int v_2673] := by
          intro v_2673
          refine v_istore hC dX2_weaveInto_35 (by decide) (lv' := [(6, .int v_2673), (5, .int i_2646), (4, .int i_2647), (0, .ref a_0), (1, .ref a_1), (2, .ref a_2), (3, .ref a_3)]) rfl ?_
          refine v_iconst hC dX2_weaveInto_37 (v := 0) (by decide) ?_
          refine v_istore hC dX2_weaveInto_38 (by decide) (lv' := [(7, .int 0), (6, .int v_2673), (5, .int i_2646), (4, .int i_2647), (0, .ref a_0), (1, .ref a_1), (2, .ref a_2), (3, .ref a_3)]) rfl ?_
          have lp_2948 : ∀ (n_2949 : Nat) (f_2943 : Nat → va_E) (hW_2944 : WT T L f_2943) (hF_2945 : FR [356] f_2648 f_2943) (i_2941 : Int32) (b_2947 : (0 ≤ i_2941.toInt ∧ i_2941.toInt ≤ 5)) (i_2942 : Int32) (hm_2951 : 5 - i_2941.toInt < (n_2949 : Int)), V z E 9 0 0 L f_2943 40 [(7, .int i_2941), (6, .int v_2673), (5, .int i_2646), (4, .int i_2942), (0, .ref a_0), (1, .ref a_1), (2, .ref a_2), (3, .ref a_3)] [] := by
            intro n_2949
            induction n_2949 with
            | zero =>
              intro f_2943 hW_2944 hF_2945 i_2941 b_2947 i_2942 hm_2951
              have hf_2946 := hF_2945.at e_2660 rfl
              exfalso; omega
            | succ n_2949 ih_2950 =>
              intro f_2943 hW_2944 hF_2945 i_2941 b_2947 i_2942 hm_2951
              have hf_2946 := hF_2945.at e_2660 rfl
              refine v_iload hC dX2_weaveInto_40 rfl ?_
              refine v_iconst hC dX2_weaveInto_42 (v := 5) (by decide) ?_
              refine v_icmp_ge hC dX2_weaveInto_43 (tgt := 83) (by decide) (fun h_2952 => ?_) (fun h_2952 => ?_)
              · simp only [Int32.lt_iff_toInt_lt, Int32.le_iff_toInt_le, Int32.reduceToInt, ← Int32.toInt_inj] at h_2952
                obtain ⟨v_2953, h_2954⟩ : ∃ v9 : Int32, i_2646 + Int32.ofInt 1 = v9 := ⟨_, rfl⟩
                have h_2955 := add_v (b := 1) h_2954 (by first | omega | (simp only [Int32.lt_iff_toInt_lt, Int32.le_iff_toInt_le, Int32.reduceToInt, ← Int32.toInt_inj, true_and, and_true, or_true, true_or, false_or, or_false, false_and, and_false, not_true_eq_false, not_false_eq_true] <;> omega)) (by first | omega | (simp only [Int32.lt_iff_toInt_lt, Int32.le_iff_toInt_le, Int32.reduceToInt, ← Int32.toInt_inj, true_and, and_true, or_true, true_or, false_or, or_false, false_and, and_false, not_true_eq_false, not_false_eq_true] <;> omega))
                simp only [Int32.reduceToInt] at h_2955
                refine v_iinc hC dX2_weaveInto_83 (k := 2) rfl (v := v_2953) h_2954 (by decide) (lv' := [(5, .int v_2953), (7, .int i_2941), (6, .int v_2673), (4, .int i_2942), (0, .ref a_0), (1, .ref a_1), (2, .ref a_2), (3, .ref a_3)]) rfl ?_
                refine v_goto hC dX2_weaveInto_86 (tgt := 6) (by decide) ?_
                refine v_pick [0, 3, 4, 5, 6, 7] rfl ?_
                exact ih_2654 f_2943 hW_2944 ((hF_2650.tr hF_2945).mono rfl) v_2953 (by first | omega | (simp only [Int32.lt_iff_toInt_lt, Int32.le_iff_toInt_le, Int32.reduceToInt, ← Int32.toInt_inj, true_and, and_true, or_true, true_or, false_or, or_false, false_and, and_false, not_true_eq_false, not_false_eq_true] <;> omega)) i_2942 (by first | omega | (simp only [Int32.lt_iff_toInt_lt, Int32.le_iff_toInt_le, Int32.reduceToInt, ← Int32.toInt_inj, true_and, and_true, or_true, true_or, false_or, or_false, false_and, and_false, not_true_eq_false, not_false_eq_true] <;> omega))
              · simp only [Int32.lt_iff_toInt_lt, Int32.le_iff_toInt_le, Int32.reduceToInt, ← Int32.toInt_inj] at h_2952
                refine v_iload hC dX2_weaveInto_46 rfl ?_
                refine v_iconst hC dX2_weaveInto_48 (v := 4) (by decide) ?_
                refine v_iload hC dX2_weaveInto_49 rfl ?_
                obtain ⟨v_2956, h_2957⟩ : ∃ v9 : Int32, (4 : Int32) - i_2941 = v9 := ⟨_, rfl⟩
                refine v_isub hC dX2_weaveInto_51 h_2957 ?_
                have h_2958 := sub_v h_2957 (by first | omega | (simp only [Int32.lt_iff_toInt_lt, Int32.le_iff_toInt_le, Int32.reduceToInt, ← Int32.toInt_inj, true_and, and_true, or_true, true_or, false_or, or_false, false_and, and_false, not_true_eq_false, not_false_eq_true] <;> omega)) (by first | omega | (simp only [Int32.lt_iff_toInt_lt, Int32.le_iff_toInt_le, Int32.reduceToInt, ← Int32.toInt_inj, true_and, and_true, or_true, true_or, false_or, or_false, false_and, and_false, not_true_eq_false, not_false_eq_true] <;> omega))
                try simp only [Int32.reduceToInt] at h_2958
                obtain ⟨v_2959, h_2960⟩ : ∃ v9 : Int32, v_2673 >>> (v_2956 &&& 31) = v9 := ⟨_, rfl⟩
                refine v_ishr hC dX2_weaveInto_52 h_2960 ?_
                refine v_iconst hC dX2_weaveInto_53 (v := 1) (by decide) ?_
                obtain ⟨v_2962, h_2963⟩ : ∃ v9 : Int32, v_2959 &&& 1 = v9 := ⟨_, rfl⟩
                refine v_iand hC dX2_weaveInto_54 h_2963 ?_
                have h_2964 := and_v h_2963 (by decide)
                try simp only [Int32.reduceToInt] at h_2964
                refine v_istore hC dX2_weaveInto_55 (by decide) (lv' := [(8, .int v_2962), (7, .int i_2941), (6, .int v_2673), (5, .int i_2646), (4, .int i_2942), (0, .ref a_0), (1, .ref a_1), (2, .ref a_2), (3, .ref a_3)]) rfl ?_
                refine v_iload hC dX2_weaveInto_57 rfl ?_
                refine v_aload_n hC dX2_weaveInto_59 rfl ?_
                refine v_aload_n hC dX2_weaveInto_60 rfl ?_
                refine v_aload_n hC dX2_weaveInto_61 rfl ?_
                refine v_iload hC dX2_weaveInto_62 rfl ?_
                refine v_iconst hC dX2_weaveInto_64 (v := 5) (by decide) ?_
                obtain ⟨v_2965, h_2966⟩ : ∃ v9 : Int32, i_2646 * 5 = v9 := ⟨_, rfl⟩
                refine v_imul hC dX2_weaveInto_65 h_2966 ?_
                have h_2967 := mul_v 51 5 255 h_2966 (by first | omega | (simp only [Int32.lt_iff_toInt_lt, Int32.le_iff_toInt_le, Int32.reduceToInt, ← Int32.toInt_inj, true_and, and_true, or_true, true_or, false_or, or_false, false_and, and_false, not_true_eq_false, not_false_eq_true] <;> omega)) (by decide) (by decide) (by decide)
                try simp only [Int32.reduceToInt] at h_2967
                refine v_iload hC dX2_weaveInto_66 rfl ?_
                obtain ⟨v_2968, h_2969⟩ : ∃ v9 : Int32, v_2965 + i_2941 = v9 := ⟨_, rfl⟩
                refine v_iadd hC dX2_weaveInto_68 h_2969 ?_
                have h_2970 := add_v h_2969 (by first | omega | (simp only [Int32.lt_iff_toInt_lt, Int32.le_iff_toInt_le, Int32.reduceToInt, ← Int32.toInt_inj, true_and, and_true, or_true, true_or, false_or, or_false, false_and, and_false, not_true_eq_false, not_false_eq_true] <;> omega)) (by first | omega | (simp only [Int32.lt_iff_toInt_lt, Int32.le_iff_toInt_le, Int32.reduceToInt, ← Int32.toInt_inj, true_and, and_true, or_true, true_or, false_or, or_false, false_and, and_false, not_true_eq_false, not_false_eq_true] <;> omega))
                refine v_iload hC dX2_weaveInto_69 rfl ?_
                obtain ⟨m_2971, q_2973, t_2972, k_2974⟩ := id k_3
                obtain ⟨v_2976, v_2978, v_2980, v_2982, e_2975, b_2977, b_2979, b_2981, b_2983⟩ := hW_2944.at m_2971 t_2972
                refine v_vi hC (rest := [.int i_2942]) m_2971 e_2975 rfl mi_X8_setBit ms_X8_setBit (p_X8_setBit hW_2944 k_3 k_1 k_2) mx_X8_setBit ml_X2_48 (by decide) rfl (cells1 := 0) (slots1 := 0) (by decide) (by decide) (Nat.le_of_ble_eq_true rfl) (Nat.le_of_ble_eq_true rfl) rfl (Nat.le_of_ble_eq_true rfl) dX2_weaveInto_71 (fun r_2984 L_2985 f_2986 h_2987 => ?_)
                obtain ⟨rfl, hW_2988, hF_2989⟩ := h_2987
                have hf_2990 := hF_2989.at hf_2946 rfl
                have hf_2991 := hF_2989.at e_2975 rfl
                obtain ⟨v_2992, h_2993⟩ : ∃ v9 : Int32, i_2942 + r_2984 = v9 := ⟨_, rfl⟩
                refine v_iadd hC dX2_weaveInto_74 h_2993 ?_
                refine v_istore hC dX2_weaveInto_75 (by decide) (lv' := [(4, .int v_2992), (8, .int v_2962), (7, .int i_2941), (6, .int v_2673), (5, .int i_2646), (0, .ref a_0), (1, .ref a_1), (2, .ref a_2), (3, .ref a_3)]) rfl ?_
                obtain ⟨v_2995, h_2996⟩ : ∃ v9 : Int32, i_2941 + Int32.ofInt 1 = v9 := ⟨_, rfl⟩
                have h_2997 := add_v (b := 1) h_2996 (by first | omega | (simp only [Int32.lt_iff_toInt_lt, Int32.le_iff_toInt_le, Int32.reduceToInt, ← Int32.toInt_inj, true_and, and_true, or_true, true_or, false_or, or_false, false_and, and_false, not_true_eq_false, not_false_eq_true] <;> omega)) (by first | omega | (simp only [Int32.lt_iff_toInt_lt, Int32.le_iff_toInt_le, Int32.reduceToInt, ← Int32.toInt_inj, true_and, and_true, or_true, true_or, false_or, or_false, false_and, and_false, not_true_eq_false, not_false_eq_true] <;> omega))
                simp only [Int32.reduceToInt] at h_2997
                refine v_iinc hC dX2_weaveInto_77 (k := 2) rfl (v := v_2995) h_2996 (by decide) (lv' := [(7, .int v_2995), (4, .int v_2992), (8, .int v_2962), (6, .int v_2673), (5, .int i_2646), (0, .ref a_0), (1, .ref a_1), (2, .ref a_2), (3, .ref a_3)]) rfl ?_
                refine v_goto hC dX2_weaveInto_80 (tgt := 40) (by decide) ?_
                refine v_pick [0, 3, 4, 1, 5, 6, 7, 8] rfl ?_
                exact ih_2950 f_2986 hW_2988 ((hF_2945.tr hF_2989).mono rfl) v_2995 (by first | omega | (simp only [Int32.lt_iff_toInt_lt, Int32.le_iff_toInt_le, Int32.reduceToInt, ← Int32.toInt_inj, true_and, and_true, or_true, true_or, false_or, or_false, false_and, and_false, not_true_eq_false, not_false_eq_true] <;> omega)) v_2992 (by first | omega | (simp only [Int32.lt_iff_toInt_lt, Int32.le_iff_toInt_le, Int32.reduceToInt, ← Int32.toInt_inj, true_and, and_true, or_true, true_or, false_or, or_false, false_and, and_false, not_true_eq_false, not_false_eq_true] <;> omega))
          refine v_pick [0, 1, 2, 3, 4, 5, 6, 7] rfl ?_
          exact lp_2948 7 f_2648 hW_2649 FR.rf 0 (by decide) i_2647 (by decide)
        refine v_icmp_ge hC dX2_weaveInto_21 (tgt := 33) (by decide) (fun h_2664 => ?_) (fun h_2664 => ?_)
        · simp only [Int32.lt_iff_toInt_lt, Int32.le_iff_toInt_le, Int32.reduceToInt, ← Int32.toInt_inj] at h_2664
          refine v_bipush hC dX2_weaveInto_33 (v := 31) (by decide) ?_
          refine v_pick [0, 1, 2, 3, 4, 5] rfl ?_
          exact jn_2672 31
        · simp only [Int32.lt_iff_toInt_lt, Int32.le_iff_toInt_le, Int32.reduceToInt, ← Int32.toInt_inj] at h_2664
          refine v_aload_n hC dX2_weaveInto_24 rfl ?_
          refine v_iload hC dX2_weaveInto_25 rfl ?_
          refine v_vi hC (rest := []) m_2656 e_2660 rfl mi_X2_fiveAt ms_X2_fiveAt (p_X2_fiveAt hW_2649 k_0) mx_X2_fiveAt ml_X2_36 (by decide) rfl (cells1 := 0) (slots1 := 0) (by decide) (by decide) (Nat.le_of_ble_eq_true rfl) (Nat.le_of_ble_eq_true rfl) rfl (Nat.le_of_ble_eq_true rfl) dX2_weaveInto_27 (fun r_2998 L_2999 f_3000 h_3001 => ?_)
          obtain ⟨rfl, rfl, h_3002⟩ := h_3001
          refine v_goto hC dX2_weaveInto_30 (tgt := 35) (by decide) ?_
          refine v_pick [0, 1, 2, 3, 4, 5] rfl ?_
          exact jn_2672 r_2998
  refine v_pick [0, 1, 2, 3, 4, 5] rfl ?_
  exact lp_2652 54 f hW FR.rf 0 (by decide) 0 (by decide)
set_option maxRecDepth 100000 in
set_option maxHeartbeats 8000000 in
theorem p_X1_takeFrom {l : Launch} {E : Ez} {L : List Nat} {f : Nat → va_E} {T : Nat → va_E → Prop} {a_0 : Nat} {a_1 : Nat} (hW : WT T L f) (k_0 : isClo T L E a_0) (k_1 : isClo T L E a_1) : CV l yX1_takeFrom cX1_takeFrom 2 1 0 0 E [.ref a_0, .ref a_1] L f (fun L1 f1 => L = L1 ∧ WT T L f1 ∧ FR [1, 356] f f1) := by
  refine cv_of (by decide) (Nat.le_of_ble_eq_true rfl) (fun z hz hnm hC hR => ?_)
  have hC : Cx z E cX1_takeFrom RX1 2 1 0 0 := hC
  subst hz
  show V z E 2 0 0 L f 0 [(0, .ref a_0), (1, .ref a_1)] []
  refine v_aload_n hC dX1_takeFrom_0 rfl ?_
  obtain ⟨m_1, q_3, t_2, k_4⟩ := id k_1
  obtain ⟨v_6, e_5, b_7⟩ := hW.at m_1 t_2
  refine v_get hC fl_X1_9 m_1 e_5 rfl dX1_takeFrom_1 ?_
  refine v_iconst hC dX1_takeFrom_4 (v := 0) (by decide) ?_
  refine v_aload_n hC dX1_takeFrom_5 rfl ?_
  obtain ⟨m_8, q_10, t_9, k_11⟩ := id k_0
  obtain ⟨v_13, e_12, b_14⟩ := hW.at m_8 t_9
  refine v_get hC fl_X1_9 m_8 e_12 rfl dX1_takeFrom_6 ?_
  refine v_iconst hC dX1_takeFrom_9 (v := 0) (by decide) ?_
  refine v_sipush hC dX1_takeFrom_10 (v := 256) (by decide) ?_
  obtain ⟨m_15, t_16⟩ := id k_4
  obtain ⟨g_18, e_17, fit_19⟩ := hW.at m_15 t_16
  obtain ⟨m_20, t_21⟩ := id k_11
  obtain ⟨g_23, e_22, fit_24⟩ := hW.at m_20 t_21
  refine v_copyb hC mo_X1_15 cp_n_ cp_s_ cp_i_ m_15 e_17 m_20 e_22 (by decide) (by decide) (by decide) (by decide) (by decide) fit_19 (by decide) (Nat.le_of_ble_eq_true rfl) dX1_takeFrom_13 (fun f_25 hf_26 hk_27 => ?_)
  have hW_28 := hW.up hf_26 hk_27 t_21 ⟨_, rfl, (fit_cpy fit_19 fit_24)⟩
  obtain ⟨g_29, hf_26, fit_30⟩ : ∃ g9, f_25 q_10 = aB E 256 g9 ∧ ∀ j, fits .byte (.int (g9 j)) = true := ⟨_, hf_26, (fit_cpy fit_19 fit_24)⟩
  have hf_31 := (hk_27 a_1 (ne_kd e_5 e_22 rfl)).trans e_5
  have hf_32 := (hk_27 a_0 (ne_kd e_12 e_22 rfl)).trans e_12
  have fr_33 := FR.w hk_27 e_22 (k := 356) rfl
  refine v_aload_n hC dX1_takeFrom_16 rfl ?_
  refine v_aload_n hC dX1_takeFrom_17 rfl ?_
  refine v_get hC fl_X1_21 m_1 hf_31 rfl dX1_takeFrom_18 ?_
  refine v_put hC fl_X1_21 m_8 hf_32 (nar01 (by first | omega | (simp only [Int32.lt_iff_toInt_lt, Int32.le_iff_toInt_le, Int32.reduceToInt, ← Int32.toInt_inj, true_and, and_true, or_true, true_or, false_or, or_false, false_and, and_false, not_true_eq_false, not_false_eq_true] <;> omega))) (fit01 (by first | omega | (simp only [Int32.lt_iff_toInt_lt, Int32.le_iff_toInt_le, Int32.reduceToInt, ← Int32.toInt_inj, true_and, and_true, or_true, true_or, false_or, or_false, false_and, and_false, not_true_eq_false, not_false_eq_true] <;> omega))) (Nat.le_of_ble_eq_true rfl) (fs' := [.ref q_10, .int v_6]) rfl dX1_takeFrom_21 (fun f_34 hf_35 hk_36 => ?_)
  have hW_37 := hW_28.up hf_35 hk_36 t_9 ⟨v_6, rfl, (by first | omega | (simp only [Int32.lt_iff_toInt_lt, Int32.le_iff_toInt_le, Int32.reduceToInt, ← Int32.toInt_inj, true_and, and_true, or_true, true_or, false_or, or_false, false_and, and_false, not_true_eq_false, not_false_eq_true] <;> omega))⟩
  have hf_38 := (hk_36 q_10 (ne_kd hf_26 hf_32 rfl)).trans hf_26
  have fr_39 := FR.w hk_36 hf_32 (k := 1) rfl
  exact hR _ _ _ _ _ _ dX1_takeFrom_24 (Nat.le_of_ble_eq_true rfl) (Nat.le_of_ble_eq_true rfl) ⟨rfl, hW_37, ((fr_33.tr fr_39).mono rfl)⟩
set_option maxRecDepth 100000 in
set_option maxHeartbeats 8000000 in
theorem p_X1_knitBy {l : Launch} {E : Ez} {L : List Nat} {f : Nat → va_E} {T : Nat → va_E → Prop} {a_0 : Nat} {a_1 : Nat} {a_2 : Nat} {a_3 : Int32} (hW : WT T L f) (k_0 : isClo T L E a_0) (k_1 : isPat T L E a_1) (k_2 : isI T L E 3 a_2) : CI l yX1_knitBy cX1_knitBy 10 .int 2 0 0 E [.ref a_0, .ref a_1, .ref a_2, .int a_3] L f (fun r L1 f1 => L = L1 ∧ WT T L f1 ∧ FR [1, 356] f f1) := by
  refine ci_of (by decide) (Nat.le_of_ble_eq_true rfl) (fun z hz hnm hC hR => ?_)
  have hC : Cx z E cX1_knitBy RX1 10 2 0 0 := hC
  subst hz
  show V z E 10 0 0 L f 0 [(0, .ref a_0), (1, .ref a_1), (2, .ref a_2), (3, .int a_3)] []
  refine v_aload_n hC dX1_knitBy_0 rfl ?_
  refine v_iconst hC dX1_knitBy_1 (v := 1) (by decide) ?_
  obtain ⟨m_1, q_3, t_2, k_4⟩ := id k_0
  obtain ⟨v_6, e_5, b_7⟩ := hW.at m_1 t_2
  refine v_put hC fl_X1_21 m_1 e_5 rfl rfl (Nat.le_of_ble_eq_true rfl) (fs' := [.ref q_3, .int 1]) rfl dX1_knitBy_2 (fun f_8 hf_9 hk_10 => ?_)
  have hW_11 := hW.up hf_9 hk_10 t_2 ⟨1, rfl, (by decide)⟩
  have fr_12 := FR.w hk_10 e_5 (k := 1) rfl
  refine v_iload_n hC dX1_knitBy_5 rfl ?_
  obtain ⟨v_13, h_14⟩ : ∃ v9 : Int64, a_3.toInt64 = v9 := ⟨_, rfl⟩
  refine v_i2l hC dX1_knitBy_6 h_14 ?_
  have h_15 : v_13.toInt = a_3.toInt := by rw [← h_14]; exact Int32.toInt_toInt64 _
  refine v_lstore hC dX1_knitBy_7 (by decide) (lv' := [(4, .long v_13), (0, .ref a_0), (1, .ref a_1), (2, .ref a_2), (3, .int a_3)]) rfl ?_
  refine v_iconst hC dX1_knitBy_9 (v := 0) (by decide) ?_
  refine v_istore hC dX1_knitBy_10 (by decide) (lv' := [(6, .int 0), (4, .long v_13), (0, .ref a_0), (1, .ref a_1), (2, .ref a_2), (3, .int a_3)]) rfl ?_
  refine v_iconst hC dX1_knitBy_12 (v := 0) (by decide) ?_
  refine v_istore hC dX1_knitBy_13 (by decide) (lv' := [(7, .int 0), (6, .int 0), (4, .long v_13), (0, .ref a_0), (1, .ref a_1), (2, .ref a_2), (3, .int a_3)]) rfl ?_
  have lp_1472 : ∀ (n_1473 : Nat) (f_1467 : Nat → va_E) (hW_1468 : WT T L f_1467) (hF_1469 : FR [356] f_8 f_1467) (i_1464 : Int32) (b_1471 : (0 ≤ i_1464.toInt ∧ i_1464.toInt ≤ 256)) (i_1465 : Int32) (i_1466 : Int64) (hm_1475 : 256 - i_1464.toInt < (n_1473 : Int)), V z E 10 0 0 L f_1467 15 [(7, .int i_1464), (6, .int i_1465), (4, .long i_1466), (0, .ref a_0), (1, .ref a_1), (2, .ref a_2)] [] := by
    intro n_1473
    induction n_1473 with
    | zero =>
      intro f_1467 hW_1468 hF_1469 i_1464 b_1471 i_1465 i_1466 hm_1475
      have hf_1470 := hF_1469.at hf_9 rfl
      exfalso; omega
    | succ n_1473 ih_1474 =>
      intro f_1467 hW_1468 hF_1469 i_1464 b_1471 i_1465 i_1466 hm_1475
      have hf_1470 := hF_1469.at hf_9 rfl
      refine v_iload hC dX1_knitBy_15 rfl ?_
      refine v_aload_n hC dX1_knitBy_17 rfl ?_
      obtain ⟨m_1476, q_1478, q_1479, t_1477, k_1480, k_1481⟩ := id k_1
      obtain ⟨v_1483, v_1485, v_1487, e_1482, b_1484, b_1486, b_1488⟩ := hW_1468.at m_1476 t_1477
      refine v_vi hC (rest := [.int i_1464]) m_1476 e_1482 rfl mi_X4_places ms_X4_places (p_X4_places hW_1468 k_1) mx_X4_places ml_X1_25 (by decide) rfl (cells1 := 0) (slots1 := 0) (by decide) (by decide) (Nat.le_of_ble_eq_true rfl) (Nat.le_of_ble_eq_true rfl) rfl (Nat.le_of_ble_eq_true rfl) dX1_knitBy_18 (fun r_1489 L_1490 f_1491 h_1492 => ?_)
      obtain ⟨rfl, rfl, b_1493⟩ := h_1492
      refine v_icmp_ge hC dX1_knitBy_21 (tgt := 150) (by decide) (fun h_1496 => ?_) (fun h_1496 => ?_)
      · simp only [Int32.lt_iff_toInt_lt, Int32.le_iff_toInt_le, Int32.reduceToInt, ← Int32.toInt_inj] at h_1496
        refine v_iload hC dX1_knitBy_150 rfl ?_
        exact hR _ _ _ _ _ _ _ dX1_knitBy_152 rfl (Nat.le_of_ble_eq_true rfl) (Nat.le_of_ble_eq_true rfl) ⟨rfl, hW_1468, ((fr_12.tr hF_1469).mono rfl)⟩
      · simp only [Int32.lt_iff_toInt_lt, Int32.le_iff_toInt_le, Int32.reduceToInt, ← Int32.toInt_inj] at h_1496
        refine v_aload_n hC dX1_knitBy_24 rfl ?_
        refine v_iload hC dX1_knitBy_25 rfl ?_
        refine v_vi hC (rest := []) m_1476 e_1482 rfl mi_X4_sortAt ms_X4_sortAt (p_X4_sortAt hW_1468 k_1) mx_X4_sortAt ml_X1_31 (by decide) rfl (cells1 := 0) (slots1 := 0) (by decide) (by decide) (Nat.le_of_ble_eq_true rfl) (Nat.le_of_ble_eq_true rfl) rfl (Nat.le_of_ble_eq_true rfl) dX1_knitBy_27 (fun r_1497 L_1498 f_1499 h_1500 => ?_)
        obtain ⟨rfl, rfl, h_1501⟩ := h_1500
        refine v_iconst hC dX1_knitBy_30 (v := 2) (by decide) ?_
        obtain ⟨v_1504, h_1505⟩ : ∃ v9 : Int32, r_1497 - 2 = v9 := ⟨_, rfl⟩
        refine v_isub hC dX1_knitBy_31 h_1505 ?_
        refine v_istore hC dX1_knitBy_32 (by decide) (lv' := [(8, .int v_1504), (7, .int i_1464), (6, .int i_1465), (4, .long i_1466), (0, .ref a_0), (1, .ref a_1), (2, .ref a_2)]) rfl ?_
        refine v_iload hC dX1_knitBy_34 rfl ?_
        refine v_if_lt hC dX1_knitBy_36 (tgt := 127) (by decide) (fun h_1507 => ?_) (fun h_1507 => ?_)
        · simp only [Int32.lt_iff_toInt_lt, Int32.le_iff_toInt_le, Int32.reduceToInt, ← Int32.toInt_inj] at h_1507
          refine v_aload_n hC dX1_knitBy_127 rfl ?_
          refine v_iload hC dX1_knitBy_128 rfl ?_
          refine v_iload hC dX1_knitBy_130 rfl ?_
          refine v_iconst hC dX1_knitBy_132 (v := (-1)) (by decide) ?_
          refine v_icmp_ne hC dX1_knitBy_133 (tgt := 140) (by decide) (fun h_1508 => ?_) (fun h_1508 => ?_)
          · simp only [Int32.lt_iff_toInt_lt, Int32.le_iff_toInt_le, Int32.reduceToInt, ← Int32.toInt_inj] at h_1508
            refine v_iconst hC dX1_knitBy_140 (v := 0) (by decide) ?_
            refine v_vv hC (rest := []) m_1 hf_1470 rfl mi_X1_setStitch ms_X1_setStitch (p_X1_setStitch hW_1468 k_0) mx_X1_setStitch ml_X1_48 (by decide) rfl (cells1 := 0) (slots1 := 0) (by decide) (by decide) (Nat.le_of_ble_eq_true rfl) (Nat.le_of_ble_eq_true rfl) rfl (Nat.le_of_ble_eq_true rfl) dX1_knitBy_141 (fun L_1510 f_1511 h_1512 => ?_)
            obtain ⟨rfl, hW_1513, hF_1514⟩ := h_1512
            have hf_1515 := hF_1514.at hf_1470 rfl
            have hf_1516 := hF_1514.at e_1482 rfl
            obtain ⟨v_1517, h_1518⟩ : ∃ v9 : Int32, i_1464 + Int32.ofInt 1 = v9 := ⟨_, rfl⟩
            have h_1519 := add_v (b := 1) h_1518 (by first | omega | (simp only [Int32.lt_iff_toInt_lt, Int32.le_iff_toInt_le, Int32.reduceToInt, ← Int32.toInt_inj, true_and, and_true, or_true, true_or, false_or, or_false, false_and, and_false, not_true_eq_false, not_false_eq_true] <;> omega)) (by first | omega | (simp only [Int32.lt_iff_toInt_lt, Int32.le_iff_toInt_le, Int32.reduceToInt, ← Int32.toInt_inj, true_and, and_true, or_true, true_or, false_or, or_false, false_and, and_false, not_true_eq_false, not_false_eq_true] <;> omega))
            simp only [Int32.reduceToInt] at h_1519
            refine v_iinc hC dX1_knitBy_144 (k := 1) rfl (v := v_1517) h_1518 (by decide) (lv' := [(7, .int v_1517), (8, .int v_1504), (6, .int i_1465), (4, .long i_1466), (0, .ref a_0), (1, .ref a_1), (2, .ref a_2)]) rfl ?_
            refine v_goto hC dX1_knitBy_147 (tgt := 15) (by decide) ?_
            refine v_pick [0, 2, 3, 4, 5, 6] rfl ?_
            exact ih_1474 f_1511 hW_1513 ((hF_1469.tr hF_1514).mono rfl) v_1517 (by first | omega | (simp only [Int32.lt_iff_toInt_lt, Int32.le_iff_toInt_le, Int32.reduceToInt, ← Int32.toInt_inj, true_and, and_true, or_true, true_or, false_or, or_false, false_and, and_false, not_true_eq_false, not_false_eq_true] <;> omega)) i_1465 i_1466 (by first | omega | (simp only [Int32.lt_iff_toInt_lt, Int32.le_iff_toInt_le, Int32.reduceToInt, ← Int32.toInt_inj, true_and, and_true, or_true, true_or, false_or, or_false, false_and, and_false, not_true_eq_false, not_false_eq_true] <;> omega))
          · simp only [Int32.lt_iff_toInt_lt, Int32.le_iff_toInt_le, Int32.reduceToInt, ← Int32.toInt_inj] at h_1508
            refine v_iconst hC dX1_knitBy_136 (v := 1) (by decide) ?_
            refine v_goto hC dX1_knitBy_137 (tgt := 141) (by decide) ?_
            refine v_vv hC (rest := []) m_1 hf_1470 rfl mi_X1_setStitch ms_X1_setStitch (p_X1_setStitch hW_1468 k_0) mx_X1_setStitch ml_X1_48 (by decide) rfl (cells1 := 0) (slots1 := 0) (by decide) (by decide) (Nat.le_of_ble_eq_true rfl) (Nat.le_of_ble_eq_true rfl) rfl (Nat.le_of_ble_eq_true rfl) dX1_knitBy_141 (fun L_1521 f_1522 h_1523 => ?_)
            obtain ⟨rfl, hW_1524, hF_1525⟩ := h_1523
            have hf_1526 := hF_1525.at hf_1470 rfl
            have hf_1527 := hF_1525.at e_1482 rfl
            obtain ⟨v_1528, h_1529⟩ : ∃ v9 : Int32, i_1464 + Int32.ofInt 1 = v9 := ⟨_, rfl⟩
            have h_1530 := add_v (b := 1) h_1529 (by first | omega | (simp only [Int32.lt_iff_toInt_lt, Int32.le_iff_toInt_le, Int32.reduceToInt, ← Int32.toInt_inj, true_and, and_true, or_true, true_or, false_or, or_false, false_and, and_false, not_true_eq_false, not_false_eq_true] <;> omega)) (by first | omega | (simp only [Int32.lt_iff_toInt_lt, Int32.le_iff_toInt_le, Int32.reduceToInt, ← Int32.toInt_inj, true_and, and_true, or_true, true_or, false_or, or_false, false_and, and_false, not_true_eq_false, not_false_eq_true] <;> omega))
            simp only [Int32.reduceToInt] at h_1530
            refine v_iinc hC dX1_knitBy_144 (k := 1) rfl (v := v_1528) h_1529 (by decide) (lv' := [(7, .int v_1528), (8, .int v_1504), (6, .int i_1465), (4, .long i_1466), (0, .ref a_0), (1, .ref a_1), (2, .ref a_2)]) rfl ?_
            refine v_goto hC dX1_knitBy_147 (tgt := 15) (by decide) ?_
            refine v_pick [0, 2, 3, 4, 5, 6] rfl ?_
            exact ih_1474 f_1522 hW_1524 ((hF_1469.tr hF_1525).mono rfl) v_1528 (by first | omega | (simp only [Int32.lt_iff_toInt_lt, Int32.le_iff_toInt_le, Int32.reduceToInt, ← Int32.toInt_inj, true_and, and_true, or_true, true_or, false_or, or_false, false_and, and_false, not_true_eq_false, not_false_eq_true] <;> omega)) i_1465 i_1466 (by first | omega | (simp only [Int32.lt_iff_toInt_lt, Int32.le_iff_toInt_le, Int32.reduceToInt, ← Int32.toInt_inj, true_and, and_true, or_true, true_or, false_or, or_false, false_and, and_false, not_true_eq_false, not_false_eq_true] <;> omega))
        · simp only [Int32.lt_iff_toInt_lt, Int32.le_iff_toInt_le, Int32.reduceToInt, ← Int32.toInt_inj] at h_1507
          refine v_iload hC dX1_knitBy_39 rfl ?_
          refine v_aload_n hC dX1_knitBy_41 rfl ?_
          obtain ⟨m_1531, t_1532⟩ := id k_2
          obtain ⟨g_1534, e_1533⟩ := hW_1468.at m_1531 t_1532
          refine v_alen hC m_1531 e_1533 (t := 1) rfl (v := 3) rfl dX1_knitBy_42 ?_
          refine v_icmp_ge hC dX1_knitBy_43 (tgt := 127) (by decide) (fun h_1535 => ?_) (fun h_1535 => ?_)
          · simp only [Int32.lt_iff_toInt_lt, Int32.le_iff_toInt_le, Int32.reduceToInt, ← Int32.toInt_inj] at h_1535
            refine v_aload_n hC dX1_knitBy_127 rfl ?_
            refine v_iload hC dX1_knitBy_128 rfl ?_
            refine v_iload hC dX1_knitBy_130 rfl ?_
            refine v_iconst hC dX1_knitBy_132 (v := (-1)) (by decide) ?_
            refine v_icmp_ne_t hC dX1_knitBy_133 (tgt := 140) (by decide) (by first | omega | (simp only [Int32.lt_iff_toInt_lt, Int32.le_iff_toInt_le, Int32.reduceToInt, ← Int32.toInt_inj, true_and, and_true, or_true, true_or, false_or, or_false, false_and, and_false, not_true_eq_false, not_false_eq_true] <;> omega)) ?_
            refine v_iconst hC dX1_knitBy_140 (v := 0) (by decide) ?_
            refine v_vv hC (rest := []) m_1 hf_1470 rfl mi_X1_setStitch ms_X1_setStitch (p_X1_setStitch hW_1468 k_0) mx_X1_setStitch ml_X1_48 (by decide) rfl (cells1 := 0) (slots1 := 0) (by decide) (by decide) (Nat.le_of_ble_eq_true rfl) (Nat.le_of_ble_eq_true rfl) rfl (Nat.le_of_ble_eq_true rfl) dX1_knitBy_141 (fun L_1537 f_1538 h_1539 => ?_)
            obtain ⟨rfl, hW_1540, hF_1541⟩ := h_1539
            have hf_1542 := hF_1541.at hf_1470 rfl
            have hf_1543 := hF_1541.at e_1482 rfl
            have hf_1544 := hF_1541.at e_1533 rfl
            obtain ⟨v_1545, h_1546⟩ : ∃ v9 : Int32, i_1464 + Int32.ofInt 1 = v9 := ⟨_, rfl⟩
            have h_1547 := add_v (b := 1) h_1546 (by first | omega | (simp only [Int32.lt_iff_toInt_lt, Int32.le_iff_toInt_le, Int32.reduceToInt, ← Int32.toInt_inj, true_and, and_true, or_true, true_or, false_or, or_false, false_and, and_false, not_true_eq_false, not_false_eq_true] <;> omega)) (by first | omega | (simp only [Int32.lt_iff_toInt_lt, Int32.le_iff_toInt_le, Int32.reduceToInt, ← Int32.toInt_inj, true_and, and_true, or_true, true_or, false_or, or_false, false_and, and_false, not_true_eq_false, not_false_eq_true] <;> omega))
            simp only [Int32.reduceToInt] at h_1547
            refine v_iinc hC dX1_knitBy_144 (k := 1) rfl (v := v_1545) h_1546 (by decide) (lv' := [(7, .int v_1545), (8, .int v_1504), (6, .int i_1465), (4, .long i_1466), (0, .ref a_0), (1, .ref a_1), (2, .ref a_2)]) rfl ?_
            refine v_goto hC dX1_knitBy_147 (tgt := 15) (by decide) ?_
            refine v_pick [0, 2, 3, 4, 5, 6] rfl ?_
            exact ih_1474 f_1538 hW_1540 ((hF_1469.tr hF_1541).mono rfl) v_1545 (by first | omega | (simp only [Int32.lt_iff_toInt_lt, Int32.le_iff_toInt_le, Int32.reduceToInt, ← Int32.toInt_inj, true_and, and_true, or_true, true_or, false_or, or_false, false_and, and_false, not_true_eq_false, not_false_eq_true] <;> omega)) i_1465 i_1466 (by first | omega | (simp only [Int32.lt_iff_toInt_lt, Int32.le_iff_toInt_le, Int32.reduceToInt, ← Int32.toInt_inj, true_and, and_true, or_true, true_or, false_or, or_false, false_and, and_false, not_true_eq_false, not_false_eq_true] <;> omega))
          · simp only [Int32.lt_iff_toInt_lt, Int32.le_iff_toInt_le, Int32.reduceToInt, ← Int32.toInt_inj] at h_1535
            refine v_ldc2 hC kl_X1_35 dX1_knitBy_46 ?_
            refine v_lload hC dX1_knitBy_49 rfl ?_
            obtain ⟨v_1548, h_1549⟩ : ∃ v9 : Int64, (1103515245 : Int64) * i_1466 = v9 := ⟨_, rfl⟩
            refine v_lmul hC dX1_knitBy_51 h_1549 ?_
            refine v_ldc2 hC kl_X1_37 dX1_knitBy_52 ?_
            obtain ⟨v_1550, h_1551⟩ : ∃ v9 : Int64, v_1548 + 12345 = v9 := ⟨_, rfl⟩
            refine v_ladd hC dX1_knitBy_55 h_1551 ?_
            refine v_ldc2 hC kl_X1_39 dX1_knitBy_56 ?_
            obtain ⟨v_1552, h_1553⟩ : ∃ v9 : Int64, v_1550 - v_1550 / 2147483648 * 2147483648 = v9 := ⟨_, rfl⟩
            refine v_lrem hC dX1_knitBy_59 (by decide) h_1553 ?_
            refine v_lstore hC dX1_knitBy_60 (by decide) (lv' := [(4, .long v_1552), (8, .int v_1504), (7, .int i_1464), (6, .int i_1465), (0, .ref a_0), (1, .ref a_1), (2, .ref a_2)]) rfl ?_
            refine v_lload hC dX1_knitBy_62 rfl ?_
            refine v_ldc2 hC kl_X1_41 dX1_knitBy_64 ?_
            obtain ⟨v_1554, h_1555⟩ : ∃ v9 : Int64, v_1552 / 65536 = v9 := ⟨_, rfl⟩
            refine v_ldiv hC dX1_knitBy_67 (by decide) h_1555 ?_
            refine v_ldc2 hC kl_X1_43 dX1_knitBy_68 ?_
            obtain ⟨v_1556, h_1557⟩ : ∃ v9 : Int64, v_1554 - v_1554 / 100 * 100 = v9 := ⟨_, rfl⟩
            refine v_lrem hC dX1_knitBy_71 (by decide) h_1557 ?_
            refine v_aload_n hC dX1_knitBy_72 rfl ?_
            refine v_iload hC dX1_knitBy_73 rfl ?_
            obtain ⟨v_1558, h_1559⟩ : ∃ v9 : Int32, g_1534 (v_1504 : Int32).toNatClampNeg = v9 := ⟨_, rfl⟩
            refine v_iald hC m_1531 e_1533 (vp_in_iff.mpr (by first | omega | (simp only [Int32.lt_iff_toInt_lt, Int32.le_iff_toInt_le, Int32.reduceToInt, ← Int32.toInt_inj, true_and, and_true, or_true, true_or, false_or, or_false, false_and, and_false, not_true_eq_false, not_false_eq_true] <;> omega))) h_1559 dX1_knitBy_75 ?_
            obtain ⟨v_1560, h_1561⟩ : ∃ v9 : Int64, v_1558.toInt64 = v9 := ⟨_, rfl⟩
            refine v_i2l hC dX1_knitBy_76 h_1561 ?_
            have h_1562 : v_1560.toInt = v_1558.toInt := by rw [← h_1561]; exact Int32.toInt_toInt64 _
            obtain ⟨v_1563, h_1564⟩ : ∃ v9 : Int32, lg_cmp (v_1556 : Int64) v_1560 = v9 := ⟨_, rfl⟩
            refine v_lcmp hC dX1_knitBy_77 h_1564 ?_
            have jn_1568 : ∀ (v_1569 : Int32) (b_1570 : (0 ≤ v_1569.toInt ∧ v_1569.toInt ≤ 1)), V z E 10 0 0 L f_1467 86 [(4, .long v_1552), (7, .int i_1464), (6, .int i_1465), (0, .ref a_0), (1, .ref a_1), (2, .ref a_2)] [.int v_1569] := by
              intro v_1569 b_1570
              refine v_istore hC dX1_knitBy_86 (by decide) (lv' := [(9, .int v_1569), (4, .long v_1552), (7, .int i_1464), (6, .int i_1465), (0, .ref a_0), (1, .ref a_1), (2, .ref a_2)]) rfl ?_
              refine v_aload_n hC dX1_knitBy_88 rfl ?_
              refine v_iload hC dX1_knitBy_89 rfl ?_
              refine v_iload hC dX1_knitBy_91 rfl ?_
              have jn_1579 : ∀ (v_1580 : Int32) (b_1581 : (0 ≤ v_1580.toInt ∧ v_1580.toInt ≤ 3)), V z E 10 0 0 L f_1467 106 [(9, .int v_1569), (4, .long v_1552), (7, .int i_1464), (6, .int i_1465), (0, .ref a_0), (1, .ref a_1), (2, .ref a_2)] [.int v_1580, .int i_1464, .ref a_0] := by
                intro v_1580 b_1581
                refine v_vv hC (rest := []) m_1 hf_1470 rfl mi_X1_setStitch ms_X1_setStitch (p_X1_setStitch hW_1468 k_0) mx_X1_setStitch ml_X1_48 (by decide) rfl (cells1 := 0) (slots1 := 0) (by decide) (by decide) (Nat.le_of_ble_eq_true rfl) (Nat.le_of_ble_eq_true rfl) rfl (Nat.le_of_ble_eq_true rfl) dX1_knitBy_106 (fun L_1583 f_1584 h_1585 => ?_)
                obtain ⟨rfl, hW_1586, hF_1587⟩ := h_1585
                have hf_1588 := hF_1587.at hf_1470 rfl
                have hf_1589 := hF_1587.at e_1482 rfl
                have hf_1590 := hF_1587.at e_1533 rfl
                refine v_iload hC dX1_knitBy_109 rfl ?_
                refine v_iload hC dX1_knitBy_111 rfl ?_
                refine v_if_eq hC dX1_knitBy_113 (tgt := 120) (by decide) (fun h_1591 => ?_) (fun h_1591 => ?_)
                · simp only [Int32.lt_iff_toInt_lt, Int32.le_iff_toInt_le, Int32.reduceToInt, ← Int32.toInt_inj] at h_1591
                  refine v_iconst hC dX1_knitBy_120 (v := 1) (by decide) ?_
                  obtain ⟨v_1592, h_1593⟩ : ∃ v9 : Int32, i_1465 + 1 = v9 := ⟨_, rfl⟩
                  refine v_iadd hC dX1_knitBy_121 h_1593 ?_
                  refine v_istore hC dX1_knitBy_122 (by decide) (lv' := [(6, .int v_1592), (9, .int v_1569), (4, .long v_1552), (7, .int i_1464), (0, .ref a_0), (1, .ref a_1), (2, .ref a_2)]) rfl ?_
                  refine v_goto hC dX1_knitBy_124 (tgt := 144) (by decide) ?_
                  obtain ⟨v_1595, h_1596⟩ : ∃ v9 : Int32, i_1464 + Int32.ofInt 1 = v9 := ⟨_, rfl⟩
                  have h_1597 := add_v (b := 1) h_1596 (by first | omega | (simp only [Int32.lt_iff_toInt_lt, Int32.le_iff_toInt_le, Int32.reduceToInt, ← Int32.toInt_inj, true_and, and_true, or_true, true_or, false_or, or_false, false_and, and_false, not_true_eq_false, not_false_eq_true] <;> omega)) (by first | omega | (simp only [Int32.lt_iff_toInt_lt, Int32.le_iff_toInt_le, Int32.reduceToInt, ← Int32.toInt_inj, true_and, and_true, or_true, true_or, false_or, or_false, false_and, and_false, not_true_eq_false, not_false_eq_true] <;> omega))
                  simp only [Int32.reduceToInt] at h_1597
                  refine v_iinc hC dX1_knitBy_144 (k := 3) rfl (v := v_1595) h_1596 (by decide) (lv' := [(7, .int v_1595), (6, .int v_1592), (9, .int v_1569), (4, .long v_1552), (0, .ref a_0), (1, .ref a_1), (2, .ref a_2)]) rfl ?_
                  refine v_goto hC dX1_knitBy_147 (tgt := 15) (by decide) ?_
                  refine v_pick [0, 1, 3, 4, 5, 6] rfl ?_
                  exact ih_1474 f_1584 hW_1586 ((hF_1469.tr hF_1587).mono rfl) v_1595 (by first | omega | (simp only [Int32.lt_iff_toInt_lt, Int32.le_iff_toInt_le, Int32.reduceToInt, ← Int32.toInt_inj, true_and, and_true, or_true, true_or, false_or, or_false, false_and, and_false, not_true_eq_false, not_false_eq_true] <;> omega)) v_1592 v_1552 (by first | omega | (simp only [Int32.lt_iff_toInt_lt, Int32.le_iff_toInt_le, Int32.reduceToInt, ← Int32.toInt_inj, true_and, and_true, or_true, true_or, false_or, or_false, false_and, and_false, not_true_eq_false, not_false_eq_true] <;> omega))
                · simp only [Int32.lt_iff_toInt_lt, Int32.le_iff_toInt_le, Int32.reduceToInt, ← Int32.toInt_inj] at h_1591
                  refine v_iconst hC dX1_knitBy_116 (v := 0) (by decide) ?_
                  refine v_goto hC dX1_knitBy_117 (tgt := 121) (by decide) ?_
                  obtain ⟨v_1598, h_1599⟩ : ∃ v9 : Int32, i_1465 + 0 = v9 := ⟨_, rfl⟩
                  refine v_iadd hC dX1_knitBy_121 h_1599 ?_
                  have rg_1601 := Int32.toInt_lt i_1465
                  have rg_1602 := Int32.le_toInt i_1465
                  have h_1600 := add_v h_1599 (by first | omega | (simp only [Int32.lt_iff_toInt_lt, Int32.le_iff_toInt_le, Int32.reduceToInt, ← Int32.toInt_inj, true_and, and_true, or_true, true_or, false_or, or_false, false_and, and_false, not_true_eq_false, not_false_eq_true] <;> omega)) (by first | omega | (simp only [Int32.lt_iff_toInt_lt, Int32.le_iff_toInt_le, Int32.reduceToInt, ← Int32.toInt_inj, true_and, and_true, or_true, true_or, false_or, or_false, false_and, and_false, not_true_eq_false, not_false_eq_true] <;> omega))
                  try simp only [Int32.reduceToInt] at h_1600
                  refine v_istore hC dX1_knitBy_122 (by decide) (lv' := [(6, .int v_1598), (9, .int v_1569), (4, .long v_1552), (7, .int i_1464), (0, .ref a_0), (1, .ref a_1), (2, .ref a_2)]) rfl ?_
                  refine v_goto hC dX1_knitBy_124 (tgt := 144) (by decide) ?_
                  obtain ⟨v_1603, h_1604⟩ : ∃ v9 : Int32, i_1464 + Int32.ofInt 1 = v9 := ⟨_, rfl⟩
                  have h_1605 := add_v (b := 1) h_1604 (by first | omega | (simp only [Int32.lt_iff_toInt_lt, Int32.le_iff_toInt_le, Int32.reduceToInt, ← Int32.toInt_inj, true_and, and_true, or_true, true_or, false_or, or_false, false_and, and_false, not_true_eq_false, not_false_eq_true] <;> omega)) (by first | omega | (simp only [Int32.lt_iff_toInt_lt, Int32.le_iff_toInt_le, Int32.reduceToInt, ← Int32.toInt_inj, true_and, and_true, or_true, true_or, false_or, or_false, false_and, and_false, not_true_eq_false, not_false_eq_true] <;> omega))
                  simp only [Int32.reduceToInt] at h_1605
                  refine v_iinc hC dX1_knitBy_144 (k := 3) rfl (v := v_1603) h_1604 (by decide) (lv' := [(7, .int v_1603), (6, .int v_1598), (9, .int v_1569), (4, .long v_1552), (0, .ref a_0), (1, .ref a_1), (2, .ref a_2)]) rfl ?_
                  refine v_goto hC dX1_knitBy_147 (tgt := 15) (by decide) ?_
                  refine v_pick [0, 1, 3, 4, 5, 6] rfl ?_
                  exact ih_1474 f_1584 hW_1586 ((hF_1469.tr hF_1587).mono rfl) v_1603 (by first | omega | (simp only [Int32.lt_iff_toInt_lt, Int32.le_iff_toInt_le, Int32.reduceToInt, ← Int32.toInt_inj, true_and, and_true, or_true, true_or, false_or, or_false, false_and, and_false, not_true_eq_false, not_false_eq_true] <;> omega)) v_1598 v_1552 (by first | omega | (simp only [Int32.lt_iff_toInt_lt, Int32.le_iff_toInt_le, Int32.reduceToInt, ← Int32.toInt_inj, true_and, and_true, or_true, true_or, false_or, or_false, false_and, and_false, not_true_eq_false, not_false_eq_true] <;> omega))
              refine v_if_eq hC dX1_knitBy_93 (tgt := 100) (by decide) (fun h_1571 => ?_) (fun h_1571 => ?_)
              · simp only [Int32.lt_iff_toInt_lt, Int32.le_iff_toInt_le, Int32.reduceToInt, ← Int32.toInt_inj] at h_1571
                refine v_aload_n hC dX1_knitBy_100 rfl ?_
                refine v_iload hC dX1_knitBy_101 rfl ?_
                refine v_vi hC (rest := [.int i_1464, .ref a_0]) m_1476 e_1482 rfl mi_X4_notPlainAt ms_X4_notPlainAt (p_X4_notPlainAt hW_1468 k_1) mx_X4_notPlainAt ml_X1_45 (by decide) rfl (cells1 := 0) (slots1 := 0) (by decide) (by decide) (Nat.le_of_ble_eq_true rfl) (Nat.le_of_ble_eq_true rfl) rfl (Nat.le_of_ble_eq_true rfl) dX1_knitBy_103 (fun r_1606 L_1607 f_1608 h_1609 => ?_)
                obtain ⟨rfl, rfl, b_1610⟩ := h_1609
                refine v_pick [0, 1, 2, 3, 4, 5, 6] rfl ?_
                exact jn_1579 r_1606 (by first | omega | (simp only [Int32.lt_iff_toInt_lt, Int32.le_iff_toInt_le, Int32.reduceToInt, ← Int32.toInt_inj, true_and, and_true, or_true, true_or, false_or, or_false, false_and, and_false, not_true_eq_false, not_false_eq_true] <;> omega))
              · simp only [Int32.lt_iff_toInt_lt, Int32.le_iff_toInt_le, Int32.reduceToInt, ← Int32.toInt_inj] at h_1571
                refine v_iconst hC dX1_knitBy_96 (v := 0) (by decide) ?_
                refine v_goto hC dX1_knitBy_97 (tgt := 106) (by decide) ?_
                refine v_pick [0, 1, 2, 3, 4, 5, 6] rfl ?_
                exact jn_1579 0 (by decide)
            refine v_if_lt hC dX1_knitBy_78 (tgt := 85) (by decide) (fun h_1565 => ?_) (fun h_1565 => ?_)
            · rw [← h_1564] at h_1565
              have h_1566 := (lgc_lt.mp h_1565)
              simp only [Int64.lt_iff_toInt_lt, Int64.le_iff_toInt_le] at h_1566
              refine v_iconst hC dX1_knitBy_85 (v := 0) (by decide) ?_
              refine v_pick [0, 2, 3, 4, 5, 6] rfl ?_
              exact jn_1568 0 (by decide)
            · rw [← h_1564] at h_1565
              have h_1567 := (mt lgc_lt.mpr h_1565)
              simp only [Int64.lt_iff_toInt_lt, Int64.le_iff_toInt_le] at h_1567
              refine v_iconst hC dX1_knitBy_81 (v := 1) (by decide) ?_
              refine v_goto hC dX1_knitBy_82 (tgt := 86) (by decide) ?_
              refine v_pick [0, 2, 3, 4, 5, 6] rfl ?_
              exact jn_1568 1 (by decide)
  refine v_pick [0, 1, 2, 3, 4, 5] rfl ?_
  exact lp_1472 258 f_8 hW_11 FR.rf 0 (by decide) 0 v_13 (by decide)
set_option maxRecDepth 100000 in
set_option maxHeartbeats 8000000 in
theorem p_X1_knitBackFrom {l : Launch} {E : Ez} {L : List Nat} {f : Nat → va_E} {T : Nat → va_E → Prop} {a_0 : Nat} {a_1 : Nat} {a_2 : Nat} (hW : WT T L f) (k_0 : isClo T L E a_0) (k_1 : isClo T L E a_1) (k_2 : isPat T L E a_2) : CV l yX1_knitBackFrom cX1_knitBackFrom 6 2 0 0 E [.ref a_0, .ref a_1, .ref a_2] L f (fun L1 f1 => L = L1 ∧ WT T L f1 ∧ FR [1, 356] f f1) := by
  refine cv_of (by decide) (Nat.le_of_ble_eq_true rfl) (fun z hz hnm hC hR => ?_)
  have hC : Cx z E cX1_knitBackFrom RX1 6 2 0 0 := hC
  subst hz
  show V z E 6 0 0 L f 0 [(0, .ref a_0), (1, .ref a_1), (2, .ref a_2)] []
  refine v_aload_n hC dX1_knitBackFrom_0 rfl ?_
  refine v_iconst hC dX1_knitBackFrom_1 (v := 1) (by decide) ?_
  obtain ⟨m_1, q_3, t_2, k_4⟩ := id k_0
  obtain ⟨v_6, e_5, b_7⟩ := hW.at m_1 t_2
  refine v_put hC fl_X1_21 m_1 e_5 rfl rfl (Nat.le_of_ble_eq_true rfl) (fs' := [.ref q_3, .int 1]) rfl dX1_knitBackFrom_2 (fun f_8 hf_9 hk_10 => ?_)
  have hW_11 := hW.up hf_9 hk_10 t_2 ⟨1, rfl, (by decide)⟩
  have fr_12 := FR.w hk_10 e_5 (k := 1) rfl
  refine v_iconst hC dX1_knitBackFrom_5 (v := 0) (by decide) ?_
  refine v_istore_n hC dX1_knitBackFrom_6 (by decide) (lv' := [(3, .int 0), (0, .ref a_0), (1, .ref a_1), (2, .ref a_2)]) rfl ?_
  refine v_iconst hC dX1_knitBackFrom_7 (v := 0) (by decide) ?_
  refine v_istore hC dX1_knitBackFrom_8 (by decide) (lv' := [(4, .int 0), (3, .int 0), (0, .ref a_0), (1, .ref a_1), (2, .ref a_2)]) rfl ?_
  have lp_1184 : ∀ (n_1185 : Nat) (f_1177 : Nat → va_E) (hW_1178 : WT T L f_1177) (hF_1179 : FR [356] f_8 f_1177) (i_1175 : Int32) (b_1181 : (0 ≤ i_1175.toInt ∧ i_1175.toInt ≤ 256)) (i_1176 : Int32) (b_1182 : (0 ≤ i_1176.toInt ∧ i_1176.toInt ≤ 256)) (nv_1183 : i_1176.toInt ≤ i_1175.toInt) (hm_1187 : 256 - i_1175.toInt < (n_1185 : Int)), V z E 6 0 0 L f_1177 10 [(4, .int i_1175), (3, .int i_1176), (0, .ref a_0), (1, .ref a_1), (2, .ref a_2)] [] := by
    intro n_1185
    induction n_1185 with
    | zero =>
      intro f_1177 hW_1178 hF_1179 i_1175 b_1181 i_1176 b_1182 nv_1183 hm_1187
      have hf_1180 := hF_1179.at hf_9 rfl
      exfalso; omega
    | succ n_1185 ih_1186 =>
      intro f_1177 hW_1178 hF_1179 i_1175 b_1181 i_1176 b_1182 nv_1183 hm_1187
      have hf_1180 := hF_1179.at hf_9 rfl
      refine v_iload hC dX1_knitBackFrom_10 rfl ?_
      refine v_aload_n hC dX1_knitBackFrom_12 rfl ?_
      obtain ⟨m_1188, q_1190, q_1191, t_1189, k_1192, k_1193⟩ := id k_2
      obtain ⟨v_1195, v_1197, v_1199, e_1194, b_1196, b_1198, b_1200⟩ := hW_1178.at m_1188 t_1189
      refine v_vi hC (rest := [.int i_1175]) m_1188 e_1194 rfl mi_X4_places ms_X4_places (p_X4_places hW_1178 k_2) mx_X4_places ml_X1_25 (by decide) rfl (cells1 := 0) (slots1 := 0) (by decide) (by decide) (Nat.le_of_ble_eq_true rfl) (Nat.le_of_ble_eq_true rfl) rfl (Nat.le_of_ble_eq_true rfl) dX1_knitBackFrom_13 (fun r_1201 L_1202 f_1203 h_1204 => ?_)
      obtain ⟨rfl, rfl, b_1205⟩ := h_1204
      refine v_icmp_ge hC dX1_knitBackFrom_16 (tgt := 57) (by decide) (fun h_1208 => ?_) (fun h_1208 => ?_)
      · simp only [Int32.lt_iff_toInt_lt, Int32.le_iff_toInt_le, Int32.reduceToInt, ← Int32.toInt_inj] at h_1208
        refine v_iload_n hC dX1_knitBackFrom_57 rfl ?_
        refine v_istore hC dX1_knitBackFrom_58 (by decide) (lv' := [(4, .int i_1176), (3, .int i_1176), (0, .ref a_0), (1, .ref a_1), (2, .ref a_2)]) rfl ?_
        have lp_1393 : ∀ (n_1394 : Nat) (f_1387 : Nat → va_E) (hW_1388 : WT T L f_1387) (hF_1389 : FR [356] f_1177 f_1387) (i_1386 : Int32) (b_1392 : (0 ≤ i_1386.toInt ∧ i_1386.toInt ≤ 256)) (hm_1396 : 256 - i_1386.toInt < (n_1394 : Int)), V z E 6 0 0 L f_1387 60 [(4, .int i_1386), (0, .ref a_0), (2, .ref a_2)] [] := by
          intro n_1394
          induction n_1394 with
          | zero =>
            intro f_1387 hW_1388 hF_1389 i_1386 b_1392 hm_1396
            have hf_1390 := hF_1389.at hf_1180 rfl
            have hf_1391 := hF_1389.at e_1194 rfl
            exfalso; omega
          | succ n_1394 ih_1395 =>
            intro f_1387 hW_1388 hF_1389 i_1386 b_1392 hm_1396
            have hf_1390 := hF_1389.at hf_1180 rfl
            have hf_1391 := hF_1389.at e_1194 rfl
            refine v_iload hC dX1_knitBackFrom_60 rfl ?_
            refine v_aload_n hC dX1_knitBackFrom_62 rfl ?_
            refine v_vi hC (rest := [.int i_1386]) m_1188 hf_1391 rfl mi_X4_places ms_X4_places (p_X4_places hW_1388 k_2) mx_X4_places ml_X1_25 (by decide) rfl (cells1 := 0) (slots1 := 0) (by decide) (by decide) (Nat.le_of_ble_eq_true rfl) (Nat.le_of_ble_eq_true rfl) rfl (Nat.le_of_ble_eq_true rfl) dX1_knitBackFrom_63 (fun r_1397 L_1398 f_1399 h_1400 => ?_)
            obtain ⟨rfl, rfl, b_1401⟩ := h_1400
            refine v_icmp_ge hC dX1_knitBackFrom_66 (tgt := 86) (by decide) (fun h_1404 => ?_) (fun h_1404 => ?_)
            · simp only [Int32.lt_iff_toInt_lt, Int32.le_iff_toInt_le, Int32.reduceToInt, ← Int32.toInt_inj] at h_1404
              exact hR _ _ _ _ _ _ dX1_knitBackFrom_86 (Nat.le_of_ble_eq_true rfl) (Nat.le_of_ble_eq_true rfl) ⟨rfl, hW_1388, (((fr_12.tr hF_1179).tr hF_1389).mono rfl)⟩
            · simp only [Int32.lt_iff_toInt_lt, Int32.le_iff_toInt_le, Int32.reduceToInt, ← Int32.toInt_inj] at h_1404
              refine v_aload_n hC dX1_knitBackFrom_69 rfl ?_
              refine v_aload_n hC dX1_knitBackFrom_70 rfl ?_
              refine v_iload hC dX1_knitBackFrom_71 rfl ?_
              refine v_vi hC (rest := [.ref a_0]) m_1188 hf_1391 rfl mi_X4_knittedAs ms_X4_knittedAs (p_X4_knittedAs hW_1388 k_2) mx_X4_knittedAs ml_X1_52 (by decide) rfl (cells1 := 0) (slots1 := 0) (by decide) (by decide) (Nat.le_of_ble_eq_true rfl) (Nat.le_of_ble_eq_true rfl) rfl (Nat.le_of_ble_eq_true rfl) dX1_knitBackFrom_73 (fun r_1405 L_1406 f_1407 h_1408 => ?_)
              obtain ⟨rfl, rfl, b_1409⟩ := h_1408
              refine v_iconst hC dX1_knitBackFrom_76 (v := 4) (by decide) ?_
              refine v_vv hC (rest := []) m_1 hf_1390 rfl mi_X1_setStitch ms_X1_setStitch (p_X1_setStitch hW_1388 k_0) mx_X1_setStitch ml_X1_48 (by decide) rfl (cells1 := 0) (slots1 := 0) (by decide) (by decide) (Nat.le_of_ble_eq_true rfl) (Nat.le_of_ble_eq_true rfl) rfl (Nat.le_of_ble_eq_true rfl) dX1_knitBackFrom_77 (fun L_1413 f_1414 h_1415 => ?_)
              obtain ⟨rfl, hW_1416, hF_1417⟩ := h_1415
              have hf_1418 := hF_1417.at hf_1390 rfl
              have hf_1419 := hF_1417.at hf_1391 rfl
              obtain ⟨v_1420, h_1421⟩ : ∃ v9 : Int32, i_1386 + Int32.ofInt 1 = v9 := ⟨_, rfl⟩
              have h_1422 := add_v (b := 1) h_1421 (by first | omega | (simp only [Int32.lt_iff_toInt_lt, Int32.le_iff_toInt_le, Int32.reduceToInt, ← Int32.toInt_inj, true_and, and_true, or_true, true_or, false_or, or_false, false_and, and_false, not_true_eq_false, not_false_eq_true] <;> omega)) (by first | omega | (simp only [Int32.lt_iff_toInt_lt, Int32.le_iff_toInt_le, Int32.reduceToInt, ← Int32.toInt_inj, true_and, and_true, or_true, true_or, false_or, or_false, false_and, and_false, not_true_eq_false, not_false_eq_true] <;> omega))
              simp only [Int32.reduceToInt] at h_1422
              refine v_iinc hC dX1_knitBackFrom_80 (k := 0) rfl (v := v_1420) h_1421 (by decide) (lv' := [(4, .int v_1420), (0, .ref a_0), (2, .ref a_2)]) rfl ?_
              refine v_goto hC dX1_knitBackFrom_83 (tgt := 60) (by decide) ?_
              refine v_pick [0, 1, 2] rfl ?_
              exact ih_1395 f_1414 hW_1416 ((hF_1389.tr hF_1417).mono rfl) v_1420 (by first | omega | (simp only [Int32.lt_iff_toInt_lt, Int32.le_iff_toInt_le, Int32.reduceToInt, ← Int32.toInt_inj, true_and, and_true, or_true, true_or, false_or, or_false, false_and, and_false, not_true_eq_false, not_false_eq_true] <;> omega)) (by first | omega | (simp only [Int32.lt_iff_toInt_lt, Int32.le_iff_toInt_le, Int32.reduceToInt, ← Int32.toInt_inj, true_and, and_true, or_true, true_or, false_or, or_false, false_and, and_false, not_true_eq_false, not_false_eq_true] <;> omega))
        refine v_pick [0, 2, 4] rfl ?_
        exact lp_1393 258 f_1177 hW_1178 FR.rf i_1176 (by first | omega | (simp only [Int32.lt_iff_toInt_lt, Int32.le_iff_toInt_le, Int32.reduceToInt, ← Int32.toInt_inj, true_and, and_true, or_true, true_or, false_or, or_false, false_and, and_false, not_true_eq_false, not_false_eq_true] <;> omega)) (by first | omega | (simp only [Int32.lt_iff_toInt_lt, Int32.le_iff_toInt_le, Int32.reduceToInt, ← Int32.toInt_inj, true_and, and_true, or_true, true_or, false_or, or_false, false_and, and_false, not_true_eq_false, not_false_eq_true] <;> omega))
      · simp only [Int32.lt_iff_toInt_lt, Int32.le_iff_toInt_le, Int32.reduceToInt, ← Int32.toInt_inj] at h_1208
        refine v_aload_n hC dX1_knitBackFrom_19 rfl ?_
        refine v_aload_n hC dX1_knitBackFrom_20 rfl ?_
        refine v_iload hC dX1_knitBackFrom_21 rfl ?_
        refine v_vi hC (rest := [.ref a_1]) m_1188 e_1194 rfl mi_X4_knittedAs ms_X4_knittedAs (p_X4_knittedAs hW_1178 k_2) mx_X4_knittedAs ml_X1_52 (by decide) rfl (cells1 := 0) (slots1 := 0) (by decide) (by decide) (Nat.le_of_ble_eq_true rfl) (Nat.le_of_ble_eq_true rfl) rfl (Nat.le_of_ble_eq_true rfl) dX1_knitBackFrom_23 (fun r_1423 L_1424 f_1425 h_1426 => ?_)
        obtain ⟨rfl, rfl, b_1427⟩ := h_1426
        obtain ⟨m_1430, q_1432, t_1431, k_1433⟩ := id k_1
        obtain ⟨v_1435, e_1434, b_1436⟩ := hW_1178.at m_1430 t_1431
        refine v_vi hC (rest := []) m_1430 e_1434 rfl mi_X1_stitchAt ms_X1_stitchAt (p_X1_stitchAt hW_1178 k_1) mx_X1_stitchAt ml_X1_55 (by decide) rfl (cells1 := 0) (slots1 := 0) (by decide) (by decide) (Nat.le_of_ble_eq_true rfl) (Nat.le_of_ble_eq_true rfl) rfl (Nat.le_of_ble_eq_true rfl) dX1_knitBackFrom_26 (fun r_1437 L_1438 f_1439 h_1440 => ?_)
        obtain ⟨rfl, rfl, h_1441⟩ := h_1440
        refine v_istore hC dX1_knitBackFrom_29 (by decide) (lv' := [(5, .int r_1437), (4, .int i_1175), (3, .int i_1176), (0, .ref a_0), (1, .ref a_1), (2, .ref a_2)]) rfl ?_
        refine v_iload hC dX1_knitBackFrom_31 rfl ?_
        refine v_iconst hC dX1_knitBackFrom_33 (v := 4) (by decide) ?_
        refine v_icmp_eq hC dX1_knitBackFrom_34 (tgt := 51) (by decide) (fun h_1444 => ?_) (fun h_1444 => ?_)
        · simp only [Int32.lt_iff_toInt_lt, Int32.le_iff_toInt_le, Int32.reduceToInt, ← Int32.toInt_inj] at h_1444
          obtain ⟨v_1445, h_1446⟩ : ∃ v9 : Int32, i_1175 + Int32.ofInt 1 = v9 := ⟨_, rfl⟩
          have h_1447 := add_v (b := 1) h_1446 (by first | omega | (simp only [Int32.lt_iff_toInt_lt, Int32.le_iff_toInt_le, Int32.reduceToInt, ← Int32.toInt_inj, true_and, and_true, or_true, true_or, false_or, or_false, false_and, and_false, not_true_eq_false, not_false_eq_true] <;> omega)) (by first | omega | (simp only [Int32.lt_iff_toInt_lt, Int32.le_iff_toInt_le, Int32.reduceToInt, ← Int32.toInt_inj, true_and, and_true, or_true, true_or, false_or, or_false, false_and, and_false, not_true_eq_false, not_false_eq_true] <;> omega))
          simp only [Int32.reduceToInt] at h_1447
          refine v_iinc hC dX1_knitBackFrom_51 (k := 1) rfl (v := v_1445) h_1446 (by decide) (lv' := [(4, .int v_1445), (5, .int r_1437), (3, .int i_1176), (0, .ref a_0), (1, .ref a_1), (2, .ref a_2)]) rfl ?_
          refine v_goto hC dX1_knitBackFrom_54 (tgt := 10) (by decide) ?_
          refine v_pick [0, 2, 3, 4, 5] rfl ?_
          exact ih_1186 f_1177 hW_1178 (hF_1179.mono rfl) v_1445 (by first | omega | (simp only [Int32.lt_iff_toInt_lt, Int32.le_iff_toInt_le, Int32.reduceToInt, ← Int32.toInt_inj, true_and, and_true, or_true, true_or, false_or, or_false, false_and, and_false, not_true_eq_false, not_false_eq_true] <;> omega)) i_1176 (by first | omega | (simp only [Int32.lt_iff_toInt_lt, Int32.le_iff_toInt_le, Int32.reduceToInt, ← Int32.toInt_inj, true_and, and_true, or_true, true_or, false_or, or_false, false_and, and_false, not_true_eq_false, not_false_eq_true] <;> omega)) (by first | omega | (simp only [Int32.lt_iff_toInt_lt, Int32.le_iff_toInt_le, Int32.reduceToInt, ← Int32.toInt_inj, true_and, and_true, or_true, true_or, false_or, or_false, false_and, and_false, not_true_eq_false, not_false_eq_true] <;> omega)) (by first | omega | (simp only [Int32.lt_iff_toInt_lt, Int32.le_iff_toInt_le, Int32.reduceToInt, ← Int32.toInt_inj, true_and, and_true, or_true, true_or, false_or, or_false, false_and, and_false, not_true_eq_false, not_false_eq_true] <;> omega))
        · simp only [Int32.lt_iff_toInt_lt, Int32.le_iff_toInt_le, Int32.reduceToInt, ← Int32.toInt_inj] at h_1444
          refine v_aload_n hC dX1_knitBackFrom_37 rfl ?_
          refine v_aload_n hC dX1_knitBackFrom_38 rfl ?_
          refine v_iload_n hC dX1_knitBackFrom_39 rfl ?_
          refine v_vi hC (rest := [.ref a_0]) m_1188 e_1194 rfl mi_X4_knittedAs ms_X4_knittedAs (p_X4_knittedAs hW_1178 k_2) mx_X4_knittedAs ml_X1_52 (by decide) rfl (cells1 := 0) (slots1 := 0) (by decide) (by decide) (Nat.le_of_ble_eq_true rfl) (Nat.le_of_ble_eq_true rfl) rfl (Nat.le_of_ble_eq_true rfl) dX1_knitBackFrom_40 (fun r_1448 L_1449 f_1450 h_1451 => ?_)
          obtain ⟨rfl, rfl, b_1452⟩ := h_1451
          refine v_iload hC dX1_knitBackFrom_43 rfl ?_
          refine v_vv hC (rest := []) m_1 hf_1180 rfl mi_X1_setStitch ms_X1_setStitch (p_X1_setStitch hW_1178 k_0) mx_X1_setStitch ml_X1_48 (by decide) rfl (cells1 := 0) (slots1 := 0) (by decide) (by decide) (Nat.le_of_ble_eq_true rfl) (Nat.le_of_ble_eq_true rfl) rfl (Nat.le_of_ble_eq_true rfl) dX1_knitBackFrom_45 (fun L_1456 f_1457 h_1458 => ?_)
          obtain ⟨rfl, hW_1459, hF_1460⟩ := h_1458
          have hf_1461 := hF_1460.at hf_1180 rfl
          have hf_1462 := hF_1460.at e_1194 rfl
          have hf_1463 := hF_1460.at e_1434 rfl
          obtain ⟨v_1464, h_1465⟩ : ∃ v9 : Int32, i_1176 + Int32.ofInt 1 = v9 := ⟨_, rfl⟩
          have h_1466 := add_v (b := 1) h_1465 (by first | omega | (simp only [Int32.lt_iff_toInt_lt, Int32.le_iff_toInt_le, Int32.reduceToInt, ← Int32.toInt_inj, true_and, and_true, or_true, true_or, false_or, or_false, false_and, and_false, not_true_eq_false, not_false_eq_true] <;> omega)) (by first | omega | (simp only [Int32.lt_iff_toInt_lt, Int32.le_iff_toInt_le, Int32.reduceToInt, ← Int32.toInt_inj, true_and, and_true, or_true, true_or, false_or, or_false, false_and, and_false, not_true_eq_false, not_false_eq_true] <;> omega))
          simp only [Int32.reduceToInt] at h_1466
          refine v_iinc hC dX1_knitBackFrom_48 (k := 2) rfl (v := v_1464) h_1465 (by decide) (lv' := [(3, .int v_1464), (5, .int r_1437), (4, .int i_1175), (0, .ref a_0), (1, .ref a_1), (2, .ref a_2)]) rfl ?_
          obtain ⟨v_1467, h_1468⟩ : ∃ v9 : Int32, i_1175 + Int32.ofInt 1 = v9 := ⟨_, rfl⟩
          have h_1469 := add_v (b := 1) h_1468 (by first | omega | (simp only [Int32.lt_iff_toInt_lt, Int32.le_iff_toInt_le, Int32.reduceToInt, ← Int32.toInt_inj, true_and, and_true, or_true, true_or, false_or, or_false, false_and, and_false, not_true_eq_false, not_false_eq_true] <;> omega)) (by first | omega | (simp only [Int32.lt_iff_toInt_lt, Int32.le_iff_toInt_le, Int32.reduceToInt, ← Int32.toInt_inj, true_and, and_true, or_true, true_or, false_or, or_false, false_and, and_false, not_true_eq_false, not_false_eq_true] <;> omega))
          simp only [Int32.reduceToInt] at h_1469
          refine v_iinc hC dX1_knitBackFrom_51 (k := 2) rfl (v := v_1467) h_1468 (by decide) (lv' := [(4, .int v_1467), (3, .int v_1464), (5, .int r_1437), (0, .ref a_0), (1, .ref a_1), (2, .ref a_2)]) rfl ?_
          refine v_goto hC dX1_knitBackFrom_54 (tgt := 10) (by decide) ?_
          refine v_pick [0, 1, 3, 4, 5] rfl ?_
          exact ih_1186 f_1457 hW_1459 ((hF_1179.tr hF_1460).mono rfl) v_1467 (by first | omega | (simp only [Int32.lt_iff_toInt_lt, Int32.le_iff_toInt_le, Int32.reduceToInt, ← Int32.toInt_inj, true_and, and_true, or_true, true_or, false_or, or_false, false_and, and_false, not_true_eq_false, not_false_eq_true] <;> omega)) v_1464 (by first | omega | (simp only [Int32.lt_iff_toInt_lt, Int32.le_iff_toInt_le, Int32.reduceToInt, ← Int32.toInt_inj, true_and, and_true, or_true, true_or, false_or, or_false, false_and, and_false, not_true_eq_false, not_false_eq_true] <;> omega)) (by first | omega | (simp only [Int32.lt_iff_toInt_lt, Int32.le_iff_toInt_le, Int32.reduceToInt, ← Int32.toInt_inj, true_and, and_true, or_true, true_or, false_or, or_false, false_and, and_false, not_true_eq_false, not_false_eq_true] <;> omega)) (by first | omega | (simp only [Int32.lt_iff_toInt_lt, Int32.le_iff_toInt_le, Int32.reduceToInt, ← Int32.toInt_inj, true_and, and_true, or_true, true_or, false_or, or_false, false_and, and_false, not_true_eq_false, not_false_eq_true] <;> omega))
  refine v_pick [0, 1, 2, 3, 4] rfl ?_
  exact lp_1184 258 f_8 hW_11 FR.rf 0 (by decide) 0 (by decide) (by first | omega | (simp only [Int32.lt_iff_toInt_lt, Int32.le_iff_toInt_le, Int32.reduceToInt, ← Int32.toInt_inj, true_and, and_true, or_true, true_or, false_or, or_false, false_and, and_false, not_true_eq_false, not_false_eq_true] <;> omega)) (by decide)
set_option maxRecDepth 100000 in
set_option maxHeartbeats 8000000 in
theorem p_X1_placesUnlike {l : Launch} {E : Ez} {L : List Nat} {f : Nat → va_E} {T : Nat → va_E → Prop} {a_0 : Nat} {a_1 : Nat} {a_2 : Nat} (hW : WT T L f) (k_0 : isClo T L E a_0) (k_1 : isClo T L E a_1) (k_2 : isPat T L E a_2) : CI l yX1_placesUnlike cX1_placesUnlike 5 .int 1 0 0 E [.ref a_0, .ref a_1, .ref a_2] L f (fun r L1 f1 => L = L1 ∧ f = f1) := by
  refine ci_of (by decide) (Nat.le_of_ble_eq_true rfl) (fun z hz hnm hC hR => ?_)
  have hC : Cx z E cX1_placesUnlike RX1 5 1 0 0 := hC
  subst hz
  show V z E 5 0 0 L f 0 [(0, .ref a_0), (1, .ref a_1), (2, .ref a_2)] []
  refine v_iconst hC dX1_placesUnlike_0 (v := 0) (by decide) ?_
  refine v_istore_n hC dX1_placesUnlike_1 (by decide) (lv' := [(3, .int 0), (0, .ref a_0), (1, .ref a_1), (2, .ref a_2)]) rfl ?_
  refine v_iconst hC dX1_placesUnlike_2 (v := 0) (by decide) ?_
  refine v_istore hC dX1_placesUnlike_3 (by decide) (lv' := [(4, .int 0), (3, .int 0), (0, .ref a_0), (1, .ref a_1), (2, .ref a_2)]) rfl ?_
  have lp_566 : ∀ (n_567 : Nat) (i_563 : Int32) (b_565 : (0 ≤ i_563.toInt ∧ i_563.toInt ≤ 256)) (i_564 : Int32) (hm_569 : 256 - i_563.toInt < (n_567 : Int)), V z E 5 0 0 L f 5 [(4, .int i_563), (3, .int i_564), (0, .ref a_0), (1, .ref a_1), (2, .ref a_2)] [] := by
    intro n_567
    induction n_567 with
    | zero =>
      intro i_563 b_565 i_564 hm_569
      exfalso; omega
    | succ n_567 ih_568 =>
      intro i_563 b_565 i_564 hm_569
      refine v_iload hC dX1_placesUnlike_5 rfl ?_
      refine v_aload_n hC dX1_placesUnlike_7 rfl ?_
      obtain ⟨m_570, q_572, q_573, t_571, k_574, k_575⟩ := id k_2
      obtain ⟨v_577, v_579, v_581, e_576, b_578, b_580, b_582⟩ := hW.at m_570 t_571
      refine v_vi hC (rest := [.int i_563]) m_570 e_576 rfl mi_X4_places ms_X4_places (p_X4_places hW k_2) mx_X4_places ml_X1_25 (by decide) rfl (cells1 := 0) (slots1 := 0) (by decide) (by decide) (Nat.le_of_ble_eq_true rfl) (Nat.le_of_ble_eq_true rfl) rfl (Nat.le_of_ble_eq_true rfl) dX1_placesUnlike_8 (fun r_583 L_584 f_585 h_586 => ?_)
      obtain ⟨rfl, rfl, b_587⟩ := h_586
      refine v_icmp_ge hC dX1_placesUnlike_11 (tgt := 38) (by decide) (fun h_590 => ?_) (fun h_590 => ?_)
      · simp only [Int32.lt_iff_toInt_lt, Int32.le_iff_toInt_le, Int32.reduceToInt, ← Int32.toInt_inj] at h_590
        refine v_iload_n hC dX1_placesUnlike_38 rfl ?_
        exact hR _ _ _ _ _ _ _ dX1_placesUnlike_39 rfl (Nat.le_of_ble_eq_true rfl) (Nat.le_of_ble_eq_true rfl) ⟨rfl, rfl⟩
      · simp only [Int32.lt_iff_toInt_lt, Int32.le_iff_toInt_le, Int32.reduceToInt, ← Int32.toInt_inj] at h_590
        refine v_aload_n hC dX1_placesUnlike_14 rfl ?_
        refine v_iload hC dX1_placesUnlike_15 rfl ?_
        obtain ⟨m_591, q_593, t_592, k_594⟩ := id k_0
        obtain ⟨v_596, e_595, b_597⟩ := hW.at m_591 t_592
        refine v_vi hC (rest := []) m_591 e_595 rfl mi_X1_stitchAt ms_X1_stitchAt (p_X1_stitchAt hW k_0) mx_X1_stitchAt ml_X1_55 (by decide) rfl (cells1 := 0) (slots1 := 0) (by decide) (by decide) (Nat.le_of_ble_eq_true rfl) (Nat.le_of_ble_eq_true rfl) rfl (Nat.le_of_ble_eq_true rfl) dX1_placesUnlike_17 (fun r_598 L_599 f_600 h_601 => ?_)
        obtain ⟨rfl, rfl, h_602⟩ := h_601
        refine v_aload_n hC dX1_placesUnlike_20 rfl ?_
        refine v_iload hC dX1_placesUnlike_21 rfl ?_
        obtain ⟨m_605, q_607, t_606, k_608⟩ := id k_1
        obtain ⟨v_610, e_609, b_611⟩ := hW.at m_605 t_606
        refine v_vi hC (rest := [.int r_598]) m_605 e_609 rfl mi_X1_stitchAt ms_X1_stitchAt (p_X1_stitchAt hW k_1) mx_X1_stitchAt ml_X1_55 (by decide) rfl (cells1 := 0) (slots1 := 0) (by decide) (by decide) (Nat.le_of_ble_eq_true rfl) (Nat.le_of_ble_eq_true rfl) rfl (Nat.le_of_ble_eq_true rfl) dX1_placesUnlike_23 (fun r_612 L_613 f_614 h_615 => ?_)
        obtain ⟨rfl, rfl, h_616⟩ := h_615
        refine v_icmp_eq hC dX1_placesUnlike_26 (tgt := 32) (by decide) (fun h_619 => ?_) (fun h_619 => ?_)
        · simp only [Int32.lt_iff_toInt_lt, Int32.le_iff_toInt_le, Int32.reduceToInt, ← Int32.toInt_inj] at h_619
          obtain ⟨v_620, h_621⟩ : ∃ v9 : Int32, i_563 + Int32.ofInt 1 = v9 := ⟨_, rfl⟩
          have h_622 := add_v (b := 1) h_621 (by first | omega | (simp only [Int32.lt_iff_toInt_lt, Int32.le_iff_toInt_le, Int32.reduceToInt, ← Int32.toInt_inj, true_and, and_true, or_true, true_or, false_or, or_false, false_and, and_false, not_true_eq_false, not_false_eq_true] <;> omega)) (by first | omega | (simp only [Int32.lt_iff_toInt_lt, Int32.le_iff_toInt_le, Int32.reduceToInt, ← Int32.toInt_inj, true_and, and_true, or_true, true_or, false_or, or_false, false_and, and_false, not_true_eq_false, not_false_eq_true] <;> omega))
          simp only [Int32.reduceToInt] at h_622
          refine v_iinc hC dX1_placesUnlike_32 (k := 0) rfl (v := v_620) h_621 (by decide) (lv' := [(4, .int v_620), (3, .int i_564), (0, .ref a_0), (1, .ref a_1), (2, .ref a_2)]) rfl ?_
          refine v_goto hC dX1_placesUnlike_35 (tgt := 5) (by decide) ?_
          refine v_pick [0, 1, 2, 3, 4] rfl ?_
          exact ih_568 v_620 (by first | omega | (simp only [Int32.lt_iff_toInt_lt, Int32.le_iff_toInt_le, Int32.reduceToInt, ← Int32.toInt_inj, true_and, and_true, or_true, true_or, false_or, or_false, false_and, and_false, not_true_eq_false, not_false_eq_true] <;> omega)) i_564 (by first | omega | (simp only [Int32.lt_iff_toInt_lt, Int32.le_iff_toInt_le, Int32.reduceToInt, ← Int32.toInt_inj, true_and, and_true, or_true, true_or, false_or, or_false, false_and, and_false, not_true_eq_false, not_false_eq_true] <;> omega))
        · simp only [Int32.lt_iff_toInt_lt, Int32.le_iff_toInt_le, Int32.reduceToInt, ← Int32.toInt_inj] at h_619
          obtain ⟨v_623, h_624⟩ : ∃ v9 : Int32, i_564 + Int32.ofInt 1 = v9 := ⟨_, rfl⟩
          refine v_iinc hC dX1_placesUnlike_29 (k := 1) rfl (v := v_623) h_624 (by decide) (lv' := [(3, .int v_623), (4, .int i_563), (0, .ref a_0), (1, .ref a_1), (2, .ref a_2)]) rfl ?_
          obtain ⟨v_625, h_626⟩ : ∃ v9 : Int32, i_563 + Int32.ofInt 1 = v9 := ⟨_, rfl⟩
          have h_627 := add_v (b := 1) h_626 (by first | omega | (simp only [Int32.lt_iff_toInt_lt, Int32.le_iff_toInt_le, Int32.reduceToInt, ← Int32.toInt_inj, true_and, and_true, or_true, true_or, false_or, or_false, false_and, and_false, not_true_eq_false, not_false_eq_true] <;> omega)) (by first | omega | (simp only [Int32.lt_iff_toInt_lt, Int32.le_iff_toInt_le, Int32.reduceToInt, ← Int32.toInt_inj, true_and, and_true, or_true, true_or, false_or, or_false, false_and, and_false, not_true_eq_false, not_false_eq_true] <;> omega))
          simp only [Int32.reduceToInt] at h_627
          refine v_iinc hC dX1_placesUnlike_32 (k := 1) rfl (v := v_625) h_626 (by decide) (lv' := [(4, .int v_625), (3, .int v_623), (0, .ref a_0), (1, .ref a_1), (2, .ref a_2)]) rfl ?_
          refine v_goto hC dX1_placesUnlike_35 (tgt := 5) (by decide) ?_
          refine v_pick [0, 1, 2, 3, 4] rfl ?_
          exact ih_568 v_625 (by first | omega | (simp only [Int32.lt_iff_toInt_lt, Int32.le_iff_toInt_le, Int32.reduceToInt, ← Int32.toInt_inj, true_and, and_true, or_true, true_or, false_or, or_false, false_and, and_false, not_true_eq_false, not_false_eq_true] <;> omega)) v_623 (by first | omega | (simp only [Int32.lt_iff_toInt_lt, Int32.le_iff_toInt_le, Int32.reduceToInt, ← Int32.toInt_inj, true_and, and_true, or_true, true_or, false_or, or_false, false_and, and_false, not_true_eq_false, not_false_eq_true] <;> omega))
  refine v_pick [0, 1, 2, 3, 4] rfl ?_
  exact lp_566 258 0 (by decide) 0 (by decide)
set_option maxRecDepth 100000 in
set_option maxHeartbeats 8000000 in
theorem p_X1_lostPlaces {l : Launch} {E : Ez} {L : List Nat} {f : Nat → va_E} {T : Nat → va_E → Prop} {a_0 : Nat} {a_1 : Nat} (hW : WT T L f) (k_0 : isClo T L E a_0) (k_1 : isPat T L E a_1) : CI l yX1_lostPlaces cX1_lostPlaces 4 .int 1 0 0 E [.ref a_0, .ref a_1] L f (fun r L1 f1 => L = L1 ∧ f = f1) := by
  refine ci_of (by decide) (Nat.le_of_ble_eq_true rfl) (fun z hz hnm hC hR => ?_)
  have hC : Cx z E cX1_lostPlaces RX1 4 1 0 0 := hC
  subst hz
  show V z E 4 0 0 L f 0 [(0, .ref a_0), (1, .ref a_1)] []
  refine v_iconst hC dX1_lostPlaces_0 (v := 0) (by decide) ?_
  refine v_istore_n hC dX1_lostPlaces_1 (by decide) (lv' := [(2, .int 0), (0, .ref a_0), (1, .ref a_1)]) rfl ?_
  refine v_iconst hC dX1_lostPlaces_2 (v := 0) (by decide) ?_
  refine v_istore_n hC dX1_lostPlaces_3 (by decide) (lv' := [(3, .int 0), (2, .int 0), (0, .ref a_0), (1, .ref a_1)]) rfl ?_
  have lp_440 : ∀ (n_441 : Nat) (i_437 : Int32) (b_439 : (0 ≤ i_437.toInt ∧ i_437.toInt ≤ 256)) (i_438 : Int32) (hm_443 : 256 - i_437.toInt < (n_441 : Int)), V z E 4 0 0 L f 4 [(3, .int i_437), (2, .int i_438), (0, .ref a_0), (1, .ref a_1)] [] := by
    intro n_441
    induction n_441 with
    | zero =>
      intro i_437 b_439 i_438 hm_443
      exfalso; omega
    | succ n_441 ih_442 =>
      intro i_437 b_439 i_438 hm_443
      refine v_iload_n hC dX1_lostPlaces_4 rfl ?_
      refine v_aload_n hC dX1_lostPlaces_5 rfl ?_
      obtain ⟨m_444, q_446, q_447, t_445, k_448, k_449⟩ := id k_1
      obtain ⟨v_451, v_453, v_455, e_450, b_452, b_454, b_456⟩ := hW.at m_444 t_445
      refine v_vi hC (rest := [.int i_437]) m_444 e_450 rfl mi_X4_places ms_X4_places (p_X4_places hW k_1) mx_X4_places ml_X1_25 (by decide) rfl (cells1 := 0) (slots1 := 0) (by decide) (by decide) (Nat.le_of_ble_eq_true rfl) (Nat.le_of_ble_eq_true rfl) rfl (Nat.le_of_ble_eq_true rfl) dX1_lostPlaces_6 (fun r_457 L_458 f_459 h_460 => ?_)
      obtain ⟨rfl, rfl, b_461⟩ := h_460
      refine v_icmp_ge hC dX1_lostPlaces_9 (tgt := 30) (by decide) (fun h_464 => ?_) (fun h_464 => ?_)
      · simp only [Int32.lt_iff_toInt_lt, Int32.le_iff_toInt_le, Int32.reduceToInt, ← Int32.toInt_inj] at h_464
        refine v_iload_n hC dX1_lostPlaces_30 rfl ?_
        exact hR _ _ _ _ _ _ _ dX1_lostPlaces_31 rfl (Nat.le_of_ble_eq_true rfl) (Nat.le_of_ble_eq_true rfl) ⟨rfl, rfl⟩
      · simp only [Int32.lt_iff_toInt_lt, Int32.le_iff_toInt_le, Int32.reduceToInt, ← Int32.toInt_inj] at h_464
        refine v_aload_n hC dX1_lostPlaces_12 rfl ?_
        refine v_iload_n hC dX1_lostPlaces_13 rfl ?_
        obtain ⟨m_465, q_467, t_466, k_468⟩ := id k_0
        obtain ⟨v_470, e_469, b_471⟩ := hW.at m_465 t_466
        refine v_vi hC (rest := []) m_465 e_469 rfl mi_X1_stitchAt ms_X1_stitchAt (p_X1_stitchAt hW k_0) mx_X1_stitchAt ml_X1_55 (by decide) rfl (cells1 := 0) (slots1 := 0) (by decide) (by decide) (Nat.le_of_ble_eq_true rfl) (Nat.le_of_ble_eq_true rfl) rfl (Nat.le_of_ble_eq_true rfl) dX1_lostPlaces_14 (fun r_472 L_473 f_474 h_475 => ?_)
        obtain ⟨rfl, rfl, h_476⟩ := h_475
        refine v_iconst hC dX1_lostPlaces_17 (v := 4) (by decide) ?_
        refine v_icmp_ne hC dX1_lostPlaces_18 (tgt := 24) (by decide) (fun h_479 => ?_) (fun h_479 => ?_)
        · simp only [Int32.lt_iff_toInt_lt, Int32.le_iff_toInt_le, Int32.reduceToInt, ← Int32.toInt_inj] at h_479
          obtain ⟨v_480, h_481⟩ : ∃ v9 : Int32, i_437 + Int32.ofInt 1 = v9 := ⟨_, rfl⟩
          have h_482 := add_v (b := 1) h_481 (by first | omega | (simp only [Int32.lt_iff_toInt_lt, Int32.le_iff_toInt_le, Int32.reduceToInt, ← Int32.toInt_inj, true_and, and_true, or_true, true_or, false_or, or_false, false_and, and_false, not_true_eq_false, not_false_eq_true] <;> omega)) (by first | omega | (simp only [Int32.lt_iff_toInt_lt, Int32.le_iff_toInt_le, Int32.reduceToInt, ← Int32.toInt_inj, true_and, and_true, or_true, true_or, false_or, or_false, false_and, and_false, not_true_eq_false, not_false_eq_true] <;> omega))
          simp only [Int32.reduceToInt] at h_482
          refine v_iinc hC dX1_lostPlaces_24 (k := 0) rfl (v := v_480) h_481 (by decide) (lv' := [(3, .int v_480), (2, .int i_438), (0, .ref a_0), (1, .ref a_1)]) rfl ?_
          refine v_goto hC dX1_lostPlaces_27 (tgt := 4) (by decide) ?_
          refine v_pick [0, 1, 2, 3] rfl ?_
          exact ih_442 v_480 (by first | omega | (simp only [Int32.lt_iff_toInt_lt, Int32.le_iff_toInt_le, Int32.reduceToInt, ← Int32.toInt_inj, true_and, and_true, or_true, true_or, false_or, or_false, false_and, and_false, not_true_eq_false, not_false_eq_true] <;> omega)) i_438 (by first | omega | (simp only [Int32.lt_iff_toInt_lt, Int32.le_iff_toInt_le, Int32.reduceToInt, ← Int32.toInt_inj, true_and, and_true, or_true, true_or, false_or, or_false, false_and, and_false, not_true_eq_false, not_false_eq_true] <;> omega))
        · simp only [Int32.lt_iff_toInt_lt, Int32.le_iff_toInt_le, Int32.reduceToInt, ← Int32.toInt_inj] at h_479
          obtain ⟨v_483, h_484⟩ : ∃ v9 : Int32, i_438 + Int32.ofInt 1 = v9 := ⟨_, rfl⟩
          refine v_iinc hC dX1_lostPlaces_21 (k := 1) rfl (v := v_483) h_484 (by decide) (lv' := [(2, .int v_483), (3, .int i_437), (0, .ref a_0), (1, .ref a_1)]) rfl ?_
          obtain ⟨v_485, h_486⟩ : ∃ v9 : Int32, i_437 + Int32.ofInt 1 = v9 := ⟨_, rfl⟩
          have h_487 := add_v (b := 1) h_486 (by first | omega | (simp only [Int32.lt_iff_toInt_lt, Int32.le_iff_toInt_le, Int32.reduceToInt, ← Int32.toInt_inj, true_and, and_true, or_true, true_or, false_or, or_false, false_and, and_false, not_true_eq_false, not_false_eq_true] <;> omega)) (by first | omega | (simp only [Int32.lt_iff_toInt_lt, Int32.le_iff_toInt_le, Int32.reduceToInt, ← Int32.toInt_inj, true_and, and_true, or_true, true_or, false_or, or_false, false_and, and_false, not_true_eq_false, not_false_eq_true] <;> omega))
          simp only [Int32.reduceToInt] at h_487
          refine v_iinc hC dX1_lostPlaces_24 (k := 1) rfl (v := v_485) h_486 (by decide) (lv' := [(3, .int v_485), (2, .int v_483), (0, .ref a_0), (1, .ref a_1)]) rfl ?_
          refine v_goto hC dX1_lostPlaces_27 (tgt := 4) (by decide) ?_
          refine v_pick [0, 1, 2, 3] rfl ?_
          exact ih_442 v_485 (by first | omega | (simp only [Int32.lt_iff_toInt_lt, Int32.le_iff_toInt_le, Int32.reduceToInt, ← Int32.toInt_inj, true_and, and_true, or_true, true_or, false_or, or_false, false_and, and_false, not_true_eq_false, not_false_eq_true] <;> omega)) v_483 (by first | omega | (simp only [Int32.lt_iff_toInt_lt, Int32.le_iff_toInt_le, Int32.reduceToInt, ← Int32.toInt_inj, true_and, and_true, or_true, true_or, false_or, or_false, false_and, and_false, not_true_eq_false, not_false_eq_true] <;> omega))
  refine v_pick [0, 1, 2, 3] rfl ?_
  exact lp_440 258 0 (by decide) 0 (by decide)
set_option maxRecDepth 100000 in
set_option maxHeartbeats 8000000 in
theorem p_X8_addPlace {l : Launch} {E : Ez} {L : List Nat} {f : Nat → va_E} {T : Nat → va_E → Prop} {a_0 : Nat} {a_1 : Int32} (hW : WT T L f) (k_0 : isWalk T L E a_0) : CV l yX8_addPlace cX8_addPlace 2 0 0 0 E [.ref a_0, .int a_1] L f (fun L1 f1 => L = L1 ∧ WT T L f1 ∧ FR [8, 356] f f1) := by
  refine cv_of (by decide) (Nat.le_of_ble_eq_true rfl) (fun z hz hnm hC hR => ?_)
  have hC : Cx z E cX8_addPlace RX8 2 0 0 0 := hC
  subst hz
  show V z E 2 0 0 L f 0 [(0, .ref a_0), (1, .int a_1)] []
  refine v_aload_n hC dX8_addPlace_0 rfl ?_
  obtain ⟨m_1, q_3, t_2, k_4⟩ := id k_0
  obtain ⟨v_6, v_8, v_10, v_12, e_5, b_7, b_9, b_11, b_13⟩ := hW.at m_1 t_2
  refine v_get hC fl_X8_22 m_1 e_5 rfl dX8_addPlace_1 ?_
  refine v_sipush hC dX8_addPlace_4 (v := 256) (by decide) ?_
  refine v_icmp_ge hC dX8_addPlace_7 (tgt := 30) (by decide) (fun h_14 => ?_) (fun h_14 => ?_)
  · simp only [Int32.lt_iff_toInt_lt, Int32.le_iff_toInt_le, Int32.reduceToInt, ← Int32.toInt_inj] at h_14
    exact hR _ _ _ _ _ _ dX8_addPlace_30 (Nat.le_of_ble_eq_true rfl) (Nat.le_of_ble_eq_true rfl) ⟨rfl, hW, FR.rf⟩
  · simp only [Int32.lt_iff_toInt_lt, Int32.le_iff_toInt_le, Int32.reduceToInt, ← Int32.toInt_inj] at h_14
    refine v_aload_n hC dX8_addPlace_10 rfl ?_
    refine v_get hC fl_X8_9 m_1 e_5 rfl dX8_addPlace_11 ?_
    refine v_aload_n hC dX8_addPlace_14 rfl ?_
    refine v_get hC fl_X8_22 m_1 e_5 rfl dX8_addPlace_15 ?_
    refine v_iload_n hC dX8_addPlace_18 rfl ?_
    obtain ⟨m_15, t_16⟩ := id k_4
    obtain ⟨g_18, e_17⟩ := hW.at m_15 t_16
    refine v_iast hC m_15 e_17 (vp_in_iff.mpr (by first | omega | (simp only [Int32.lt_iff_toInt_lt, Int32.le_iff_toInt_le, Int32.reduceToInt, ← Int32.toInt_inj, true_and, and_true, or_true, true_or, false_or, or_false, false_and, and_false, not_true_eq_false, not_false_eq_true] <;> omega))) dX8_addPlace_19 (fun f_19 hf_20 hk_21 => ?_)
    have hW_23 := hW.up hf_20 hk_21 t_16 ⟨_, rfl⟩
    obtain ⟨g_22, hf_20⟩ : ∃ g9, f_19 q_3 = aI E 256 g9 := ⟨_, hf_20⟩
    have hf_24 := (hk_21 a_0 (ne_kd e_5 e_17 rfl)).trans e_5
    have fr_25 := FR.w hk_21 e_17 (k := 356) rfl
    refine v_aload_n hC dX8_addPlace_20 rfl ?_
    refine v_dup hC dX8_addPlace_21 rfl ?_
    refine v_get hC fl_X8_22 m_1 hf_24 rfl dX8_addPlace_22 ?_
    refine v_iconst hC dX8_addPlace_25 (v := 1) (by decide) ?_
    obtain ⟨v_26, h_27⟩ : ∃ v9 : Int32, v_6 + 1 = v9 := ⟨_, rfl⟩
    refine v_iadd hC dX8_addPlace_26 h_27 ?_
    have h_28 := add_v h_27 (by first | omega | (simp only [Int32.lt_iff_toInt_lt, Int32.le_iff_toInt_le, Int32.reduceToInt, ← Int32.toInt_inj, true_and, and_true, or_true, true_or, false_or, or_false, false_and, and_false, not_true_eq_false, not_false_eq_true] <;> omega)) (by first | omega | (simp only [Int32.lt_iff_toInt_lt, Int32.le_iff_toInt_le, Int32.reduceToInt, ← Int32.toInt_inj, true_and, and_true, or_true, true_or, false_or, or_false, false_and, and_false, not_true_eq_false, not_false_eq_true] <;> omega))
    try simp only [Int32.reduceToInt] at h_28
    refine v_put hC fl_X8_22 m_1 hf_24 rfl rfl (Nat.le_of_ble_eq_true rfl) (fs' := [.ref q_3, .int v_26, .int v_8, .int v_10, .int v_12]) rfl dX8_addPlace_27 (fun f_29 hf_30 hk_31 => ?_)
    have hW_32 := hW_23.up hf_30 hk_31 t_2 ⟨v_26, v_8, v_10, v_12, rfl, (by first | omega | (simp only [Int32.lt_iff_toInt_lt, Int32.le_iff_toInt_le, Int32.reduceToInt, ← Int32.toInt_inj, true_and, and_true, or_true, true_or, false_or, or_false, false_and, and_false, not_true_eq_false, not_false_eq_true] <;> omega)), (by first | omega | (simp only [Int32.lt_iff_toInt_lt, Int32.le_iff_toInt_le, Int32.reduceToInt, ← Int32.toInt_inj, true_and, and_true, or_true, true_or, false_or, or_false, false_and, and_false, not_true_eq_false, not_false_eq_true] <;> omega)), (by first | omega | (simp only [Int32.lt_iff_toInt_lt, Int32.le_iff_toInt_le, Int32.reduceToInt, ← Int32.toInt_inj, true_and, and_true, or_true, true_or, false_or, or_false, false_and, and_false, not_true_eq_false, not_false_eq_true] <;> omega)), (by first | omega | (simp only [Int32.lt_iff_toInt_lt, Int32.le_iff_toInt_le, Int32.reduceToInt, ← Int32.toInt_inj, true_and, and_true, or_true, true_or, false_or, or_false, false_and, and_false, not_true_eq_false, not_false_eq_true] <;> omega))⟩
    have hf_33 := (hk_31 q_3 (ne_kd hf_20 hf_24 rfl)).trans hf_20
    have fr_34 := FR.w hk_31 hf_24 (k := 8) rfl
    exact hR _ _ _ _ _ _ dX8_addPlace_30 (Nat.le_of_ble_eq_true rfl) (Nat.le_of_ble_eq_true rfl) ⟨rfl, hW_32, ((fr_25.tr fr_34).mono rfl)⟩
set_option maxRecDepth 100000 in
set_option maxHeartbeats 8000000 in
theorem p_X8_follow {l : Launch} {E : Ez} {L : List Nat} {f : Nat → va_E} {T : Nat → va_E → Prop} {a_0 : Nat} {a_1 : Nat} {a_2 : Nat} (hW : WT T L f) (k_0 : isWalk T L E a_0) (k_1 : isWay T L E a_1) (k_2 : isPat T L E a_2) : CV l yX8_follow cX8_follow 9 1 0 0 E [.ref a_0, .ref a_1, .ref a_2] L f (fun L1 f1 => L = L1 ∧ WT T L f1 ∧ FR [8, 356] f f1) := by
  refine cv_of (by decide) (Nat.le_of_ble_eq_true rfl) (fun z hz hnm hC hR => ?_)
  have hC : Cx z E cX8_follow RX8 9 1 0 0 := hC
  subst hz
  show V z E 9 0 0 L f 0 [(0, .ref a_0), (1, .ref a_1), (2, .ref a_2)] []
  refine v_aload_n hC dX8_follow_0 rfl ?_
  refine v_iconst hC dX8_follow_1 (v := 0) (by decide) ?_
  obtain ⟨m_1, q_3, t_2, k_4⟩ := id k_0
  obtain ⟨v_6, v_8, v_10, v_12, e_5, b_7, b_9, b_11, b_13⟩ := hW.at m_1 t_2
  refine v_put hC fl_X8_22 m_1 e_5 rfl rfl (Nat.le_of_ble_eq_true rfl) (fs' := [.ref q_3, .int 0, .int v_8, .int v_10, .int v_12]) rfl dX8_follow_2 (fun f_14 hf_15 hk_16 => ?_)
  have hW_17 := hW.up hf_15 hk_16 t_2 ⟨0, v_8, v_10, v_12, rfl, (by decide), (by first | omega | (simp only [Int32.lt_iff_toInt_lt, Int32.le_iff_toInt_le, Int32.reduceToInt, ← Int32.toInt_inj, true_and, and_true, or_true, true_or, false_or, or_false, false_and, and_false, not_true_eq_false, not_false_eq_true] <;> omega)), (by first | omega | (simp only [Int32.lt_iff_toInt_lt, Int32.le_iff_toInt_le, Int32.reduceToInt, ← Int32.toInt_inj, true_and, and_true, or_true, true_or, false_or, or_false, false_and, and_false, not_true_eq_false, not_false_eq_true] <;> omega)), (by first | omega | (simp only [Int32.lt_iff_toInt_lt, Int32.le_iff_toInt_le, Int32.reduceToInt, ← Int32.toInt_inj, true_and, and_true, or_true, true_or, false_or, or_false, false_and, and_false, not_true_eq_false, not_false_eq_true] <;> omega))⟩
  have fr_18 := FR.w hk_16 e_5 (k := 8) rfl
  refine v_aload_n hC dX8_follow_5 rfl ?_
  obtain ⟨m_19, t_20⟩ := id k_1
  obtain ⟨v_22, v_24, v_25, v_26, v_28, v_30, v_32, e_21, b_23, b_27, b_29, b_31, b_33⟩ := hW_17.at m_19 t_20
  refine v_getN hC fn_X8_25 m_19 e_21 rfl dX8_follow_6 ?_
  refine v_istore_n hC dX8_follow_9 (by decide) (lv' := [(3, .int v_25), (0, .ref a_0), (1, .ref a_1), (2, .ref a_2)]) rfl ?_
  refine v_iconst hC dX8_follow_10 (v := 0) (by decide) ?_
  refine v_istore hC dX8_follow_11 (by decide) (lv' := [(4, .int 0), (3, .int v_25), (0, .ref a_0), (1, .ref a_1), (2, .ref a_2)]) rfl ?_
  have lp_5531 : ∀ (n_5532 : Nat) (f_5526 : Nat → va_E) (hW_5527 : WT T L f_5526) (hF_5528 : FR [8, 356] f_14 f_5526) (i_5524 : Int32) (b_5530 : (0 ≤ i_5524.toInt ∧ i_5524.toInt ≤ 16)) (i_5525 : Int32) (hm_5534 : 16 - i_5524.toInt < (n_5532 : Int)), V z E 9 0 0 L f_5526 13 [(4, .int i_5524), (3, .int i_5525), (0, .ref a_0), (1, .ref a_1), (2, .ref a_2)] [] := by
    intro n_5532
    induction n_5532 with
    | zero =>
      intro f_5526 hW_5527 hF_5528 i_5524 b_5530 i_5525 hm_5534
      have hf_5529 := hF_5528.at e_21 rfl
      exfalso; omega
    | succ n_5532 ih_5533 =>
      intro f_5526 hW_5527 hF_5528 i_5524 b_5530 i_5525 hm_5534
      have hf_5529 := hF_5528.at e_21 rfl
      refine v_iload hC dX8_follow_13 rfl ?_
      refine v_aload_n hC dX8_follow_15 rfl ?_
      obtain ⟨m_5535, q_5537, q_5538, t_5536, k_5539, k_5540⟩ := id k_2
      obtain ⟨v_5542, v_5544, v_5546, e_5541, b_5543, b_5545, b_5547⟩ := hW_5527.at m_5535 t_5536
      refine v_getN hC fn_X8_30 m_5535 e_5541 rfl dX8_follow_16 ?_
      refine v_icmp_ge hC dX8_follow_19 (tgt := 149) (by decide) (fun h_5548 => ?_) (fun h_5548 => ?_)
      · simp only [Int32.lt_iff_toInt_lt, Int32.le_iff_toInt_le, Int32.reduceToInt, ← Int32.toInt_inj] at h_5548
        refine v_aload_n hC dX8_follow_149 rfl ?_
        refine v_iconst hC dX8_follow_150 (v := 1) (by decide) ?_
        refine v_aload_n hC dX8_follow_151 rfl ?_
        refine v_getN hC fn_X8_61 m_19 hf_5529 rfl dX8_follow_152 ?_
        obtain ⟨v_6069, h_6070⟩ : ∃ v9 : Int32, (if (1 : Int32) < v_26 then v_26 else (1 : Int32)) = v9 := ⟨_, rfl⟩
        refine v_mmax hC mm_X8_62 mm_smax mm_i mm_cmax (by decide) (Nat.le_of_ble_eq_true rfl) (Nat.le_of_ble_eq_true rfl) (Nat.le_of_ble_eq_true rfl) h_6070 dX8_follow_155 ?_
        have b_6071 := max_v h_6070
        try simp only [Int32.reduceToInt] at b_6071
        obtain ⟨v_6073, v_6075, v_6077, v_6079, e_6072, b_6074, b_6076, b_6078, b_6080⟩ := hW_5527.at m_1 t_2
        refine v_put hC fl_X8_15 m_1 e_6072 rfl rfl (Nat.le_of_ble_eq_true rfl) (fs' := [.ref q_3, .int v_6073, .int v_6069, .int v_6077, .int v_6079]) rfl dX8_follow_158 (fun f_6081 hf_6082 hk_6083 => ?_)
        have hW_6084 := hW_5527.up hf_6082 hk_6083 t_2 ⟨v_6073, v_6069, v_6077, v_6079, rfl, (by first | omega | (simp only [Int32.lt_iff_toInt_lt, Int32.le_iff_toInt_le, Int32.reduceToInt, ← Int32.toInt_inj, true_and, and_true, or_true, true_or, false_or, or_false, false_and, and_false, not_true_eq_false, not_false_eq_true] <;> omega)), (by first | omega | (simp only [Int32.lt_iff_toInt_lt, Int32.le_iff_toInt_le, Int32.reduceToInt, ← Int32.toInt_inj, true_and, and_true, or_true, true_or, false_or, or_false, false_and, and_false, not_true_eq_false, not_false_eq_true] <;> omega)), (by first | omega | (simp only [Int32.lt_iff_toInt_lt, Int32.le_iff_toInt_le, Int32.reduceToInt, ← Int32.toInt_inj, true_and, and_true, or_true, true_or, false_or, or_false, false_and, and_false, not_true_eq_false, not_false_eq_true] <;> omega)), (by first | omega | (simp only [Int32.lt_iff_toInt_lt, Int32.le_iff_toInt_le, Int32.reduceToInt, ← Int32.toInt_inj, true_and, and_true, or_true, true_or, false_or, or_false, false_and, and_false, not_true_eq_false, not_false_eq_true] <;> omega))⟩
        have hf_6085 := (hk_6083 a_1 (ne_kd hf_5529 e_6072 rfl)).trans hf_5529
        have hf_6086 := (hk_6083 a_2 (ne_kd e_5541 e_6072 rfl)).trans e_5541
        have fr_6087 := FR.w hk_6083 e_6072 (k := 8) rfl
        refine v_aload_n hC dX8_follow_161 rfl ?_
        refine v_iconst hC dX8_follow_162 (v := 1) (by decide) ?_
        refine v_aload_n hC dX8_follow_163 rfl ?_
        refine v_getN hC fn_X8_67 m_19 hf_6085 rfl dX8_follow_164 ?_
        obtain ⟨v_6088, h_6089⟩ : ∃ v9 : Int32, (if (1 : Int32) < v_28 then v_28 else (1 : Int32)) = v9 := ⟨_, rfl⟩
        refine v_mmax hC mm_X8_62 mm_smax mm_i mm_cmax (by decide) (Nat.le_of_ble_eq_true rfl) (Nat.le_of_ble_eq_true rfl) (Nat.le_of_ble_eq_true rfl) h_6089 dX8_follow_167 ?_
        have b_6090 := max_v h_6089
        try simp only [Int32.reduceToInt] at b_6090
        refine v_put hC fl_X8_19 m_1 hf_6082 rfl rfl (Nat.le_of_ble_eq_true rfl) (fs' := [.ref q_3, .int v_6073, .int v_6069, .int v_6088, .int v_6079]) rfl dX8_follow_170 (fun f_6091 hf_6092 hk_6093 => ?_)
        have hW_6094 := hW_6084.up hf_6092 hk_6093 t_2 ⟨v_6073, v_6069, v_6088, v_6079, rfl, (by first | omega | (simp only [Int32.lt_iff_toInt_lt, Int32.le_iff_toInt_le, Int32.reduceToInt, ← Int32.toInt_inj, true_and, and_true, or_true, true_or, false_or, or_false, false_and, and_false, not_true_eq_false, not_false_eq_true] <;> omega)), (by first | omega | (simp only [Int32.lt_iff_toInt_lt, Int32.le_iff_toInt_le, Int32.reduceToInt, ← Int32.toInt_inj, true_and, and_true, or_true, true_or, false_or, or_false, false_and, and_false, not_true_eq_false, not_false_eq_true] <;> omega)), (by first | omega | (simp only [Int32.lt_iff_toInt_lt, Int32.le_iff_toInt_le, Int32.reduceToInt, ← Int32.toInt_inj, true_and, and_true, or_true, true_or, false_or, or_false, false_and, and_false, not_true_eq_false, not_false_eq_true] <;> omega)), (by first | omega | (simp only [Int32.lt_iff_toInt_lt, Int32.le_iff_toInt_le, Int32.reduceToInt, ← Int32.toInt_inj, true_and, and_true, or_true, true_or, false_or, or_false, false_and, and_false, not_true_eq_false, not_false_eq_true] <;> omega))⟩
        have hf_6095 := (hk_6093 a_1 (ne_kd hf_6085 hf_6082 rfl)).trans hf_6085
        have hf_6096 := (hk_6093 a_2 (ne_kd hf_6086 hf_6082 rfl)).trans hf_6086
        have fr_6097 := FR.w hk_6093 hf_6082 (k := 8) rfl
        refine v_aload_n hC dX8_follow_173 rfl ?_
        refine v_aload_n hC dX8_follow_174 rfl ?_
        refine v_get hC fl_X8_22 m_1 hf_6092 rfl dX8_follow_175 ?_
        refine v_aload_n hC dX8_follow_178 rfl ?_
        refine v_get hC fl_X8_15 m_1 hf_6092 rfl dX8_follow_179 ?_
        refine v_aload_n hC dX8_follow_182 rfl ?_
        refine v_get hC fl_X8_19 m_1 hf_6092 rfl dX8_follow_183 ?_
        obtain ⟨v_6098, h_6099⟩ : ∃ v9 : Int32, v_6069 * v_6088 = v9 := ⟨_, rfl⟩
        refine v_imul hC dX8_follow_186 h_6099 ?_
        have h_6100 := mul_v 5 5 25 h_6099 (by first | omega | (simp only [Int32.lt_iff_toInt_lt, Int32.le_iff_toInt_le, Int32.reduceToInt, ← Int32.toInt_inj, true_and, and_true, or_true, true_or, false_or, or_false, false_and, and_false, not_true_eq_false, not_false_eq_true] <;> omega)) (by first | omega | (simp only [Int32.lt_iff_toInt_lt, Int32.le_iff_toInt_le, Int32.reduceToInt, ← Int32.toInt_inj, true_and, and_true, or_true, true_or, false_or, or_false, false_and, and_false, not_true_eq_false, not_false_eq_true] <;> omega)) (by decide) (by decide)
        have h_6101 : 1 ≤ v_6098.toInt := by rw [h_6100.1]; exact Int.mul_le_mul (a := 1) (b := 1) (by first | omega | (simp only [Int32.lt_iff_toInt_lt, Int32.le_iff_toInt_le, Int32.reduceToInt, ← Int32.toInt_inj, true_and, and_true, or_true, true_or, false_or, or_false, false_and, and_false, not_true_eq_false, not_false_eq_true] <;> omega)) (by first | omega | (simp only [Int32.lt_iff_toInt_lt, Int32.le_iff_toInt_le, Int32.reduceToInt, ← Int32.toInt_inj, true_and, and_true, or_true, true_or, false_or, or_false, false_and, and_false, not_true_eq_false, not_false_eq_true] <;> omega)) (by decide) (by first | omega | (simp only [Int32.lt_iff_toInt_lt, Int32.le_iff_toInt_le, Int32.reduceToInt, ← Int32.toInt_inj, true_and, and_true, or_true, true_or, false_or, or_false, false_and, and_false, not_true_eq_false, not_false_eq_true] <;> omega))
        obtain ⟨v_6102, h_6103⟩ : ∃ v9 : Int32, v_6073 / v_6098 = v9 := ⟨_, rfl⟩
        refine v_idiv hC dX8_follow_187 (by first | omega | (simp only [Int32.lt_iff_toInt_lt, Int32.le_iff_toInt_le, Int32.reduceToInt, ← Int32.toInt_inj, true_and, and_true, or_true, true_or, false_or, or_false, false_and, and_false, not_true_eq_false, not_false_eq_true] <;> omega)) h_6103 ?_
        have h_6104 := div_v h_6103 (by first | omega | (simp only [Int32.lt_iff_toInt_lt, Int32.le_iff_toInt_le, Int32.reduceToInt, ← Int32.toInt_inj, true_and, and_true, or_true, true_or, false_or, or_false, false_and, and_false, not_true_eq_false, not_false_eq_true] <;> omega)) (by first | omega | (simp only [Int32.lt_iff_toInt_lt, Int32.le_iff_toInt_le, Int32.reduceToInt, ← Int32.toInt_inj, true_and, and_true, or_true, true_or, false_or, or_false, false_and, and_false, not_true_eq_false, not_false_eq_true] <;> omega))
        refine v_put hC fl_X8_68 m_1 hf_6092 rfl rfl (Nat.le_of_ble_eq_true rfl) (fs' := [.ref q_3, .int v_6073, .int v_6069, .int v_6088, .int v_6102]) rfl dX8_follow_188 (fun f_6105 hf_6106 hk_6107 => ?_)
        have hW_6108 := hW_6094.up hf_6106 hk_6107 t_2 ⟨v_6073, v_6069, v_6088, v_6102, rfl, (by first | omega | (simp only [Int32.lt_iff_toInt_lt, Int32.le_iff_toInt_le, Int32.reduceToInt, ← Int32.toInt_inj, true_and, and_true, or_true, true_or, false_or, or_false, false_and, and_false, not_true_eq_false, not_false_eq_true] <;> omega)), (by first | omega | (simp only [Int32.lt_iff_toInt_lt, Int32.le_iff_toInt_le, Int32.reduceToInt, ← Int32.toInt_inj, true_and, and_true, or_true, true_or, false_or, or_false, false_and, and_false, not_true_eq_false, not_false_eq_true] <;> omega)), (by first | omega | (simp only [Int32.lt_iff_toInt_lt, Int32.le_iff_toInt_le, Int32.reduceToInt, ← Int32.toInt_inj, true_and, and_true, or_true, true_or, false_or, or_false, false_and, and_false, not_true_eq_false, not_false_eq_true] <;> omega)), (by first | omega | (simp only [Int32.lt_iff_toInt_lt, Int32.le_iff_toInt_le, Int32.reduceToInt, ← Int32.toInt_inj, true_and, and_true, or_true, true_or, false_or, or_false, false_and, and_false, not_true_eq_false, not_false_eq_true] <;> omega))⟩
        have hf_6109 := (hk_6107 a_1 (ne_kd hf_6095 hf_6092 rfl)).trans hf_6095
        have hf_6110 := (hk_6107 a_2 (ne_kd hf_6096 hf_6092 rfl)).trans hf_6096
        have fr_6111 := FR.w hk_6107 hf_6092 (k := 8) rfl
        exact hR _ _ _ _ _ _ dX8_follow_191 (Nat.le_of_ble_eq_true rfl) (Nat.le_of_ble_eq_true rfl) ⟨rfl, hW_6108, (((((fr_18.tr hF_5528).tr fr_6087).tr fr_6097).tr fr_6111).mono rfl)⟩
      · simp only [Int32.lt_iff_toInt_lt, Int32.le_iff_toInt_le, Int32.reduceToInt, ← Int32.toInt_inj] at h_5548
        refine v_aload_n hC dX8_follow_22 rfl ?_
        refine v_getN hC fn_X8_35 m_19 hf_5529 rfl dX8_follow_23 ?_
        have jn_6119 : ∀ (v_6120 : Int32) (b_6121 : ((-15) ≤ v_6120.toInt ∧ v_6120.toInt ≤ 15)), V z E 9 0 0 L f_5526 43 [(4, .int i_5524), (3, .int i_5525), (0, .ref a_0), (1, .ref a_1), (2, .ref a_2)] [.int v_6120] := by
          intro v_6120 b_6121
          refine v_istore hC dX8_follow_43 (by decide) (lv' := [(5, .int v_6120), (4, .int i_5524), (3, .int i_5525), (0, .ref a_0), (1, .ref a_1), (2, .ref a_2)]) rfl ?_
          refine v_aload_n hC dX8_follow_45 rfl ?_
          refine v_getN hC fn_X8_39 m_19 hf_5529 rfl dX8_follow_46 ?_
          have jn_6127 : ∀ (v_6128 : Int32) (b_6129 : (0 ≤ v_6128.toInt ∧ v_6128.toInt ≤ 1)), V z E 9 0 0 L f_5526 65 [(5, .int v_6120), (4, .int i_5524), (3, .int i_5525), (0, .ref a_0), (1, .ref a_1), (2, .ref a_2)] [.int v_6128] := by
            intro v_6128 b_6129
            refine v_istore hC dX8_follow_65 (by decide) (lv' := [(6, .int v_6128), (5, .int v_6120), (4, .int i_5524), (3, .int i_5525), (0, .ref a_0), (1, .ref a_1), (2, .ref a_2)]) rfl ?_
            refine v_iconst hC dX8_follow_67 (v := 0) (by decide) ?_
            refine v_istore hC dX8_follow_68 (by decide) (lv' := [(7, .int 0), (6, .int v_6128), (5, .int v_6120), (4, .int i_5524), (3, .int i_5525), (0, .ref a_0), (1, .ref a_1), (2, .ref a_2)]) rfl ?_
            have lp_6544 : ∀ (n_6545 : Nat) (f_6538 : Nat → va_E) (hW_6539 : WT T L f_6538) (hF_6540 : FR [8, 356] f_5526 f_6538) (i_6536 : Int32) (b_6543 : (0 ≤ i_6536.toInt ∧ i_6536.toInt ≤ 16)) (i_6537 : Int32) (hm_6547 : 16 - i_6536.toInt < (n_6545 : Int)), V z E 9 0 0 L f_6538 70 [(7, .int i_6536), (6, .int v_6128), (5, .int v_6120), (4, .int i_5524), (3, .int i_6537), (0, .ref a_0), (1, .ref a_1), (2, .ref a_2)] [] := by
              intro n_6545
              induction n_6545 with
              | zero =>
                intro f_6538 hW_6539 hF_6540 i_6536 b_6543 i_6537 hm_6547
                have hf_6541 := hF_6540.at hf_5529 rfl
                have hf_6542 := hF_6540.at e_5541 rfl
                exfalso; omega
              | succ n_6545 ih_6546 =>
                intro f_6538 hW_6539 hF_6540 i_6536 b_6543 i_6537 hm_6547
                have hf_6541 := hF_6540.at hf_5529 rfl
                have hf_6542 := hF_6540.at e_5541 rfl
                refine v_iload hC dX8_follow_70 rfl ?_
                refine v_aload_n hC dX8_follow_72 rfl ?_
                refine v_getN hC fn_X8_42 m_5535 hf_6542 rfl dX8_follow_73 ?_
                refine v_icmp_ge hC dX8_follow_76 (tgt := 143) (by decide) (fun h_6548 => ?_) (fun h_6548 => ?_)
                · simp only [Int32.lt_iff_toInt_lt, Int32.le_iff_toInt_le, Int32.reduceToInt, ← Int32.toInt_inj] at h_6548
                  obtain ⟨v_6549, h_6550⟩ : ∃ v9 : Int32, i_5524 + Int32.ofInt 1 = v9 := ⟨_, rfl⟩
                  have h_6551 := add_v (b := 1) h_6550 (by first | omega | (simp only [Int32.lt_iff_toInt_lt, Int32.le_iff_toInt_le, Int32.reduceToInt, ← Int32.toInt_inj, true_and, and_true, or_true, true_or, false_or, or_false, false_and, and_false, not_true_eq_false, not_false_eq_true] <;> omega)) (by first | omega | (simp only [Int32.lt_iff_toInt_lt, Int32.le_iff_toInt_le, Int32.reduceToInt, ← Int32.toInt_inj, true_and, and_true, or_true, true_or, false_or, or_false, false_and, and_false, not_true_eq_false, not_false_eq_true] <;> omega))
                  simp only [Int32.reduceToInt] at h_6551
                  refine v_iinc hC dX8_follow_143 (k := 3) rfl (v := v_6549) h_6550 (by decide) (lv' := [(4, .int v_6549), (7, .int i_6536), (6, .int v_6128), (5, .int v_6120), (3, .int i_6537), (0, .ref a_0), (1, .ref a_1), (2, .ref a_2)]) rfl ?_
                  refine v_goto hC dX8_follow_146 (tgt := 13) (by decide) ?_
                  refine v_pick [0, 4, 5, 6, 7] rfl ?_
                  exact ih_5533 f_6538 hW_6539 ((hF_5528.tr hF_6540).mono rfl) v_6549 (by first | omega | (simp only [Int32.lt_iff_toInt_lt, Int32.le_iff_toInt_le, Int32.reduceToInt, ← Int32.toInt_inj, true_and, and_true, or_true, true_or, false_or, or_false, false_and, and_false, not_true_eq_false, not_false_eq_true] <;> omega)) i_6537 (by first | omega | (simp only [Int32.lt_iff_toInt_lt, Int32.le_iff_toInt_le, Int32.reduceToInt, ← Int32.toInt_inj, true_and, and_true, or_true, true_or, false_or, or_false, false_and, and_false, not_true_eq_false, not_false_eq_true] <;> omega))
                · simp only [Int32.lt_iff_toInt_lt, Int32.le_iff_toInt_le, Int32.reduceToInt, ← Int32.toInt_inj] at h_6548
                  refine v_aload_n hC dX8_follow_79 rfl ?_
                  refine v_iload hC dX8_follow_80 rfl ?_
                  refine v_iload hC dX8_follow_82 rfl ?_
                  have jn_6559 : ∀ (v_6560 : Int32) (b_6561 : ((-15) ≤ v_6560.toInt ∧ v_6560.toInt ≤ 15)), V z E 9 0 0 L f_6538 101 [(7, .int i_6536), (6, .int v_6128), (5, .int v_6120), (4, .int i_5524), (3, .int i_6537), (0, .ref a_0), (1, .ref a_1), (2, .ref a_2)] [.int v_6560, .int v_6120, .ref a_2] := by
                    intro v_6560 b_6561
                    refine v_vi hC (rest := []) m_5535 hf_6542 rfl mi_X4_placeOf ms_X4_placeOf (p_X4_placeOf hW_6539 k_2) mx_X4_placeOf ml_X8_45 (by decide) rfl (cells1 := 0) (slots1 := 0) (by decide) (by decide) (Nat.le_of_ble_eq_true rfl) (Nat.le_of_ble_eq_true rfl) rfl (Nat.le_of_ble_eq_true rfl) dX8_follow_101 (fun r_6562 L_6563 f_6564 h_6565 => ?_)
                    obtain ⟨rfl, rfl, b_6566, h_6567, h_6568⟩ := h_6565
                    refine v_istore hC dX8_follow_104 (by decide) (lv' := [(8, .int r_6562), (7, .int i_6536), (6, .int v_6128), (5, .int v_6120), (4, .int i_5524), (3, .int i_6537), (0, .ref a_0), (1, .ref a_1), (2, .ref a_2)]) rfl ?_
                    refine v_aload_n hC dX8_follow_106 rfl ?_
                    refine v_aload_n hC dX8_follow_107 rfl ?_
                    refine v_iload hC dX8_follow_108 rfl ?_
                    refine v_vi hC (rest := [.ref a_1]) m_5535 hf_6542 rfl mi_X4_sortAt ms_X4_sortAt (p_X4_sortAt hW_6539 k_2) mx_X4_sortAt ml_X8_49 (by decide) rfl (cells1 := 0) (slots1 := 0) (by decide) (by decide) (Nat.le_of_ble_eq_true rfl) (Nat.le_of_ble_eq_true rfl) rfl (Nat.le_of_ble_eq_true rfl) dX8_follow_110 (fun r_6571 L_6572 f_6573 h_6574 => ?_)
                    obtain ⟨rfl, rfl, h_6575⟩ := h_6574
                    refine v_vi hC (rest := []) m_19 hf_6541 rfl mi_X10_wants ms_X10_wants (p_X10_wants hW_6539 k_1) mx_X10_wants ml_X8_53 (by decide) rfl (cells1 := 0) (slots1 := 0) (by decide) (by decide) (Nat.le_of_ble_eq_true rfl) (Nat.le_of_ble_eq_true rfl) rfl (Nat.le_of_ble_eq_true rfl) dX8_follow_113 (fun r_6578 L_6579 f_6580 h_6581 => ?_)
                    obtain ⟨rfl, rfl, b_6582, h_6583⟩ := h_6581
                    refine v_if_eq hC dX8_follow_116 (tgt := 137) (by decide) (fun h_6586 => ?_) (fun h_6586 => ?_)
                    · simp only [Int32.lt_iff_toInt_lt, Int32.le_iff_toInt_le, Int32.reduceToInt, ← Int32.toInt_inj] at h_6586
                      obtain ⟨v_6587, h_6588⟩ : ∃ v9 : Int32, i_6536 + Int32.ofInt 1 = v9 := ⟨_, rfl⟩
                      have h_6589 := add_v (b := 1) h_6588 (by first | omega | (simp only [Int32.lt_iff_toInt_lt, Int32.le_iff_toInt_le, Int32.reduceToInt, ← Int32.toInt_inj, true_and, and_true, or_true, true_or, false_or, or_false, false_and, and_false, not_true_eq_false, not_false_eq_true] <;> omega)) (by first | omega | (simp only [Int32.lt_iff_toInt_lt, Int32.le_iff_toInt_le, Int32.reduceToInt, ← Int32.toInt_inj, true_and, and_true, or_true, true_or, false_or, or_false, false_and, and_false, not_true_eq_false, not_false_eq_true] <;> omega))
                      simp only [Int32.reduceToInt] at h_6589
                      refine v_iinc hC dX8_follow_137 (k := 1) rfl (v := v_6587) h_6588 (by decide) (lv' := [(7, .int v_6587), (8, .int r_6562), (6, .int v_6128), (5, .int v_6120), (4, .int i_5524), (3, .int i_6537), (0, .ref a_0), (1, .ref a_1), (2, .ref a_2)]) rfl ?_
                      refine v_goto hC dX8_follow_140 (tgt := 70) (by decide) ?_
                      refine v_pick [0, 2, 3, 4, 5, 6, 7, 8] rfl ?_
                      exact ih_6546 f_6538 hW_6539 (hF_6540.mono rfl) v_6587 (by first | omega | (simp only [Int32.lt_iff_toInt_lt, Int32.le_iff_toInt_le, Int32.reduceToInt, ← Int32.toInt_inj, true_and, and_true, or_true, true_or, false_or, or_false, false_and, and_false, not_true_eq_false, not_false_eq_true] <;> omega)) i_6537 (by first | omega | (simp only [Int32.lt_iff_toInt_lt, Int32.le_iff_toInt_le, Int32.reduceToInt, ← Int32.toInt_inj, true_and, and_true, or_true, true_or, false_or, or_false, false_and, and_false, not_true_eq_false, not_false_eq_true] <;> omega))
                    · simp only [Int32.lt_iff_toInt_lt, Int32.le_iff_toInt_le, Int32.reduceToInt, ← Int32.toInt_inj] at h_6586
                      obtain ⟨v_6590, h_6591⟩ : ∃ v9 : Int32, i_6537 + Int32.ofInt (-1) = v9 := ⟨_, rfl⟩
                      refine v_iinc hC dX8_follow_119 (k := 5) rfl (v := v_6590) h_6591 (by decide) (lv' := [(3, .int v_6590), (8, .int r_6562), (7, .int i_6536), (6, .int v_6128), (5, .int v_6120), (4, .int i_5524), (0, .ref a_0), (1, .ref a_1), (2, .ref a_2)]) rfl ?_
                      refine v_iload_n hC dX8_follow_122 rfl ?_
                      refine v_if_ne hC dX8_follow_123 (tgt := 137) (by decide) (fun h_6592 => ?_) (fun h_6592 => ?_)
                      · simp only [Int32.lt_iff_toInt_lt, Int32.le_iff_toInt_le, Int32.reduceToInt, ← Int32.toInt_inj] at h_6592
                        obtain ⟨v_6593, h_6594⟩ : ∃ v9 : Int32, i_6536 + Int32.ofInt 1 = v9 := ⟨_, rfl⟩
                        have h_6595 := add_v (b := 1) h_6594 (by first | omega | (simp only [Int32.lt_iff_toInt_lt, Int32.le_iff_toInt_le, Int32.reduceToInt, ← Int32.toInt_inj, true_and, and_true, or_true, true_or, false_or, or_false, false_and, and_false, not_true_eq_false, not_false_eq_true] <;> omega)) (by first | omega | (simp only [Int32.lt_iff_toInt_lt, Int32.le_iff_toInt_le, Int32.reduceToInt, ← Int32.toInt_inj, true_and, and_true, or_true, true_or, false_or, or_false, false_and, and_false, not_true_eq_false, not_false_eq_true] <;> omega))
                        simp only [Int32.reduceToInt] at h_6595
                        refine v_iinc hC dX8_follow_137 (k := 2) rfl (v := v_6593) h_6594 (by decide) (lv' := [(7, .int v_6593), (3, .int v_6590), (8, .int r_6562), (6, .int v_6128), (5, .int v_6120), (4, .int i_5524), (0, .ref a_0), (1, .ref a_1), (2, .ref a_2)]) rfl ?_
                        refine v_goto hC dX8_follow_140 (tgt := 70) (by decide) ?_
                        refine v_pick [0, 3, 4, 5, 1, 6, 7, 8] rfl ?_
                        exact ih_6546 f_6538 hW_6539 (hF_6540.mono rfl) v_6593 (by first | omega | (simp only [Int32.lt_iff_toInt_lt, Int32.le_iff_toInt_le, Int32.reduceToInt, ← Int32.toInt_inj, true_and, and_true, or_true, true_or, false_or, or_false, false_and, and_false, not_true_eq_false, not_false_eq_true] <;> omega)) v_6590 (by first | omega | (simp only [Int32.lt_iff_toInt_lt, Int32.le_iff_toInt_le, Int32.reduceToInt, ← Int32.toInt_inj, true_and, and_true, or_true, true_or, false_or, or_false, false_and, and_false, not_true_eq_false, not_false_eq_true] <;> omega))
                      · simp only [Int32.lt_iff_toInt_lt, Int32.le_iff_toInt_le, Int32.reduceToInt, ← Int32.toInt_inj] at h_6592
                        refine v_aload_n hC dX8_follow_126 rfl ?_
                        refine v_iload hC dX8_follow_127 rfl ?_
                        obtain ⟨v_6597, v_6599, v_6601, v_6603, e_6596, b_6598, b_6600, b_6602, b_6604⟩ := hW_6539.at m_1 t_2
                        refine v_vv hC (rest := []) m_1 e_6596 rfl mi_X8_addPlace ms_X8_addPlace (p_X8_addPlace hW_6539 k_0) mx_X8_addPlace ml_X8_57 (by decide) rfl (cells1 := 0) (slots1 := 0) (by decide) (by decide) (Nat.le_of_ble_eq_true rfl) (Nat.le_of_ble_eq_true rfl) rfl (Nat.le_of_ble_eq_true rfl) dX8_follow_129 (fun L_6606 f_6607 h_6608 => ?_)
                        obtain ⟨rfl, hW_6609, hF_6610⟩ := h_6608
                        have hf_6611 := hF_6610.at hf_6541 rfl
                        have hf_6612 := hF_6610.at hf_6542 rfl
                        refine v_aload_n hC dX8_follow_132 rfl ?_
                        refine v_getN hC fn_X8_25 m_19 hf_6611 rfl dX8_follow_133 ?_
                        refine v_istore_n hC dX8_follow_136 (by decide) (lv' := [(3, .int v_25), (8, .int r_6562), (7, .int i_6536), (6, .int v_6128), (5, .int v_6120), (4, .int i_5524), (0, .ref a_0), (1, .ref a_1), (2, .ref a_2)]) rfl ?_
                        obtain ⟨v_6613, h_6614⟩ : ∃ v9 : Int32, i_6536 + Int32.ofInt 1 = v9 := ⟨_, rfl⟩
                        have h_6615 := add_v (b := 1) h_6614 (by first | omega | (simp only [Int32.lt_iff_toInt_lt, Int32.le_iff_toInt_le, Int32.reduceToInt, ← Int32.toInt_inj, true_and, and_true, or_true, true_or, false_or, or_false, false_and, and_false, not_true_eq_false, not_false_eq_true] <;> omega)) (by first | omega | (simp only [Int32.lt_iff_toInt_lt, Int32.le_iff_toInt_le, Int32.reduceToInt, ← Int32.toInt_inj, true_and, and_true, or_true, true_or, false_or, or_false, false_and, and_false, not_true_eq_false, not_false_eq_true] <;> omega))
                        simp only [Int32.reduceToInt] at h_6615
                        refine v_iinc hC dX8_follow_137 (k := 2) rfl (v := v_6613) h_6614 (by decide) (lv' := [(7, .int v_6613), (3, .int v_25), (8, .int r_6562), (6, .int v_6128), (5, .int v_6120), (4, .int i_5524), (0, .ref a_0), (1, .ref a_1), (2, .ref a_2)]) rfl ?_
                        refine v_goto hC dX8_follow_140 (tgt := 70) (by decide) ?_
                        refine v_pick [0, 3, 4, 5, 1, 6, 7, 8] rfl ?_
                        exact ih_6546 f_6607 hW_6609 ((hF_6540.tr hF_6610).mono rfl) v_6613 (by first | omega | (simp only [Int32.lt_iff_toInt_lt, Int32.le_iff_toInt_le, Int32.reduceToInt, ← Int32.toInt_inj, true_and, and_true, or_true, true_or, false_or, or_false, false_and, and_false, not_true_eq_false, not_false_eq_true] <;> omega)) v_25 (by first | omega | (simp only [Int32.lt_iff_toInt_lt, Int32.le_iff_toInt_le, Int32.reduceToInt, ← Int32.toInt_inj, true_and, and_true, or_true, true_or, false_or, or_false, false_and, and_false, not_true_eq_false, not_false_eq_true] <;> omega))
                  refine v_if_eq hC dX8_follow_84 (tgt := 99) (by decide) (fun h_6552 => ?_) (fun h_6552 => ?_)
                  · simp only [Int32.lt_iff_toInt_lt, Int32.le_iff_toInt_le, Int32.reduceToInt, ← Int32.toInt_inj] at h_6552
                    refine v_iload hC dX8_follow_99 rfl ?_
                    refine v_pick [0, 1, 2, 3, 4, 5, 6, 7] rfl ?_
                    exact jn_6559 i_6536 (by first | omega | (simp only [Int32.lt_iff_toInt_lt, Int32.le_iff_toInt_le, Int32.reduceToInt, ← Int32.toInt_inj, true_and, and_true, or_true, true_or, false_or, or_false, false_and, and_false, not_true_eq_false, not_false_eq_true] <;> omega))
                  · simp only [Int32.lt_iff_toInt_lt, Int32.le_iff_toInt_le, Int32.reduceToInt, ← Int32.toInt_inj] at h_6552
                    refine v_aload_n hC dX8_follow_87 rfl ?_
                    refine v_getN hC fn_X8_42 m_5535 hf_6542 rfl dX8_follow_88 ?_
                    refine v_iconst hC dX8_follow_91 (v := 1) (by decide) ?_
                    obtain ⟨v_6616, h_6617⟩ : ∃ v9 : Int32, v_5542 - 1 = v9 := ⟨_, rfl⟩
                    refine v_isub hC dX8_follow_92 h_6617 ?_
                    have h_6618 := sub_v h_6617 (by first | omega | (simp only [Int32.lt_iff_toInt_lt, Int32.le_iff_toInt_le, Int32.reduceToInt, ← Int32.toInt_inj, true_and, and_true, or_true, true_or, false_or, or_false, false_and, and_false, not_true_eq_false, not_false_eq_true] <;> omega)) (by first | omega | (simp only [Int32.lt_iff_toInt_lt, Int32.le_iff_toInt_le, Int32.reduceToInt, ← Int32.toInt_inj, true_and, and_true, or_true, true_or, false_or, or_false, false_and, and_false, not_true_eq_false, not_false_eq_true] <;> omega))
                    try simp only [Int32.reduceToInt] at h_6618
                    refine v_iload hC dX8_follow_93 rfl ?_
                    obtain ⟨v_6619, h_6620⟩ : ∃ v9 : Int32, v_6616 - i_6536 = v9 := ⟨_, rfl⟩
                    refine v_isub hC dX8_follow_95 h_6620 ?_
                    have h_6621 := sub_v h_6620 (by first | omega | (simp only [Int32.lt_iff_toInt_lt, Int32.le_iff_toInt_le, Int32.reduceToInt, ← Int32.toInt_inj, true_and, and_true, or_true, true_or, false_or, or_false, false_and, and_false, not_true_eq_false, not_false_eq_true] <;> omega)) (by first | omega | (simp only [Int32.lt_iff_toInt_lt, Int32.le_iff_toInt_le, Int32.reduceToInt, ← Int32.toInt_inj, true_and, and_true, or_true, true_or, false_or, or_false, false_and, and_false, not_true_eq_false, not_false_eq_true] <;> omega))
                    refine v_goto hC dX8_follow_96 (tgt := 101) (by decide) ?_
                    refine v_pick [0, 1, 2, 3, 4, 5, 6, 7] rfl ?_
                    exact jn_6559 v_6619 (by first | omega | (simp only [Int32.lt_iff_toInt_lt, Int32.le_iff_toInt_le, Int32.reduceToInt, ← Int32.toInt_inj, true_and, and_true, or_true, true_or, false_or, or_false, false_and, and_false, not_true_eq_false, not_false_eq_true] <;> omega))
            refine v_pick [0, 1, 2, 3, 4, 5, 6, 7] rfl ?_
            exact lp_6544 18 f_5526 hW_5527 FR.rf 0 (by decide) i_5525 (by decide)
          refine v_if_eq hC dX8_follow_49 (tgt := 64) (by decide) (fun h_6122 => ?_) (fun h_6122 => ?_)
          · simp only [Int32.lt_iff_toInt_lt, Int32.le_iff_toInt_le, Int32.reduceToInt, ← Int32.toInt_inj] at h_6122
            refine v_iconst hC dX8_follow_64 (v := 0) (by decide) ?_
            refine v_pick [0, 1, 2, 3, 4, 5] rfl ?_
            exact jn_6127 0 (by decide)
          · simp only [Int32.lt_iff_toInt_lt, Int32.le_iff_toInt_le, Int32.reduceToInt, ← Int32.toInt_inj] at h_6122
            refine v_iload hC dX8_follow_52 rfl ?_
            refine v_iconst hC dX8_follow_54 (v := 2) (by decide) ?_
            obtain ⟨v_6622, h_6623⟩ : ∃ v9 : Int32, v_6120 - v_6120 / 2 * 2 = v9 := ⟨_, rfl⟩
            refine v_irem hC dX8_follow_55 (by decide) h_6623 ?_
            refine v_iconst hC dX8_follow_56 (v := 1) (by decide) ?_
            refine v_icmp_ne hC dX8_follow_57 (tgt := 64) (by decide) (fun h_6625 => ?_) (fun h_6625 => ?_)
            · simp only [Int32.lt_iff_toInt_lt, Int32.le_iff_toInt_le, Int32.reduceToInt, ← Int32.toInt_inj] at h_6625
              refine v_iconst hC dX8_follow_64 (v := 0) (by decide) ?_
              refine v_pick [0, 1, 2, 3, 4, 5] rfl ?_
              exact jn_6127 0 (by decide)
            · simp only [Int32.lt_iff_toInt_lt, Int32.le_iff_toInt_le, Int32.reduceToInt, ← Int32.toInt_inj] at h_6625
              refine v_iconst hC dX8_follow_60 (v := 1) (by decide) ?_
              refine v_goto hC dX8_follow_61 (tgt := 65) (by decide) ?_
              refine v_pick [0, 1, 2, 3, 4, 5] rfl ?_
              exact jn_6127 1 (by decide)
        refine v_if_eq hC dX8_follow_26 (tgt := 41) (by decide) (fun h_6112 => ?_) (fun h_6112 => ?_)
        · simp only [Int32.lt_iff_toInt_lt, Int32.le_iff_toInt_le, Int32.reduceToInt, ← Int32.toInt_inj] at h_6112
          refine v_iload hC dX8_follow_41 rfl ?_
          refine v_pick [0, 1, 2, 3, 4] rfl ?_
          exact jn_6119 i_5524 (by first | omega | (simp only [Int32.lt_iff_toInt_lt, Int32.le_iff_toInt_le, Int32.reduceToInt, ← Int32.toInt_inj, true_and, and_true, or_true, true_or, false_or, or_false, false_and, and_false, not_true_eq_false, not_false_eq_true] <;> omega))
        · simp only [Int32.lt_iff_toInt_lt, Int32.le_iff_toInt_le, Int32.reduceToInt, ← Int32.toInt_inj] at h_6112
          refine v_aload_n hC dX8_follow_29 rfl ?_
          refine v_getN hC fn_X8_30 m_5535 e_5541 rfl dX8_follow_30 ?_
          refine v_iconst hC dX8_follow_33 (v := 1) (by decide) ?_
          obtain ⟨v_6626, h_6627⟩ : ∃ v9 : Int32, v_5544 - 1 = v9 := ⟨_, rfl⟩
          refine v_isub hC dX8_follow_34 h_6627 ?_
          have h_6628 := sub_v h_6627 (by first | omega | (simp only [Int32.lt_iff_toInt_lt, Int32.le_iff_toInt_le, Int32.reduceToInt, ← Int32.toInt_inj, true_and, and_true, or_true, true_or, false_or, or_false, false_and, and_false, not_true_eq_false, not_false_eq_true] <;> omega)) (by first | omega | (simp only [Int32.lt_iff_toInt_lt, Int32.le_iff_toInt_le, Int32.reduceToInt, ← Int32.toInt_inj, true_and, and_true, or_true, true_or, false_or, or_false, false_and, and_false, not_true_eq_false, not_false_eq_true] <;> omega))
          try simp only [Int32.reduceToInt] at h_6628
          refine v_iload hC dX8_follow_35 rfl ?_
          obtain ⟨v_6629, h_6630⟩ : ∃ v9 : Int32, v_6626 - i_5524 = v9 := ⟨_, rfl⟩
          refine v_isub hC dX8_follow_37 h_6630 ?_
          have h_6631 := sub_v h_6630 (by first | omega | (simp only [Int32.lt_iff_toInt_lt, Int32.le_iff_toInt_le, Int32.reduceToInt, ← Int32.toInt_inj, true_and, and_true, or_true, true_or, false_or, or_false, false_and, and_false, not_true_eq_false, not_false_eq_true] <;> omega)) (by first | omega | (simp only [Int32.lt_iff_toInt_lt, Int32.le_iff_toInt_le, Int32.reduceToInt, ← Int32.toInt_inj, true_and, and_true, or_true, true_or, false_or, or_false, false_and, and_false, not_true_eq_false, not_false_eq_true] <;> omega))
          refine v_goto hC dX8_follow_38 (tgt := 43) (by decide) ?_
          refine v_pick [0, 1, 2, 3, 4] rfl ?_
          exact jn_6119 v_6629 (by first | omega | (simp only [Int32.lt_iff_toInt_lt, Int32.le_iff_toInt_le, Int32.reduceToInt, ← Int32.toInt_inj, true_and, and_true, or_true, true_or, false_or, or_false, false_and, and_false, not_true_eq_false, not_false_eq_true] <;> omega))
  refine v_pick [0, 1, 2, 3, 4] rfl ?_
  exact lp_5531 18 f_14 hW_17 FR.rf 0 (by decide) v_25 (by decide)
set_option maxRecDepth 100000 in
set_option maxHeartbeats 8000000 in
theorem p_X8_hasRoomFor {l : Launch} {E : Ez} {L : List Nat} {f : Nat → va_E} {T : Nat → va_E → Prop} {a_0 : Nat} {a_1 : Int32} (hW : WT T L f) (k_0 : isWalk T L E a_0) : CI l yX8_hasRoomFor cX8_hasRoomFor 2 .boolean 0 0 0 E [.ref a_0, .int a_1] L f (fun r L1 f1 => L = L1 ∧ f = f1 ∧ (0 ≤ r.toInt ∧ r.toInt ≤ 1)) := by
  refine ci_of (by decide) (Nat.le_of_ble_eq_true rfl) (fun z hz hnm hC hR => ?_)
  have hC : Cx z E cX8_hasRoomFor RX8 2 0 0 0 := hC
  subst hz
  show V z E 2 0 0 L f 0 [(0, .ref a_0), (1, .int a_1)] []
  refine v_iconst hC dX8_hasRoomFor_0 (v := 5) (by decide) ?_
  refine v_iload_n hC dX8_hasRoomFor_1 rfl ?_
  refine v_iconst hC dX8_hasRoomFor_2 (v := 1) (by decide) ?_
  obtain ⟨v_1, h_2⟩ : ∃ v9 : Int32, a_1 + 1 = v9 := ⟨_, rfl⟩
  refine v_iadd hC dX8_hasRoomFor_3 h_2 ?_
  obtain ⟨v_4, h_5⟩ : ∃ v9 : Int32, (5 : Int32) * v_1 = v9 := ⟨_, rfl⟩
  refine v_imul hC dX8_hasRoomFor_4 h_5 ?_
  refine v_aload_n hC dX8_hasRoomFor_5 rfl ?_
  obtain ⟨m_7, q_9, t_8, k_10⟩ := id k_0
  obtain ⟨v_12, v_14, v_16, v_18, e_11, b_13, b_15, b_17, b_19⟩ := hW.at m_7 t_8
  refine v_get hC fl_X8_68 m_7 e_11 rfl dX8_hasRoomFor_6 ?_
  refine v_icmp_gt hC dX8_hasRoomFor_9 (tgt := 16) (by decide) (fun h_20 => ?_) (fun h_20 => ?_)
  · simp only [Int32.lt_iff_toInt_lt, Int32.le_iff_toInt_le, Int32.reduceToInt, ← Int32.toInt_inj] at h_20
    refine v_iconst hC dX8_hasRoomFor_16 (v := 0) (by decide) ?_
    exact hR _ _ _ _ _ _ _ dX8_hasRoomFor_17 rfl (Nat.le_of_ble_eq_true rfl) (Nat.le_of_ble_eq_true rfl) ⟨rfl, rfl, (by decide)⟩
  · simp only [Int32.lt_iff_toInt_lt, Int32.le_iff_toInt_le, Int32.reduceToInt, ← Int32.toInt_inj] at h_20
    refine v_iconst hC dX8_hasRoomFor_12 (v := 1) (by decide) ?_
    refine v_goto hC dX8_hasRoomFor_13 (tgt := 17) (by decide) ?_
    exact hR _ _ _ _ _ _ _ dX8_hasRoomFor_17 rfl (Nat.le_of_ble_eq_true rfl) (Nat.le_of_ble_eq_true rfl) ⟨rfl, rfl, (by decide)⟩
set_option maxRecDepth 100000 in
set_option maxHeartbeats 8000000 in
theorem p_J7_fill_53178 {l : Launch} {E : Ez} {L : List Nat} {f : Nat → va_E} {T : Nat → va_E → Prop} {a_0 : Nat} {a_1 : Int32} (hW : WT T L f) (k_0 : isI T L E 5 a_0) : CV l yJ7_fill_53178 cJ7_fill_53178 4 0 0 0 E [.ref a_0, .int a_1] L f (fun L1 f1 => L = L1 ∧ WT T L f1 ∧ FR [105] f f1) := by
  refine cv_of (by decide) (Nat.le_of_ble_eq_true rfl) (fun z hz hnm hC hR => ?_)
  have hC : Cx z E cJ7_fill_53178 RJ7 4 0 0 0 := hC
  subst hz
  show V z E 4 0 0 L f 0 [(0, .ref a_0), (1, .int a_1)] []
  refine v_iconst hC dJ7_fill_53178_0 (v := 0) (by decide) ?_
  refine v_istore_n hC dJ7_fill_53178_1 (by decide) (lv' := [(2, .int 0), (0, .ref a_0), (1, .int a_1)]) rfl ?_
  refine v_aload_n hC dJ7_fill_53178_2 rfl ?_
  obtain ⟨m_1, t_2⟩ := id k_0
  obtain ⟨g_4, e_3⟩ := hW.at m_1 t_2
  refine v_alen hC m_1 e_3 (t := 1) rfl (v := 5) rfl dJ7_fill_53178_3 ?_
  refine v_istore_n hC dJ7_fill_53178_4 (by decide) (lv' := [(3, .int 5), (2, .int 0), (0, .ref a_0), (1, .int a_1)]) rfl ?_
  have lp_75 : ∀ (n_76 : Nat) (f_71 : Nat → va_E) (hW_72 : WT T L f_71) (hF_73 : FR [105] f f_71) (i_70 : Int32) (b_74 : (0 ≤ i_70.toInt ∧ i_70.toInt ≤ 5)) (hm_78 : 5 - i_70.toInt < (n_76 : Int)), V z E 4 0 0 L f_71 5 [(3, .int 5), (2, .int i_70), (0, .ref a_0), (1, .int a_1)] [] := by
    intro n_76
    induction n_76 with
    | zero =>
      intro f_71 hW_72 hF_73 i_70 b_74 hm_78
      exfalso; omega
    | succ n_76 ih_77 =>
      intro f_71 hW_72 hF_73 i_70 b_74 hm_78
      refine v_iload_n hC dJ7_fill_53178_5 rfl ?_
      refine v_iload_n hC dJ7_fill_53178_6 rfl ?_
      refine v_icmp_ge hC dJ7_fill_53178_7 (tgt := 20) (by decide) (fun h_79 => ?_) (fun h_79 => ?_)
      · simp only [Int32.lt_iff_toInt_lt, Int32.le_iff_toInt_le, Int32.reduceToInt, ← Int32.toInt_inj] at h_79
        exact hR _ _ _ _ _ _ dJ7_fill_53178_20 (Nat.le_of_ble_eq_true rfl) (Nat.le_of_ble_eq_true rfl) ⟨rfl, hW_72, (hF_73.mono rfl)⟩
      · simp only [Int32.lt_iff_toInt_lt, Int32.le_iff_toInt_le, Int32.reduceToInt, ← Int32.toInt_inj] at h_79
        refine v_aload_n hC dJ7_fill_53178_10 rfl ?_
        refine v_iload_n hC dJ7_fill_53178_11 rfl ?_
        refine v_iload_n hC dJ7_fill_53178_12 rfl ?_
        obtain ⟨g_81, e_80⟩ := hW_72.at m_1 t_2
        refine v_iast hC m_1 e_80 (vp_in_iff.mpr (by first | omega | (simp only [Int32.lt_iff_toInt_lt, Int32.le_iff_toInt_le, Int32.reduceToInt, ← Int32.toInt_inj, true_and, and_true, or_true, true_or, false_or, or_false, false_and, and_false, not_true_eq_false, not_false_eq_true] <;> omega))) dJ7_fill_53178_13 (fun f_82 hf_83 hk_84 => ?_)
        have hW_86 := hW_72.up hf_83 hk_84 t_2 ⟨_, rfl⟩
        obtain ⟨g_85, hf_83⟩ : ∃ g9, f_82 a_0 = aI E 5 g9 := ⟨_, hf_83⟩
        have fr_87 := FR.w hk_84 e_80 (k := 105) rfl
        obtain ⟨v_88, h_89⟩ : ∃ v9 : Int32, i_70 + Int32.ofInt 1 = v9 := ⟨_, rfl⟩
        have h_90 := add_v (b := 1) h_89 (by first | omega | (simp only [Int32.lt_iff_toInt_lt, Int32.le_iff_toInt_le, Int32.reduceToInt, ← Int32.toInt_inj, true_and, and_true, or_true, true_or, false_or, or_false, false_and, and_false, not_true_eq_false, not_false_eq_true] <;> omega)) (by first | omega | (simp only [Int32.lt_iff_toInt_lt, Int32.le_iff_toInt_le, Int32.reduceToInt, ← Int32.toInt_inj, true_and, and_true, or_true, true_or, false_or, or_false, false_and, and_false, not_true_eq_false, not_false_eq_true] <;> omega))
        simp only [Int32.reduceToInt] at h_90
        refine v_iinc hC dJ7_fill_53178_14 (k := 1) rfl (v := v_88) h_89 (by decide) (lv' := [(2, .int v_88), (3, .int 5), (0, .ref a_0), (1, .int a_1)]) rfl ?_
        refine v_goto hC dJ7_fill_53178_17 (tgt := 5) (by decide) ?_
        refine v_pick [1, 0, 2, 3] rfl ?_
        exact ih_77 f_82 hW_86 ((hF_73.tr fr_87).mono rfl) v_88 (by first | omega | (simp only [Int32.lt_iff_toInt_lt, Int32.le_iff_toInt_le, Int32.reduceToInt, ← Int32.toInt_inj, true_and, and_true, or_true, true_or, false_or, or_false, false_and, and_false, not_true_eq_false, not_false_eq_true] <;> omega)) (by first | omega | (simp only [Int32.lt_iff_toInt_lt, Int32.le_iff_toInt_le, Int32.reduceToInt, ← Int32.toInt_inj, true_and, and_true, or_true, true_or, false_or, or_false, false_and, and_false, not_true_eq_false, not_false_eq_true] <;> omega))
  refine v_pick [0, 1, 2, 3] rfl ?_
  exact lp_75 7 f hW FR.rf 0 (by decide) (by decide)
