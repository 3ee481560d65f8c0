set_option maxRecDepth 100000 in
set_option maxHeartbeats 8000000 in
theorem p_X12_hasPattern {l : Launch} {E : Ez} {L : List Nat} {f : Nat → va_E} {T : Nat → va_E → Prop} {a_0 : Nat} {q : Nat → Nat} {g_w : Nat → Int32} (hW : WT T L f) (k_0 : isM T L E a_0 q) (e_w : f (q 1) = aI E 2076 g_w) (o_w : WOK g_w) : CI l yX12_hasPattern cX12_hasPattern 1 .boolean 1 0 0 E [.ref a_0] L f (fun r L1 f1 => L = L1 ∧ f = f1 ∧ (0 ≤ r.toInt ∧ r.toInt ≤ 1) ∧ (r.toInt = 0 ∨ 1 ≤ (g_w 0).toInt)) := by
  refine ci_of (by decide) (Nat.le_of_ble_eq_true rfl) (fun z hz hnm hC hR => ?_)
  have hC : Cx z E cX12_hasPattern RX12 1 1 0 0 := hC
  subst hz
  show V z E 1 0 0 L f 0 [(0, .ref a_0)] []
  obtain ⟨m_1, t_2, nq_21, k_3, k_4, k_5, k_6, k_7, k_8, k_9, k_10, k_11, k_12, k_13, k_14, k_15, k_16, k_17, k_18, k_19, k_20⟩ := id k_0
  obtain ⟨m_22, t_23⟩ := id k_3
  have b_24 := o_w.r0
  have b_25 := o_w.w0
  refine v_aload_n hC dX12_hasPattern_0 rfl ?_
  obtain ⟨v_27, v_28, v_30, v_32, v_34, v_36, v_38, v_39, v_40, v_41, v_43, e_26, b_29, b_31, b_33, b_35, b_37, b_42, b_44⟩ := hW.at m_1 t_2
  refine v_vi hC (rest := []) m_1 e_26 rfl mi_X12_rows ms_X12_rows (p_X12_rows hW k_0 e_w o_w) mx_X12_rows ml_X12_83 (by decide) rfl (cells1 := 0) (slots1 := 0) (by decide) (by decide) (Nat.le_of_ble_eq_true rfl) (Nat.le_of_ble_eq_true rfl) rfl (Nat.le_of_ble_eq_true rfl) dX12_hasPattern_1 (fun r_45 L_46 f_47 h_48 => ?_)
  obtain ⟨rfl, rfl, rfl⟩ := h_48
  refine v_if_le hC dX12_hasPattern_4 (tgt := 11) (by decide) (fun h_51 => ?_) (fun h_51 => ?_)
  · simp only [Int32.lt_iff_toInt_lt, Int32.le_iff_toInt_le, Int32.reduceToInt, ← Int32.toInt_inj] at h_51
    refine v_iconst hC dX12_hasPattern_11 (v := 0) (by decide) ?_
    exact hR _ _ _ _ _ _ _ dX12_hasPattern_12 rfl (Nat.le_of_ble_eq_true rfl) (Nat.le_of_ble_eq_true rfl) ⟨rfl, rfl, (by decide), (by first | omega | (simp only [Int32.lt_iff_toInt_lt, Int32.le_iff_toInt_le, Int32.reduceToInt, ← Int32.toInt_inj, true_and, and_true, or_true, true_or, false_or, or_false, false_and, and_false, not_true_eq_false, not_false_eq_true] <;> omega))⟩
  · simp only [Int32.lt_iff_toInt_lt, Int32.le_iff_toInt_le, Int32.reduceToInt, ← Int32.toInt_inj] at h_51
    refine v_iconst hC dX12_hasPattern_7 (v := 1) (by decide) ?_
    refine v_goto hC dX12_hasPattern_8 (tgt := 12) (by decide) ?_
    exact hR _ _ _ _ _ _ _ dX12_hasPattern_12 rfl (Nat.le_of_ble_eq_true rfl) (Nat.le_of_ble_eq_true rfl) ⟨rfl, rfl, (by decide), (by first | omega | (simp only [Int32.lt_iff_toInt_lt, Int32.le_iff_toInt_le, Int32.reduceToInt, ← Int32.toInt_inj, true_and, and_true, or_true, true_or, false_or, or_false, false_and, and_false, not_true_eq_false, not_false_eq_true] <;> omega))⟩
set_option maxRecDepth 100000 in
set_option maxHeartbeats 8000000 in
theorem p_X12_isSlot {l : Launch} {E : Ez} {L : List Nat} {f : Nat → va_E} {T : Nat → va_E → Prop} {a_0 : Int32} (hW : WT T L f) : CI l yX12_isSlot cX12_isSlot 1 .boolean 1 0 0 E [.int a_0] L f (fun r L1 f1 => L = L1 ∧ f = f1 ∧ (0 ≤ r.toInt ∧ r.toInt ≤ 1) ∧ (r.toInt = 0 ∨ (0 ≤ a_0.toInt ∧ a_0.toInt ≤ 3)) ∧ ((r.toInt = 1 ∧ 0 ≤ a_0.toInt ∧ a_0.toInt ≤ 3) ∨ (r.toInt = 0 ∧ (a_0.toInt < 0 ∨ 3 < a_0.toInt)))) := by
  refine ci_of (by decide) (Nat.le_of_ble_eq_true rfl) (fun z hz hnm hC hR => ?_)
  have hC : Cx z E cX12_isSlot RX12 1 1 0 0 := hC
  subst hz
  show V z E 1 0 0 L f 0 [(0, .int a_0)] []
  refine v_iload_n hC dX12_isSlot_0 rfl ?_
  obtain ⟨v_1, h_2⟩ : ∃ v9 : Int64, a_0.toInt64 = v9 := ⟨_, rfl⟩
  refine v_i2l hC dX12_isSlot_1 h_2 ?_
  have h_3 : v_1.toInt = a_0.toInt := by rw [← h_2]; exact Int32.toInt_toInt64 _
  refine v_lconst hC dX12_isSlot_2 (v := 0) (by decide) ?_
  refine v_ldc2 hC kl_X12_90 dX12_isSlot_3 ?_
  refine v_si hC (rest := []) mt_X12_in (p_X12_in hW) mx_X12_in ml_X12_79 (by decide) rfl (cells1 := 0) (slots1 := 0) (by decide) (by decide) (Nat.le_of_ble_eq_true rfl) (Nat.le_of_ble_eq_true rfl) rfl (Nat.le_of_ble_eq_true rfl) dX12_isSlot_6 (fun r_4 L_5 f_6 h_7 => ?_)
  obtain ⟨rfl, rfl, b_8, x_9⟩ := h_7
  try simp only [Int32.reduceToInt, Int64.reduceToInt] at x_9
  exact hR _ _ _ _ _ _ _ dX12_isSlot_9 (nar01 (by first | omega | (simp only [Int32.lt_iff_toInt_lt, Int32.le_iff_toInt_le, Int32.reduceToInt, ← Int32.toInt_inj, true_and, and_true, or_true, true_or, false_or, or_false, false_and, and_false, not_true_eq_false, not_false_eq_true] <;> omega))) (Nat.le_of_ble_eq_true rfl) (Nat.le_of_ble_eq_true rfl) ⟨rfl, rfl, (by first | omega | (simp only [Int32.lt_iff_toInt_lt, Int32.le_iff_toInt_le, Int32.reduceToInt, ← Int32.toInt_inj, true_and, and_true, or_true, true_or, false_or, or_false, false_and, and_false, not_true_eq_false, not_false_eq_true] <;> omega)), (by first | omega | (simp only [Int32.lt_iff_toInt_lt, Int32.le_iff_toInt_le, Int32.reduceToInt, ← Int32.toInt_inj, true_and, and_true, or_true, true_or, false_or, or_false, false_and, and_false, not_true_eq_false, not_false_eq_true] <;> omega)), (by first | omega | (simp only [Int32.lt_iff_toInt_lt, Int32.le_iff_toInt_le, Int32.reduceToInt, ← Int32.toInt_inj, true_and, and_true, or_true, true_or, false_or, or_false, false_and, and_false, not_true_eq_false, not_false_eq_true] <;> omega))⟩
set_option maxRecDepth 100000 in
set_option maxHeartbeats 8000000 in
theorem p_X12_isSeed {l : Launch} {E : Ez} {L : List Nat} {f : Nat → va_E} {T : Nat → va_E → Prop} {a_0 : Int32} (hW : WT T L f) : CI l yX12_isSeed cX12_isSeed 1 .boolean 1 0 0 E [.int a_0] L f (fun r L1 f1 => L = L1 ∧ f = f1 ∧ (0 ≤ r.toInt ∧ r.toInt ≤ 1) ∧ (r.toInt = 0 ∨ (0 ≤ a_0.toInt ∧ a_0.toInt ≤ 2000000000))) := by
  refine ci_of (by decide) (Nat.le_of_ble_eq_true rfl) (fun z hz hnm hC hR => ?_)
  have hC : Cx z E cX12_isSeed RX12 1 1 0 0 := hC
  subst hz
  show V z E 1 0 0 L f 0 [(0, .int a_0)] []
  refine v_iload_n hC dX12_isSeed_0 rfl ?_
  obtain ⟨v_1, h_2⟩ : ∃ v9 : Int64, a_0.toInt64 = v9 := ⟨_, rfl⟩
  refine v_i2l hC dX12_isSeed_1 h_2 ?_
  have h_3 : v_1.toInt = a_0.toInt := by rw [← h_2]; exact Int32.toInt_toInt64 _
  refine v_lconst hC dX12_isSeed_2 (v := 0) (by decide) ?_
  refine v_ldc2 hC kl_X12_317 dX12_isSeed_3 ?_
  refine v_si hC (rest := []) mt_X12_in (p_X12_in hW) mx_X12_in ml_X12_79 (by decide) rfl (cells1 := 0) (slots1 := 0) (by decide) (by decide) (Nat.le_of_ble_eq_true rfl) (Nat.le_of_ble_eq_true rfl) rfl (Nat.le_of_ble_eq_true rfl) dX12_isSeed_6 (fun r_4 L_5 f_6 h_7 => ?_)
  obtain ⟨rfl, rfl, b_8, x_9⟩ := h_7
  try simp only [Int32.reduceToInt, Int64.reduceToInt] at x_9
  exact hR _ _ _ _ _ _ _ dX12_isSeed_9 (nar01 (by first | omega | (simp only [Int32.lt_iff_toInt_lt, Int32.le_iff_toInt_le, Int32.reduceToInt, ← Int32.toInt_inj, true_and, and_true, or_true, true_or, false_or, or_false, false_and, and_false, not_true_eq_false, not_false_eq_true] <;> omega))) (Nat.le_of_ble_eq_true rfl) (Nat.le_of_ble_eq_true rfl) ⟨rfl, rfl, (by first | omega | (simp only [Int32.lt_iff_toInt_lt, Int32.le_iff_toInt_le, Int32.reduceToInt, ← Int32.toInt_inj, true_and, and_true, or_true, true_or, false_or, or_false, false_and, and_false, not_true_eq_false, not_false_eq_true] <;> omega)), (by first | omega | (simp only [Int32.lt_iff_toInt_lt, Int32.le_iff_toInt_le, Int32.reduceToInt, ← Int32.toInt_inj, true_and, and_true, or_true, true_or, false_or, or_false, false_and, and_false, not_true_eq_false, not_false_eq_true] <;> omega))⟩
set_option maxRecDepth 100000 in
set_option maxHeartbeats 8000000 in
theorem p_X12_knits {l : Launch} {E : Ez} {L : List Nat} {f : Nat → va_E} {T : Nat → va_E → Prop} {a_0 : Nat} {a_1 : Int64} {q : Nat → Nat} {g_w : Nat → Int32} (hW : WT T L f) (k_0 : isM T L E a_0 q) (e_w : f (q 1) = aI E 2076 g_w) (o_w : WOK g_w) : CI l yX12_knits cX12_knits 7 .int 3 0 0 E [.ref a_0, .long a_1] L f (fun r L1 f1 => L = L1 ∧ WT T L f1 ∧ FR [356] f f1) := by
  refine ci_of (by decide) (Nat.le_of_ble_eq_true rfl) (fun z hz hnm hC hR => ?_)
  have hC : Cx z E cX12_knits RX12 7 3 0 0 := hC
  subst hz
  show V z E 7 0 0 L f 0 [(0, .ref a_0), (1, .long a_1)] []
  obtain ⟨m_1, t_2, nq_21, k_3, k_4, k_5, k_6, k_7, k_8, k_9, k_10, k_11, k_12, k_13, k_14, k_15, k_16, k_17, k_18, k_19, k_20⟩ := id k_0
  obtain ⟨m_22, t_23⟩ := id k_3
  have b_24 := o_w.r0
  have b_25 := o_w.w0
  refine v_lload_n hC dX12_knits_0 rfl ?_
  refine v_lstore_n hC dX12_knits_1 (by decide) (lv' := [(3, .long a_1), (0, .ref a_0), (1, .long a_1)]) rfl ?_
  refine v_iconst hC dX12_knits_2 (v := 0) (by decide) ?_
  refine v_istore hC dX12_knits_3 (by decide) (lv' := [(5, .int 0), (3, .long a_1), (0, .ref a_0), (1, .long a_1)]) rfl ?_
  refine v_iconst hC dX12_knits_5 (v := 0) (by decide) ?_
  refine v_istore hC dX12_knits_6 (by decide) (lv' := [(6, .int 0), (5, .int 0), (3, .long a_1), (0, .ref a_0), (1, .long a_1)]) rfl ?_
  have lp_1433 : ∀ (n_1434 : Nat) (f_1428 : Nat → va_E) (hW_1429 : WT T L f_1428) (hF_1430 : FR [356] f f_1428) (i_1425 : Int32) (b_1432 : (0 ≤ i_1425.toInt ∧ i_1425.toInt ≤ 256)) (i_1426 : Int32) (i_1427 : Int64) (hm_1436 : 256 - i_1425.toInt < (n_1434 : Int)), V z E 7 0 0 L f_1428 8 [(6, .int i_1425), (5, .int i_1426), (3, .long i_1427), (0, .ref a_0)] [] := by
    intro n_1434
    induction n_1434 with
    | zero =>
      intro f_1428 hW_1429 hF_1430 i_1425 b_1432 i_1426 i_1427 hm_1436
      have hf_1431 := hF_1430.at e_w rfl
      exfalso; omega
    | succ n_1434 ih_1435 =>
      intro f_1428 hW_1429 hF_1430 i_1425 b_1432 i_1426 i_1427 hm_1436
      have hf_1431 := hF_1430.at e_w rfl
      refine v_iload hC dX12_knits_8 rfl ?_
      refine v_aload_n hC dX12_knits_10 rfl ?_
      obtain ⟨v_1438, v_1439, v_1441, v_1443, v_1445, v_1447, v_1449, v_1450, v_1451, v_1452, v_1454, e_1437, b_1440, b_1442, b_1444, b_1446, b_1448, b_1453, b_1455⟩ := hW_1429.at m_1 t_2
      refine v_vi hC (rest := [.int i_1425]) m_1 e_1437 rfl mi_X12_area ms_X12_area (p_X12_area hW_1429 k_0 hf_1431 o_w) mx_X12_area ml_X12_203 (by decide) rfl (cells1 := 0) (slots1 := 0) (by decide) (by decide) (Nat.le_of_ble_eq_true rfl) (Nat.le_of_ble_eq_true rfl) rfl (Nat.le_of_ble_eq_true rfl) dX12_knits_11 (fun r_1456 L_1457 f_1458 h_1459 => ?_)
      obtain ⟨rfl, rfl, rfl⟩ := h_1459
      have ar_1462 := area_v o_w
      refine v_icmp_ge hC dX12_knits_14 (tgt := 124) (by decide) (fun h_1463 => ?_) (fun h_1463 => ?_)
      · simp only [Int32.lt_iff_toInt_lt, Int32.le_iff_toInt_le, Int32.reduceToInt, ← Int32.toInt_inj] at h_1463
        refine v_iload hC dX12_knits_124 rfl ?_
        exact hR _ _ _ _ _ _ _ dX12_knits_126 rfl (Nat.le_of_ble_eq_true rfl) (Nat.le_of_ble_eq_true rfl) ⟨rfl, hW_1429, (hF_1430.mono rfl)⟩
      · simp only [Int32.lt_iff_toInt_lt, Int32.le_iff_toInt_le, Int32.reduceToInt, ← Int32.toInt_inj] at h_1463
        refine v_aload_n hC dX12_knits_17 rfl ?_
        refine v_get hC fl_X12_37 m_1 e_1437 rfl dX12_knits_18 ?_
        refine v_iload hC dX12_knits_21 rfl ?_
        refine v_aload_n hC dX12_knits_23 rfl ?_
        refine v_iload hC dX12_knits_24 rfl ?_
        refine v_vi hC (rest := [.int i_1425, .ref (q 15)]) m_1 e_1437 rfl mi_X12_isFree ms_X12_isFree (p_X12_isFree hW_1429 k_0 (by first | omega | (simp only [Int32.lt_iff_toInt_lt, Int32.le_iff_toInt_le, Int32.reduceToInt, ← Int32.toInt_inj, true_and, and_true, or_true, true_or, false_or, or_false, false_and, and_false, not_true_eq_false, not_false_eq_true] <;> omega)) hf_1431 o_w (by first | omega | (simp only [Int32.lt_iff_toInt_lt, Int32.le_iff_toInt_le, Int32.reduceToInt, ← Int32.toInt_inj, true_and, and_true, or_true, true_or, false_or, or_false, false_and, and_false, not_true_eq_false, not_false_eq_true] <;> omega))) mx_X12_isFree ml_X12_206 (by decide) rfl (cells1 := 0) (slots1 := 0) (by decide) (by decide) (Nat.le_of_ble_eq_true rfl) (Nat.le_of_ble_eq_true rfl) rfl (Nat.le_of_ble_eq_true rfl) dX12_knits_26 (fun r_1464 L_1465 f_1466 h_1467 => ?_)
        obtain ⟨rfl, rfl, b_1468⟩ := h_1467
        have jn_1479 : ∀ (v_1480 : Int32) (b_1481 : ((-1) ≤ v_1480.toInt ∧ v_1480.toInt ≤ 12)), V z E 7 0 0 L f_1428 42 [(6, .int i_1425), (5, .int i_1426), (3, .long i_1427), (0, .ref a_0)] [.int v_1480, .int i_1425, .ref (q 15)] := by
          intro v_1480 b_1481
          obtain ⟨m_1482, t_1483⟩ := id k_9
          obtain ⟨g_1485, e_1484⟩ := hW_1429.at m_1482 t_1483
          refine v_iast hC m_1482 e_1484 (vp_in_iff.mpr (by first | omega | (simp only [Int32.lt_iff_toInt_lt, Int32.le_iff_toInt_le, Int32.reduceToInt, ← Int32.toInt_inj, true_and, and_true, or_true, true_or, false_or, or_false, false_and, and_false, not_true_eq_false, not_false_eq_true] <;> omega))) dX12_knits_42 (fun f_1486 hf_1487 hk_1488 => ?_)
          have hW_1490 := hW_1429.up hf_1487 hk_1488 t_1483 ⟨_, rfl⟩
          obtain ⟨g_1489, hf_1487⟩ : ∃ g9, f_1486 (q 15) = aI E 256 g9 := ⟨_, hf_1487⟩
          have hf_1491 := (hk_1488 (q 1) (ne_kd hf_1431 e_1484 rfl)).trans hf_1431
          have hf_1492 := (hk_1488 a_0 (ne_kd e_1437 e_1484 rfl)).trans e_1437
          have fr_1493 := FR.w hk_1488 e_1484 (k := 356) rfl
          refine v_aload_n hC dX12_knits_43 rfl ?_
          refine v_iload hC dX12_knits_44 rfl ?_
          refine v_vi hC (rest := []) m_1 hf_1492 rfl mi_X12_isFree ms_X12_isFree (p_X12_isFree hW_1490 k_0 (by first | omega | (simp only [Int32.lt_iff_toInt_lt, Int32.le_iff_toInt_le, Int32.reduceToInt, ← Int32.toInt_inj, true_and, and_true, or_true, true_or, false_or, or_false, false_and, and_false, not_true_eq_false, not_false_eq_true] <;> omega)) hf_1491 o_w (by first | omega | (simp only [Int32.lt_iff_toInt_lt, Int32.le_iff_toInt_le, Int32.reduceToInt, ← Int32.toInt_inj, true_and, and_true, or_true, true_or, false_or, or_false, false_and, and_false, not_true_eq_false, not_false_eq_true] <;> omega))) mx_X12_isFree ml_X12_206 (by decide) rfl (cells1 := 0) (slots1 := 0) (by decide) (by decide) (Nat.le_of_ble_eq_true rfl) (Nat.le_of_ble_eq_true rfl) rfl (Nat.le_of_ble_eq_true rfl) dX12_knits_46 (fun r_1494 L_1495 f_1496 h_1497 => ?_)
          obtain ⟨rfl, rfl, b_1498⟩ := h_1497
          refine v_if_ne hC dX12_knits_49 (tgt := 55) (by decide) (fun h_1501 => ?_) (fun h_1501 => ?_)
          · simp only [Int32.lt_iff_toInt_lt, Int32.le_iff_toInt_le, Int32.reduceToInt, ← Int32.toInt_inj] at h_1501
            refine v_ldc2 hC kl_X12_304 dX12_knits_55 ?_
            refine v_lload_n hC dX12_knits_58 rfl ?_
            obtain ⟨v_1502, h_1503⟩ : ∃ v9 : Int64, (1103515245 : Int64) * i_1427 = v9 := ⟨_, rfl⟩
            refine v_lmul hC dX12_knits_59 h_1503 ?_
            refine v_ldc2 hC kl_X12_306 dX12_knits_60 ?_
            obtain ⟨v_1504, h_1505⟩ : ∃ v9 : Int64, v_1502 + 12345 = v9 := ⟨_, rfl⟩
            refine v_ladd hC dX12_knits_63 h_1505 ?_
            refine v_ldc2 hC kl_X12_308 dX12_knits_64 ?_
            obtain ⟨v_1506, h_1507⟩ : ∃ v9 : Int64, v_1504 - v_1504 / 2147483648 * 2147483648 = v9 := ⟨_, rfl⟩
            refine v_lrem hC dX12_knits_67 (by decide) h_1507 ?_
            refine v_lstore_n hC dX12_knits_68 (by decide) (lv' := [(3, .long v_1506), (6, .int i_1425), (5, .int i_1426), (0, .ref a_0)]) rfl ?_
            refine v_lload_n hC dX12_knits_69 rfl ?_
            refine v_ldc2 hC kl_X12_310 dX12_knits_70 ?_
            obtain ⟨v_1508, h_1509⟩ : ∃ v9 : Int64, v_1506 / 65536 = v9 := ⟨_, rfl⟩
            refine v_ldiv hC dX12_knits_73 (by decide) h_1509 ?_
            refine v_ldc2 hC kl_X12_312 dX12_knits_74 ?_
            obtain ⟨v_1510, h_1511⟩ : ∃ v9 : Int64, v_1508 - v_1508 / 100 * 100 = v9 := ⟨_, rfl⟩
            refine v_lrem hC dX12_knits_77 (by decide) h_1511 ?_
            refine v_aload_n hC dX12_knits_78 rfl ?_
            refine v_get hC fl_X12_13 m_1 hf_1492 rfl dX12_knits_79 ?_
            refine v_bipush hC dX12_knits_82 (v := 10) (by decide) ?_
            refine v_aload_n hC dX12_knits_84 rfl ?_
            refine v_iload hC dX12_knits_85 rfl ?_
            refine v_vi hC (rest := [.int 10, .ref (q 1), .long v_1510]) m_1 hf_1492 rfl mi_X12_sortOf ms_X12_sortOf (p_X12_sortOf hW_1490 k_0 (by first | omega | (simp only [Int32.lt_iff_toInt_lt, Int32.le_iff_toInt_le, Int32.reduceToInt, ← Int32.toInt_inj, true_and, and_true, or_true, true_or, false_or, or_false, false_and, and_false, not_true_eq_false, not_false_eq_true] <;> omega)) hf_1491 o_w (by first | omega | (simp only [Int32.lt_iff_toInt_lt, Int32.le_iff_toInt_le, Int32.reduceToInt, ← Int32.toInt_inj, true_and, and_true, or_true, true_or, false_or, or_false, false_and, and_false, not_true_eq_false, not_false_eq_true] <;> omega))) mx_X12_sortOf ml_X12_98 (by decide) rfl (cells1 := 0) (slots1 := 0) (by decide) (by decide) (Nat.le_of_ble_eq_true rfl) (Nat.le_of_ble_eq_true rfl) rfl (Nat.le_of_ble_eq_true rfl) dX12_knits_87 (fun r_1512 L_1513 f_1514 h_1515 => ?_)
            obtain ⟨rfl, rfl, b_1516⟩ := h_1515
            obtain ⟨v_1519, h_1520⟩ : ∃ v9 : Int32, (10 : Int32) + r_1512 = v9 := ⟨_, rfl⟩
            refine v_iadd hC dX12_knits_90 h_1520 ?_
            have h_1521 := add_v h_1520 (by first | omega | (simp only [Int32.lt_iff_toInt_lt, Int32.le_iff_toInt_le, Int32.reduceToInt, ← Int32.toInt_inj, true_and, and_true, or_true, true_or, false_or, or_false, false_and, and_false, not_true_eq_false, not_false_eq_true] <;> omega)) (by first | omega | (simp only [Int32.lt_iff_toInt_lt, Int32.le_iff_toInt_le, Int32.reduceToInt, ← Int32.toInt_inj, true_and, and_true, or_true, true_or, false_or, or_false, false_and, and_false, not_true_eq_false, not_false_eq_true] <;> omega))
            try simp only [Int32.reduceToInt] at h_1521
            refine v_iconst hC dX12_knits_91 (v := 2) (by decide) ?_
            obtain ⟨v_1522, h_1523⟩ : ∃ v9 : Int32, v_1519 - 2 = v9 := ⟨_, rfl⟩
            refine v_isub hC dX12_knits_92 h_1523 ?_
            have h_1524 := sub_v h_1523 (by first | omega | (simp only [Int32.lt_iff_toInt_lt, Int32.le_iff_toInt_le, Int32.reduceToInt, ← Int32.toInt_inj, true_and, and_true, or_true, true_or, false_or, or_false, false_and, and_false, not_true_eq_false, not_false_eq_true] <;> omega)) (by first | omega | (simp only [Int32.lt_iff_toInt_lt, Int32.le_iff_toInt_le, Int32.reduceToInt, ← Int32.toInt_inj, true_and, and_true, or_true, true_or, false_or, or_false, false_and, and_false, not_true_eq_false, not_false_eq_true] <;> omega))
            try simp only [Int32.reduceToInt] at h_1524
            obtain ⟨v_1525, h_1526⟩ : ∃ v9 : Int32, g_w (v_1522 : Int32).toNatClampNeg = v9 := ⟨_, rfl⟩
            refine v_iald hC m_22 hf_1491 (vp_in_iff.mpr (by first | omega | (simp only [Int32.lt_iff_toInt_lt, Int32.le_iff_toInt_le, Int32.reduceToInt, ← Int32.toInt_inj, true_and, and_true, or_true, true_or, false_or, or_false, false_and, and_false, not_true_eq_false, not_false_eq_true] <;> omega))) h_1526 dX12_knits_93 ?_
            obtain ⟨v_1527, h_1528⟩ : ∃ v9 : Int64, v_1525.toInt64 = v9 := ⟨_, rfl⟩
            refine v_i2l hC dX12_knits_94 h_1528 ?_
            have h_1529 : v_1527.toInt = v_1525.toInt := by rw [← h_1528]; exact Int32.toInt_toInt64 _
            obtain ⟨v_1530, h_1531⟩ : ∃ v9 : Int32, lg_cmp (v_1510 : Int64) v_1527 = v9 := ⟨_, rfl⟩
            refine v_lcmp hC dX12_knits_95 h_1531 ?_
            refine v_if_lt hC dX12_knits_96 (tgt := 102) (by decide) (fun h_1532 => ?_) (fun h_1532 => ?_)
            · rw [← h_1531] at h_1532
              have h_1533 := (lgc_lt.mp h_1532)
              simp only [Int64.lt_iff_toInt_lt, Int64.le_iff_toInt_le] at h_1533
              refine v_aload_n hC dX12_knits_102 rfl ?_
              refine v_get hC fl_X12_37 m_1 hf_1492 rfl dX12_knits_103 ?_
              refine v_iload hC dX12_knits_106 rfl ?_
              refine v_aload_n hC dX12_knits_108 rfl ?_
              refine v_iload hC dX12_knits_109 rfl ?_
              refine v_vi hC (rest := [.int i_1425, .ref (q 15)]) m_1 hf_1492 rfl mi_X12_turnedOf ms_X12_turnedOf (p_X12_turnedOf hW_1490 k_0 (by first | omega | (simp only [Int32.lt_iff_toInt_lt, Int32.le_iff_toInt_le, Int32.reduceToInt, ← Int32.toInt_inj, true_and, and_true, or_true, true_or, false_or, or_false, false_and, and_false, not_true_eq_false, not_false_eq_true] <;> omega)) hf_1491 o_w (by first | omega | (simp only [Int32.lt_iff_toInt_lt, Int32.le_iff_toInt_le, Int32.reduceToInt, ← Int32.toInt_inj, true_and, and_true, or_true, true_or, false_or, or_false, false_and, and_false, not_true_eq_false, not_false_eq_true] <;> omega))) mx_X12_turnedOf ml_X12_314 (by decide) rfl (cells1 := 0) (slots1 := 0) (by decide) (by decide) (Nat.le_of_ble_eq_true rfl) (Nat.le_of_ble_eq_true rfl) rfl (Nat.le_of_ble_eq_true rfl) dX12_knits_111 (fun r_1535 L_1536 f_1537 h_1538 => ?_)
              obtain ⟨rfl, rfl, b_1539⟩ := h_1538
              refine v_iast hC m_1482 hf_1487 (vp_in_iff.mpr (by first | omega | (simp only [Int32.lt_iff_toInt_lt, Int32.le_iff_toInt_le, Int32.reduceToInt, ← Int32.toInt_inj, true_and, and_true, or_true, true_or, false_or, or_false, false_and, and_false, not_true_eq_false, not_false_eq_true] <;> omega))) dX12_knits_114 (fun f_1542 hf_1543 hk_1544 => ?_)
              have hW_1546 := hW_1490.up hf_1543 hk_1544 t_1483 ⟨_, rfl⟩
              obtain ⟨g_1545, hf_1543⟩ : ∃ g9, f_1542 (q 15) = aI E 256 g9 := ⟨_, hf_1543⟩
              have hf_1547 := (hk_1544 (q 1) (ne_kd hf_1491 hf_1487 rfl)).trans hf_1491
              have hf_1548 := (hk_1544 a_0 (ne_kd hf_1492 hf_1487 rfl)).trans hf_1492
              have fr_1549 := FR.w hk_1544 hf_1487 (k := 356) rfl
              obtain ⟨v_1550, h_1551⟩ : ∃ v9 : Int32, i_1426 + Int32.ofInt 1 = v9 := ⟨_, rfl⟩
              refine v_iinc hC dX12_knits_115 (k := 2) rfl (v := v_1550) h_1551 (by decide) (lv' := [(5, .int v_1550), (3, .long v_1506), (6, .int i_1425), (0, .ref a_0)]) rfl ?_
              obtain ⟨v_1552, h_1553⟩ : ∃ v9 : Int32, i_1425 + Int32.ofInt 1 = v9 := ⟨_, rfl⟩
              have h_1554 := add_v (b := 1) h_1553 (by first | omega | (simp only [Int32.lt_iff_toInt_lt, Int32.le_iff_toInt_le, Int32.reduceToInt, ← Int32.toInt_inj, true_and, and_true, or_true, true_or, false_or, or_false, false_and, and_false, not_true_eq_false, not_false_eq_true] <;> omega)) (by first | omega | (simp only [Int32.lt_iff_toInt_lt, Int32.le_iff_toInt_le, Int32.reduceToInt, ← Int32.toInt_inj, true_and, and_true, or_true, true_or, false_or, or_false, false_and, and_false, not_true_eq_false, not_false_eq_true] <;> omega))
              simp only [Int32.reduceToInt] at h_1554
              refine v_iinc hC dX12_knits_118 (k := 2) rfl (v := v_1552) h_1553 (by decide) (lv' := [(6, .int v_1552), (5, .int v_1550), (3, .long v_1506), (0, .ref a_0)]) rfl ?_
              refine v_goto hC dX12_knits_121 (tgt := 8) (by decide) ?_
              refine v_pick [0, 1, 2, 3] rfl ?_
              exact ih_1435 f_1542 hW_1546 (((hF_1430.tr fr_1493).tr fr_1549).mono rfl) v_1552 (by first | omega | (simp only [Int32.lt_iff_toInt_lt, Int32.le_iff_toInt_le, Int32.reduceToInt, ← Int32.toInt_inj, true_and, and_true, or_true, true_or, false_or, or_false, false_and, and_false, not_true_eq_false, not_false_eq_true] <;> omega)) v_1550 v_1506 (by first | omega | (simp only [Int32.lt_iff_toInt_lt, Int32.le_iff_toInt_le, Int32.reduceToInt, ← Int32.toInt_inj, true_and, and_true, or_true, true_or, false_or, or_false, false_and, and_false, not_true_eq_false, not_false_eq_true] <;> omega))
            · rw [← h_1531] at h_1532
              have h_1534 := (mt lgc_lt.mpr h_1532)
              simp only [Int64.lt_iff_toInt_lt, Int64.le_iff_toInt_le] at h_1534
              refine v_goto hC dX12_knits_99 (tgt := 118) (by decide) ?_
              obtain ⟨v_1555, h_1556⟩ : ∃ v9 : Int32, i_1425 + Int32.ofInt 1 = v9 := ⟨_, rfl⟩
              have h_1557 := add_v (b := 1) h_1556 (by first | omega | (simp only [Int32.lt_iff_toInt_lt, Int32.le_iff_toInt_le, Int32.reduceToInt, ← Int32.toInt_inj, true_and, and_true, or_true, true_or, false_or, or_false, false_and, and_false, not_true_eq_false, not_false_eq_true] <;> omega)) (by first | omega | (simp only [Int32.lt_iff_toInt_lt, Int32.le_iff_toInt_le, Int32.reduceToInt, ← Int32.toInt_inj, true_and, and_true, or_true, true_or, false_or, or_false, false_and, and_false, not_true_eq_false, not_false_eq_true] <;> omega))
              simp only [Int32.reduceToInt] at h_1557
              refine v_iinc hC dX12_knits_118 (k := 1) rfl (v := v_1555) h_1556 (by decide) (lv' := [(6, .int v_1555), (3, .long v_1506), (5, .int i_1426), (0, .ref a_0)]) rfl ?_
              refine v_goto hC dX12_knits_121 (tgt := 8) (by decide) ?_
              refine v_pick [0, 2, 1, 3] rfl ?_
              exact ih_1435 f_1486 hW_1490 ((hF_1430.tr fr_1493).mono rfl) v_1555 (by first | omega | (simp only [Int32.lt_iff_toInt_lt, Int32.le_iff_toInt_le, Int32.reduceToInt, ← Int32.toInt_inj, true_and, and_true, or_true, true_or, false_or, or_false, false_and, and_false, not_true_eq_false, not_false_eq_true] <;> omega)) i_1426 v_1506 (by first | omega | (simp only [Int32.lt_iff_toInt_lt, Int32.le_iff_toInt_le, Int32.reduceToInt, ← Int32.toInt_inj, true_and, and_true, or_true, true_or, false_or, or_false, false_and, and_false, not_true_eq_false, not_false_eq_true] <;> omega))
          · simp only [Int32.lt_iff_toInt_lt, Int32.le_iff_toInt_le, Int32.reduceToInt, ← Int32.toInt_inj] at h_1501
            refine v_goto hC dX12_knits_52 (tgt := 118) (by decide) ?_
            obtain ⟨v_1558, h_1559⟩ : ∃ v9 : Int32, i_1425 + Int32.ofInt 1 = v9 := ⟨_, rfl⟩
            have h_1560 := add_v (b := 1) h_1559 (by first | omega | (simp only [Int32.lt_iff_toInt_lt, Int32.le_iff_toInt_le, Int32.reduceToInt, ← Int32.toInt_inj, true_and, and_true, or_true, true_or, false_or, or_false, false_and, and_false, not_true_eq_false, not_false_eq_true] <;> omega)) (by first | omega | (simp only [Int32.lt_iff_toInt_lt, Int32.le_iff_toInt_le, Int32.reduceToInt, ← Int32.toInt_inj, true_and, and_true, or_true, true_or, false_or, or_false, false_and, and_false, not_true_eq_false, not_false_eq_true] <;> omega))
            simp only [Int32.reduceToInt] at h_1560
            refine v_iinc hC dX12_knits_118 (k := 0) rfl (v := v_1558) h_1559 (by decide) (lv' := [(6, .int v_1558), (5, .int i_1426), (3, .long i_1427), (0, .ref a_0)]) rfl ?_
            refine v_goto hC dX12_knits_121 (tgt := 8) (by decide) ?_
            refine v_pick [0, 1, 2, 3] rfl ?_
            exact ih_1435 f_1486 hW_1490 ((hF_1430.tr fr_1493).mono rfl) v_1558 (by first | omega | (simp only [Int32.lt_iff_toInt_lt, Int32.le_iff_toInt_le, Int32.reduceToInt, ← Int32.toInt_inj, true_and, and_true, or_true, true_or, false_or, or_false, false_and, and_false, not_true_eq_false, not_false_eq_true] <;> omega)) i_1426 i_1427 (by first | omega | (simp only [Int32.lt_iff_toInt_lt, Int32.le_iff_toInt_le, Int32.reduceToInt, ← Int32.toInt_inj, true_and, and_true, or_true, true_or, false_or, or_false, false_and, and_false, not_true_eq_false, not_false_eq_true] <;> omega))
        refine v_if_eq hC dX12_knits_29 (tgt := 36) (by decide) (fun h_1471 => ?_) (fun h_1471 => ?_)
        · simp only [Int32.lt_iff_toInt_lt, Int32.le_iff_toInt_le, Int32.reduceToInt, ← Int32.toInt_inj] at h_1471
          refine v_aload_n hC dX12_knits_36 rfl ?_
          refine v_iload hC dX12_knits_37 rfl ?_
          refine v_vi hC (rest := [.int i_1425, .ref (q 15)]) m_1 e_1437 rfl mi_X12_sortOf ms_X12_sortOf (p_X12_sortOf hW_1429 k_0 (by first | omega | (simp only [Int32.lt_iff_toInt_lt, Int32.le_iff_toInt_le, Int32.reduceToInt, ← Int32.toInt_inj, true_and, and_true, or_true, true_or, false_or, or_false, false_and, and_false, not_true_eq_false, not_false_eq_true] <;> omega)) hf_1431 o_w (by first | omega | (simp only [Int32.lt_iff_toInt_lt, Int32.le_iff_toInt_le, Int32.reduceToInt, ← Int32.toInt_inj, true_and, and_true, or_true, true_or, false_or, or_false, false_and, and_false, not_true_eq_false, not_false_eq_true] <;> omega))) mx_X12_sortOf ml_X12_98 (by decide) rfl (cells1 := 0) (slots1 := 0) (by decide) (by decide) (Nat.le_of_ble_eq_true rfl) (Nat.le_of_ble_eq_true rfl) rfl (Nat.le_of_ble_eq_true rfl) dX12_knits_39 (fun r_1561 L_1562 f_1563 h_1564 => ?_)
          obtain ⟨rfl, rfl, b_1565⟩ := h_1564
          refine v_pick [0, 1, 2, 3] rfl ?_
          exact jn_1479 r_1561 (by first | omega | (simp only [Int32.lt_iff_toInt_lt, Int32.le_iff_toInt_le, Int32.reduceToInt, ← Int32.toInt_inj, true_and, and_true, or_true, true_or, false_or, or_false, false_and, and_false, not_true_eq_false, not_false_eq_true] <;> omega))
        · simp only [Int32.lt_iff_toInt_lt, Int32.le_iff_toInt_le, Int32.reduceToInt, ← Int32.toInt_inj] at h_1471
          refine v_iconst hC dX12_knits_32 (v := 0) (by decide) ?_
          refine v_goto hC dX12_knits_33 (tgt := 42) (by decide) ?_
          refine v_pick [0, 1, 2, 3] rfl ?_
          exact jn_1479 0 (by decide)
  refine v_pick [0, 1, 2, 3] rfl ?_
  exact lp_1433 258 f hW FR.rf 0 (by decide) 0 a_1 (by decide)
set_option maxRecDepth 100000 in
set_option maxHeartbeats 8000000 in
theorem p_X12_bitOf {l : Launch} {E : Ez} {L : List Nat} {f : Nat → va_E} {T : Nat → va_E → Prop} {a_0 : Nat} {a_1 : Int32} {a_2 : Int32} {q : Nat → Nat} {g_w : Nat → Int32} (hW : WT T L f) (k_0 : isM T L E a_0 q) (g_1 : (0 ≤ a_1.toInt ∧ a_1.toInt ≤ 5)) (g_2 : (0 ≤ a_2.toInt ∧ a_2.toInt ≤ 255)) (e_w : f (q 1) = aI E 2076 g_w) (o_w : WOK g_w) (htold : (wv g_w a_1 0).toInt = 1) (hB : (a_2.toInt * (wv g_w a_1 4).toInt + (wv g_w a_1 4).toInt) * (wv g_w a_1 3).toInt ≤ 256) : CI l yX12_bitOf cX12_bitOf 7 .int 2 0 0 E [.ref a_0, .int a_1, .int a_2] L f (fun r L1 f1 => L = L1 ∧ f = f1 ∧ (0 ≤ r.toInt ∧ r.toInt ≤ 2)) := by
  refine ci_of (by decide) (Nat.le_of_ble_eq_true rfl) (fun z hz hnm hC hR => ?_)
  have hC : Cx z E cX12_bitOf RX12 7 2 0 0 := hC
  subst hz
  show V z E 7 0 0 L f 0 [(0, .ref a_0), (1, .int a_1), (2, .int a_2)] []
  obtain ⟨m_1, t_2, nq_21, k_3, k_4, k_5, k_6, k_7, k_8, k_9, k_10, k_11, k_12, k_13, k_14, k_15, k_16, k_17, k_18, k_19, k_20⟩ := id k_0
  obtain ⟨m_22, t_23⟩ := id k_3
  have b_24 := o_w.r0
  have b_25 := o_w.w0
  obtain ⟨tl_2, tl_3, tl_4⟩ := o_w.told g_1 htold
  refine v_iconst hC dX12_bitOf_0 (v := 0) (by decide) ?_
  refine v_istore_n hC dX12_bitOf_1 (by decide) (lv' := [(3, .int 0), (0, .ref a_0), (1, .int a_1), (2, .int a_2)]) rfl ?_
  refine v_iconst hC dX12_bitOf_2 (v := 0) (by decide) ?_
  refine v_istore hC dX12_bitOf_3 (by decide) (lv' := [(4, .int 0), (3, .int 0), (0, .ref a_0), (1, .int a_1), (2, .int a_2)]) rfl ?_
  refine v_iconst hC dX12_bitOf_5 (v := 0) (by decide) ?_
  refine v_istore hC dX12_bitOf_6 (by decide) (lv' := [(5, .int 0), (4, .int 0), (3, .int 0), (0, .ref a_0), (1, .int a_1), (2, .int a_2)]) rfl ?_
  have lp_1523 : ∀ (n_1524 : Nat) (i_1519 : Int32) (b_1522 : (0 ≤ i_1519.toInt ∧ i_1519.toInt ≤ 5)) (i_1520 : Int32) (i_1521 : Int32) (hm_1526 : 5 - i_1519.toInt < (n_1524 : Int)), V z E 7 0 0 L f 8 [(5, .int i_1519), (4, .int i_1520), (3, .int i_1521), (0, .ref a_0), (1, .int a_1), (2, .int a_2)] [] := by
    intro n_1524
    induction n_1524 with
    | zero =>
      intro i_1519 b_1522 i_1520 i_1521 hm_1526
      exfalso; omega
    | succ n_1524 ih_1525 =>
      intro i_1519 b_1522 i_1520 i_1521 hm_1526
      refine v_iload hC dX12_bitOf_8 rfl ?_
      refine v_aload_n hC dX12_bitOf_10 rfl ?_
      refine v_iload_n hC dX12_bitOf_11 rfl ?_
      refine v_iconst hC dX12_bitOf_12 (v := 4) (by decide) ?_
      obtain ⟨v_1528, v_1529, v_1531, v_1533, v_1535, v_1537, v_1539, v_1540, v_1541, v_1542, v_1544, e_1527, b_1530, b_1532, b_1534, b_1536, b_1538, b_1543, b_1545⟩ := hW.at m_1 t_2
      refine v_vi hC (rest := [.int i_1519]) m_1 e_1527 rfl mi_X12_ofWay ms_X12_ofWay (p_X12_ofWay hW k_0 (by first | omega | (simp only [Int32.lt_iff_toInt_lt, Int32.le_iff_toInt_le, Int32.reduceToInt, ← Int32.toInt_inj, true_and, and_true, or_true, true_or, false_or, or_false, false_and, and_false, not_true_eq_false, not_false_eq_true] <;> omega)) (by decide) e_w o_w) mx_X12_ofWay ml_X12_94 (by decide) rfl (cells1 := 0) (slots1 := 0) (by decide) (by decide) (Nat.le_of_ble_eq_true rfl) (Nat.le_of_ble_eq_true rfl) rfl (Nat.le_of_ble_eq_true rfl) dX12_bitOf_13 (fun r_1546 L_1547 f_1548 h_1549 => ?_)
      obtain ⟨rfl, rfl, rfl⟩ := h_1549
      refine v_icmp_ge hC dX12_bitOf_16 (tgt := 72) (by decide) (fun h_1552 => ?_) (fun h_1552 => ?_)
      · simp only [Int32.lt_iff_toInt_lt, Int32.le_iff_toInt_le, Int32.reduceToInt, ← Int32.toInt_inj] at h_1552
        refine v_iload_n hC dX12_bitOf_72 rfl ?_
        refine v_iload hC dX12_bitOf_73 rfl ?_
        refine v_icmp_le hC dX12_bitOf_75 (tgt := 82) (by decide) (fun h_1594 => ?_) (fun h_1594 => ?_)
        · simp only [Int32.lt_iff_toInt_lt, Int32.le_iff_toInt_le, Int32.reduceToInt, ← Int32.toInt_inj] at h_1594
          refine v_iload hC dX12_bitOf_82 rfl ?_
          refine v_iload_n hC dX12_bitOf_84 rfl ?_
          refine v_icmp_le hC dX12_bitOf_85 (tgt := 92) (by decide) (fun h_1595 => ?_) (fun h_1595 => ?_)
          · simp only [Int32.lt_iff_toInt_lt, Int32.le_iff_toInt_le, Int32.reduceToInt, ← Int32.toInt_inj] at h_1595
            refine v_iconst hC dX12_bitOf_92 (v := 2) (by decide) ?_
            exact hR _ _ _ _ _ _ _ dX12_bitOf_93 rfl (Nat.le_of_ble_eq_true rfl) (Nat.le_of_ble_eq_true rfl) ⟨rfl, rfl, (by decide)⟩
          · simp only [Int32.lt_iff_toInt_lt, Int32.le_iff_toInt_le, Int32.reduceToInt, ← Int32.toInt_inj] at h_1595
            refine v_iconst hC dX12_bitOf_88 (v := 0) (by decide) ?_
            refine v_goto hC dX12_bitOf_89 (tgt := 93) (by decide) ?_
            exact hR _ _ _ _ _ _ _ dX12_bitOf_93 rfl (Nat.le_of_ble_eq_true rfl) (Nat.le_of_ble_eq_true rfl) ⟨rfl, rfl, (by decide)⟩
        · simp only [Int32.lt_iff_toInt_lt, Int32.le_iff_toInt_le, Int32.reduceToInt, ← Int32.toInt_inj] at h_1594
          refine v_iconst hC dX12_bitOf_78 (v := 1) (by decide) ?_
          refine v_goto hC dX12_bitOf_79 (tgt := 93) (by decide) ?_
          exact hR _ _ _ _ _ _ _ dX12_bitOf_93 rfl (Nat.le_of_ble_eq_true rfl) (Nat.le_of_ble_eq_true rfl) ⟨rfl, rfl, (by decide)⟩
      · simp only [Int32.lt_iff_toInt_lt, Int32.le_iff_toInt_le, Int32.reduceToInt, ← Int32.toInt_inj] at h_1552
        refine v_aload_n hC dX12_bitOf_19 rfl ?_
        refine v_iload_n hC dX12_bitOf_20 rfl ?_
        refine v_iload_n hC dX12_bitOf_21 rfl ?_
        refine v_aload_n hC dX12_bitOf_22 rfl ?_
        refine v_iload_n hC dX12_bitOf_23 rfl ?_
        refine v_iconst hC dX12_bitOf_24 (v := 4) (by decide) ?_
        refine v_vi hC (rest := [.int a_2, .int a_1, .ref a_0]) m_1 e_1527 rfl mi_X12_ofWay ms_X12_ofWay (p_X12_ofWay hW k_0 (by first | omega | (simp only [Int32.lt_iff_toInt_lt, Int32.le_iff_toInt_le, Int32.reduceToInt, ← Int32.toInt_inj, true_and, and_true, or_true, true_or, false_or, or_false, false_and, and_false, not_true_eq_false, not_false_eq_true] <;> omega)) (by decide) e_w o_w) mx_X12_ofWay ml_X12_94 (by decide) rfl (cells1 := 0) (slots1 := 0) (by decide) (by decide) (Nat.le_of_ble_eq_true rfl) (Nat.le_of_ble_eq_true rfl) rfl (Nat.le_of_ble_eq_true rfl) dX12_bitOf_25 (fun r_1596 L_1597 f_1598 h_1599 => ?_)
        obtain ⟨rfl, rfl, rfl⟩ := h_1599
        obtain ⟨v_1602, h_1603⟩ : ∃ v9 : Int32, a_2 * (wv g_w a_1 4) = v9 := ⟨_, rfl⟩
        refine v_imul hC dX12_bitOf_28 h_1603 ?_
        have h_1604 := mul_v 255 5 1275 h_1603 (by first | omega | (simp only [Int32.lt_iff_toInt_lt, Int32.le_iff_toInt_le, Int32.reduceToInt, ← Int32.toInt_inj, true_and, and_true, or_true, true_or, false_or, or_false, false_and, and_false, not_true_eq_false, not_false_eq_true] <;> omega)) (by first | omega | (simp only [Int32.lt_iff_toInt_lt, Int32.le_iff_toInt_le, Int32.reduceToInt, ← Int32.toInt_inj, true_and, and_true, or_true, true_or, false_or, or_false, false_and, and_false, not_true_eq_false, not_false_eq_true] <;> omega)) (by decide) (by decide)
        refine v_iload hC dX12_bitOf_29 rfl ?_
        obtain ⟨v_1605, h_1606⟩ : ∃ v9 : Int32, v_1602 + i_1519 = v9 := ⟨_, rfl⟩
        refine v_iadd hC dX12_bitOf_31 h_1606 ?_
        have h_1607 := add_v h_1606 (by first | omega | (simp only [Int32.lt_iff_toInt_lt, Int32.le_iff_toInt_le, Int32.reduceToInt, ← Int32.toInt_inj, true_and, and_true, or_true, true_or, false_or, or_false, false_and, and_false, not_true_eq_false, not_false_eq_true] <;> omega)) (by first | omega | (simp only [Int32.lt_iff_toInt_lt, Int32.le_iff_toInt_le, Int32.reduceToInt, ← Int32.toInt_inj, true_and, and_true, or_true, true_or, false_or, or_false, false_and, and_false, not_true_eq_false, not_false_eq_true] <;> omega))
        have tp_1608 := tl_pre (G := v_1605.toInt) (X := a_2.toInt * (wv g_w a_1 4).toInt + (wv g_w a_1 4).toInt) (gr := (wv g_w a_1 3).toInt) (by omega) hB (by omega)
        refine v_vi hC (rest := []) m_1 e_1527 rfl mi_X12_tells ms_X12_tells (p_X12_tells hW k_0 (by first | omega | (simp only [Int32.lt_iff_toInt_lt, Int32.le_iff_toInt_le, Int32.reduceToInt, ← Int32.toInt_inj, true_and, and_true, or_true, true_or, false_or, or_false, false_and, and_false, not_true_eq_false, not_false_eq_true] <;> omega)) (by first | omega | (simp only [Int32.lt_iff_toInt_lt, Int32.le_iff_toInt_le, Int32.reduceToInt, ← Int32.toInt_inj, true_and, and_true, or_true, true_or, false_or, or_false, false_and, and_false, not_true_eq_false, not_false_eq_true] <;> omega)) e_w o_w (by first | omega | (simp only [Int32.lt_iff_toInt_lt, Int32.le_iff_toInt_le, Int32.reduceToInt, ← Int32.toInt_inj, true_and, and_true, or_true, true_or, false_or, or_false, false_and, and_false, not_true_eq_false, not_false_eq_true] <;> omega)) (by first | omega | (simp only [Int32.lt_iff_toInt_lt, Int32.le_iff_toInt_le, Int32.reduceToInt, ← Int32.toInt_inj, true_and, and_true, or_true, true_or, false_or, or_false, false_and, and_false, not_true_eq_false, not_false_eq_true] <;> omega))) mx_X12_tells ml_X12_341 (by decide) rfl (cells1 := 0) (slots1 := 0) (by decide) (by decide) (Nat.le_of_ble_eq_true rfl) (Nat.le_of_ble_eq_true rfl) rfl (Nat.le_of_ble_eq_true rfl) dX12_bitOf_32 (fun r_1609 L_1610 f_1611 h_1612 => ?_)
        obtain ⟨rfl, rfl⟩ := h_1612
        refine v_istore hC dX12_bitOf_35 (by decide) (lv' := [(6, .int r_1609), (5, .int i_1519), (4, .int i_1520), (3, .int i_1521), (0, .ref a_0), (1, .int a_1), (2, .int a_2)]) rfl ?_
        refine v_iload_n hC dX12_bitOf_37 rfl ?_
        refine v_iload hC dX12_bitOf_38 rfl ?_
        refine v_iconst hC dX12_bitOf_40 (v := 1) (by decide) ?_
        have jn_1616 : ∀ (v_1617 : Int32) (b_1618 : (0 ≤ v_1617.toInt ∧ v_1617.toInt ≤ 1)), V z E 7 0 0 L f 49 [(6, .int r_1609), (5, .int i_1519), (4, .int i_1520), (0, .ref a_0), (1, .int a_1), (2, .int a_2)] [.int v_1617, .int i_1521] := by
          intro v_1617 b_1618
          obtain ⟨v_1619, h_1620⟩ : ∃ v9 : Int32, i_1521 + v_1617 = v9 := ⟨_, rfl⟩
          refine v_iadd hC dX12_bitOf_49 h_1620 ?_
          refine v_istore_n hC dX12_bitOf_50 (by decide) (lv' := [(3, .int v_1619), (6, .int r_1609), (5, .int i_1519), (4, .int i_1520), (0, .ref a_0), (1, .int a_1), (2, .int a_2)]) rfl ?_
          refine v_iload hC dX12_bitOf_51 rfl ?_
          refine v_iload hC dX12_bitOf_53 rfl ?_
          refine v_if_ne hC dX12_bitOf_55 (tgt := 62) (by decide) (fun h_1622 => ?_) (fun h_1622 => ?_)
          · simp only [Int32.lt_iff_toInt_lt, Int32.le_iff_toInt_le, Int32.reduceToInt, ← Int32.toInt_inj] at h_1622
            refine v_iconst hC dX12_bitOf_62 (v := 0) (by decide) ?_
            obtain ⟨v_1623, h_1624⟩ : ∃ v9 : Int32, i_1520 + 0 = v9 := ⟨_, rfl⟩
            refine v_iadd hC dX12_bitOf_63 h_1624 ?_
            have rg_1626 := Int32.toInt_lt i_1520
            have rg_1627 := Int32.le_toInt i_1520
            have h_1625 := add_v h_1624 (by first | omega | (simp only [Int32.lt_iff_toInt_lt, Int32.le_iff_toInt_le, Int32.reduceToInt, ← Int32.toInt_inj, true_and, and_true, or_true, true_or, false_or, or_false, false_and, and_false, not_true_eq_false, not_false_eq_true] <;> omega)) (by first | omega | (simp only [Int32.lt_iff_toInt_lt, Int32.le_iff_toInt_le, Int32.reduceToInt, ← Int32.toInt_inj, true_and, and_true, or_true, true_or, false_or, or_false, false_and, and_false, not_true_eq_false, not_false_eq_true] <;> omega))
            try simp only [Int32.reduceToInt] at h_1625
            refine v_istore hC dX12_bitOf_64 (by decide) (lv' := [(4, .int v_1623), (3, .int v_1619), (6, .int r_1609), (5, .int i_1519), (0, .ref a_0), (1, .int a_1), (2, .int a_2)]) rfl ?_
            obtain ⟨v_1628, h_1629⟩ : ∃ v9 : Int32, i_1519 + Int32.ofInt 1 = v9 := ⟨_, rfl⟩
            have h_1630 := add_v (b := 1) h_1629 (by first | omega | (simp only [Int32.lt_iff_toInt_lt, Int32.le_iff_toInt_le, Int32.reduceToInt, ← Int32.toInt_inj, true_and, and_true, or_true, true_or, false_or, or_false, false_and, and_false, not_true_eq_false, not_false_eq_true] <;> omega)) (by first | omega | (simp only [Int32.lt_iff_toInt_lt, Int32.le_iff_toInt_le, Int32.reduceToInt, ← Int32.toInt_inj, true_and, and_true, or_true, true_or, false_or, or_false, false_and, and_false, not_true_eq_false, not_false_eq_true] <;> omega))
            simp only [Int32.reduceToInt] at h_1630
            refine v_iinc hC dX12_bitOf_66 (k := 3) rfl (v := v_1628) h_1629 (by decide) (lv' := [(5, .int v_1628), (4, .int v_1623), (3, .int v_1619), (6, .int r_1609), (0, .ref a_0), (1, .int a_1), (2, .int a_2)]) rfl ?_
            refine v_goto hC dX12_bitOf_69 (tgt := 8) (by decide) ?_
            refine v_pick [0, 1, 2, 4, 5, 6] rfl ?_
            exact ih_1525 v_1628 (by first | omega | (simp only [Int32.lt_iff_toInt_lt, Int32.le_iff_toInt_le, Int32.reduceToInt, ← Int32.toInt_inj, true_and, and_true, or_true, true_or, false_or, or_false, false_and, and_false, not_true_eq_false, not_false_eq_true] <;> omega)) v_1623 v_1619 (by first | omega | (simp only [Int32.lt_iff_toInt_lt, Int32.le_iff_toInt_le, Int32.reduceToInt, ← Int32.toInt_inj, true_and, and_true, or_true, true_or, false_or, or_false, false_and, and_false, not_true_eq_false, not_false_eq_true] <;> omega))
          · simp only [Int32.lt_iff_toInt_lt, Int32.le_iff_toInt_le, Int32.reduceToInt, ← Int32.toInt_inj] at h_1622
            refine v_iconst hC dX12_bitOf_58 (v := 1) (by decide) ?_
            refine v_goto hC dX12_bitOf_59 (tgt := 63) (by decide) ?_
            obtain ⟨v_1631, h_1632⟩ : ∃ v9 : Int32, i_1520 + 1 = v9 := ⟨_, rfl⟩
            refine v_iadd hC dX12_bitOf_63 h_1632 ?_
            refine v_istore hC dX12_bitOf_64 (by decide) (lv' := [(4, .int v_1631), (3, .int v_1619), (6, .int r_1609), (5, .int i_1519), (0, .ref a_0), (1, .int a_1), (2, .int a_2)]) rfl ?_
            obtain ⟨v_1634, h_1635⟩ : ∃ v9 : Int32, i_1519 + Int32.ofInt 1 = v9 := ⟨_, rfl⟩
            have h_1636 := add_v (b := 1) h_1635 (by first | omega | (simp only [Int32.lt_iff_toInt_lt, Int32.le_iff_toInt_le, Int32.reduceToInt, ← Int32.toInt_inj, true_and, and_true, or_true, true_or, false_or, or_false, false_and, and_false, not_true_eq_false, not_false_eq_true] <;> omega)) (by first | omega | (simp only [Int32.lt_iff_toInt_lt, Int32.le_iff_toInt_le, Int32.reduceToInt, ← Int32.toInt_inj, true_and, and_true, or_true, true_or, false_or, or_false, false_and, and_false, not_true_eq_false, not_false_eq_true] <;> omega))
            simp only [Int32.reduceToInt] at h_1636
            refine v_iinc hC dX12_bitOf_66 (k := 3) rfl (v := v_1634) h_1635 (by decide) (lv' := [(5, .int v_1634), (4, .int v_1631), (3, .int v_1619), (6, .int r_1609), (0, .ref a_0), (1, .int a_1), (2, .int a_2)]) rfl ?_
            refine v_goto hC dX12_bitOf_69 (tgt := 8) (by decide) ?_
            refine v_pick [0, 1, 2, 4, 5, 6] rfl ?_
            exact ih_1525 v_1634 (by first | omega | (simp only [Int32.lt_iff_toInt_lt, Int32.le_iff_toInt_le, Int32.reduceToInt, ← Int32.toInt_inj, true_and, and_true, or_true, true_or, false_or, or_false, false_and, and_false, not_true_eq_false, not_false_eq_true] <;> omega)) v_1631 v_1619 (by first | omega | (simp only [Int32.lt_iff_toInt_lt, Int32.le_iff_toInt_le, Int32.reduceToInt, ← Int32.toInt_inj, true_and, and_true, or_true, true_or, false_or, or_false, false_and, and_false, not_true_eq_false, not_false_eq_true] <;> omega))
        refine v_icmp_ne hC dX12_bitOf_41 (tgt := 48) (by decide) (fun h_1615 => ?_) (fun h_1615 => ?_)
        · simp only [Int32.lt_iff_toInt_lt, Int32.le_iff_toInt_le, Int32.reduceToInt, ← Int32.toInt_inj] at h_1615
          refine v_iconst hC dX12_bitOf_48 (v := 0) (by decide) ?_
          refine v_pick [0, 1, 2, 4, 5, 6] rfl ?_
          exact jn_1616 0 (by decide)
        · simp only [Int32.lt_iff_toInt_lt, Int32.le_iff_toInt_le, Int32.reduceToInt, ← Int32.toInt_inj] at h_1615
          refine v_iconst hC dX12_bitOf_44 (v := 1) (by decide) ?_
          refine v_goto hC dX12_bitOf_45 (tgt := 49) (by decide) ?_
          refine v_pick [0, 1, 2, 4, 5, 6] rfl ?_
          exact jn_1616 1 (by decide)
  refine v_pick [0, 1, 2, 3, 4, 5] rfl ?_
  exact lp_1523 7 0 (by decide) 0 0 (by decide)
set_option maxRecDepth 100000 in
set_option maxHeartbeats 8000000 in
theorem p_X12_puts_65 {l : Launch} {E : Ez} {L : List Nat} {f : Nat → va_E} {T : Nat → va_E → Prop} {a_0 : Nat} {a_1 : Int32} {a_2 : Nat} {a_3 : Int32} {q : Nat → Nat} {g_w : Nat → Int32} (hW : WT T L f) (k_0 : isM T L E a_0 q) (g_1 : (0 ≤ a_1.toInt ∧ a_1.toInt ≤ 5)) (k_2 : isI T L E 100 a_2) (g_3 : (0 ≤ a_3.toInt ∧ a_3.toInt ≤ 50)) (e_w : f (q 1) = aI E 2076 g_w) (o_w : WOK g_w) (htold : (wv g_w a_1 0).toInt = 1) (hP : ∀ i : Int, 0 ≤ i → i < 5 * (a_3.toInt + 1) → (i * (wv g_w a_1 4).toInt + (wv g_w a_1 4).toInt) * (wv g_w a_1 3).toInt ≤ 256) (hpt : 1 ≤ (g_w 0).toInt) : CI l yX12_puts cX12_puts 7 .int 5 0 0 E [.ref a_0, .int a_1, .ref a_2, .int a_3] L f (fun r L1 f1 => L = L1 ∧ WT T L f1 ∧ FR [356] f f1) := by
  refine ci_of (by decide) (Nat.le_of_ble_eq_true rfl) (fun z hz hnm hC hR => ?_)
  have hC : Cx z E cX12_puts RX12 7 5 0 0 := hC
  subst hz
  show V z E 7 0 0 L f 0 [(0, .ref a_0), (1, .int a_1), (2, .ref a_2), (3, .int a_3)] []
  obtain ⟨m_1, t_2, nq_21, k_3, k_4, k_5, k_6, k_7, k_8, k_9, k_10, k_11, k_12, k_13, k_14, k_15, k_16, k_17, k_18, k_19, k_20⟩ := id k_0
  obtain ⟨m_22, t_23⟩ := id k_3
  have b_24 := o_w.r0
  have b_25 := o_w.w0
  obtain ⟨tl_2, tl_3, tl_4⟩ := o_w.told g_1 htold
  refine v_iconst hC dX12_puts_0 (v := 0) (by decide) ?_
  refine v_istore hC dX12_puts_1 (by decide) (lv' := [(4, .int 0), (0, .ref a_0), (1, .int a_1), (2, .ref a_2), (3, .int a_3)]) rfl ?_
  refine v_iconst hC dX12_puts_3 (v := 0) (by decide) ?_
  refine v_istore hC dX12_puts_4 (by decide) (lv' := [(5, .int 0), (4, .int 0), (0, .ref a_0), (1, .int a_1), (2, .ref a_2), (3, .int a_3)]) rfl ?_
  have lp_624 : ∀ (n_625 : Nat) (f_619 : Nat → va_E) (hW_620 : WT T L f_619) (hF_621 : FR [356] f f_619) (i_617 : Int32) (b_623 : (0 ≤ i_617.toInt ∧ i_617.toInt ≤ 255)) (i_618 : Int32) (hm_627 : 255 - i_617.toInt < (n_625 : Int)), V z E 7 0 0 L f_619 6 [(5, .int i_617), (4, .int i_618), (0, .ref a_0), (1, .int a_1), (2, .ref a_2), (3, .int a_3)] [] := by
    intro n_625
    induction n_625 with
    | zero =>
      intro f_619 hW_620 hF_621 i_617 b_623 i_618 hm_627
      have hf_622 := hF_621.at e_w rfl
      exfalso; omega
    | succ n_625 ih_626 =>
      intro f_619 hW_620 hF_621 i_617 b_623 i_618 hm_627
      have hf_622 := hF_621.at e_w rfl
      refine v_iload hC dX12_puts_6 rfl ?_
      refine v_iconst hC dX12_puts_8 (v := 5) (by decide) ?_
      refine v_iload_n hC dX12_puts_9 rfl ?_
      refine v_iconst hC dX12_puts_10 (v := 1) (by decide) ?_
      obtain ⟨v_628, h_629⟩ : ∃ v9 : Int32, a_3 + 1 = v9 := ⟨_, rfl⟩
      refine v_iadd hC dX12_puts_11 h_629 ?_
      have h_630 := add_v h_629 (by first | omega | (simp only [Int32.lt_iff_toInt_lt, Int32.le_iff_toInt_le, Int32.reduceToInt, ← Int32.toInt_inj, true_and, and_true, or_true, true_or, false_or, or_false, false_and, and_false, not_true_eq_false, not_false_eq_true] <;> omega)) (by first | omega | (simp only [Int32.lt_iff_toInt_lt, Int32.le_iff_toInt_le, Int32.reduceToInt, ← Int32.toInt_inj, true_and, and_true, or_true, true_or, false_or, or_false, false_and, and_false, not_true_eq_false, not_false_eq_true] <;> omega))
      try simp only [Int32.reduceToInt] at h_630
      obtain ⟨v_631, h_632⟩ : ∃ v9 : Int32, (5 : Int32) * v_628 = v9 := ⟨_, rfl⟩
      refine v_imul hC dX12_puts_12 h_632 ?_
      have h_633 := mul_v 5 51 255 h_632 (by decide) (by first | omega | (simp only [Int32.lt_iff_toInt_lt, Int32.le_iff_toInt_le, Int32.reduceToInt, ← Int32.toInt_inj, true_and, and_true, or_true, true_or, false_or, or_false, false_and, and_false, not_true_eq_false, not_false_eq_true] <;> omega)) (by decide) (by decide)
      try simp only [Int32.reduceToInt] at h_633
      have h_634 : 1 ≤ v_631.toInt := by rw [h_633.1]; exact Int.mul_le_mul (a := 1) (b := 1) (by first | omega | (simp only [Int32.lt_iff_toInt_lt, Int32.le_iff_toInt_le, Int32.reduceToInt, ← Int32.toInt_inj, true_and, and_true, or_true, true_or, false_or, or_false, false_and, and_false, not_true_eq_false, not_false_eq_true] <;> omega)) (by first | omega | (simp only [Int32.lt_iff_toInt_lt, Int32.le_iff_toInt_le, Int32.reduceToInt, ← Int32.toInt_inj, true_and, and_true, or_true, true_or, false_or, or_false, false_and, and_false, not_true_eq_false, not_false_eq_true] <;> omega)) (by decide) (by first | omega | (simp only [Int32.lt_iff_toInt_lt, Int32.le_iff_toInt_le, Int32.reduceToInt, ← Int32.toInt_inj, true_and, and_true, or_true, true_or, false_or, or_false, false_and, and_false, not_true_eq_false, not_false_eq_true] <;> omega))
      refine v_icmp_ge hC dX12_puts_13 (tgt := 66) (by decide) (fun h_635 => ?_) (fun h_635 => ?_)
      · simp only [Int32.lt_iff_toInt_lt, Int32.le_iff_toInt_le, Int32.reduceToInt, ← Int32.toInt_inj] at h_635
        refine v_iload hC dX12_puts_66 rfl ?_
        exact hR _ _ _ _ _ _ _ dX12_puts_68 rfl (Nat.le_of_ble_eq_true rfl) (Nat.le_of_ble_eq_true rfl) ⟨rfl, hW_620, (hF_621.mono rfl)⟩
      · simp only [Int32.lt_iff_toInt_lt, Int32.le_iff_toInt_le, Int32.reduceToInt, ← Int32.toInt_inj] at h_635
        refine v_iload hC dX12_puts_16 rfl ?_
        refine v_iconst hC dX12_puts_18 (v := 5) (by decide) ?_
        obtain ⟨v_636, h_637⟩ : ∃ v9 : Int32, i_617 / 5 = v9 := ⟨_, rfl⟩
        refine v_idiv hC dX12_puts_19 (by decide) h_637 ?_
        have h_638 := div_v h_637 (by first | omega | (simp only [Int32.lt_iff_toInt_lt, Int32.le_iff_toInt_le, Int32.reduceToInt, ← Int32.toInt_inj, true_and, and_true, or_true, true_or, false_or, or_false, false_and, and_false, not_true_eq_false, not_false_eq_true] <;> omega)) (by decide)
        try simp only [Int32.reduceToInt] at h_638
        refine v_iload_n hC dX12_puts_20 rfl ?_
        have jn_649 : ∀ (v_650 : Int32), V z E 7 0 0 L f_619 35 [(5, .int i_617), (4, .int i_618), (0, .ref a_0), (1, .int a_1), (2, .ref a_2), (3, .int a_3)] [.int v_650] := by
          intro v_650
          refine v_istore hC dX12_puts_35 (by decide) (lv' := [(6, .int v_650), (5, .int i_617), (4, .int i_618), (0, .ref a_0), (1, .int a_1), (2, .ref a_2), (3, .int a_3)]) rfl ?_
          refine v_iload hC dX12_puts_37 rfl ?_
          refine v_aload_n hC dX12_puts_39 rfl ?_
          refine v_iload_n hC dX12_puts_40 rfl ?_
          refine v_iload hC dX12_puts_41 rfl ?_
          refine v_iload hC dX12_puts_43 rfl ?_
          refine v_iconst hC dX12_puts_45 (v := 4) (by decide) ?_
          refine v_iload hC dX12_puts_46 rfl ?_
          refine v_iconst hC dX12_puts_48 (v := 5) (by decide) ?_
          obtain ⟨v_651, h_652⟩ : ∃ v9 : Int32, i_617 - i_617 / 5 * 5 = v9 := ⟨_, rfl⟩
          refine v_irem hC dX12_puts_49 (by decide) h_652 ?_
          have h_653 := rem_v h_652 (by first | omega | (simp only [Int32.lt_iff_toInt_lt, Int32.le_iff_toInt_le, Int32.reduceToInt, ← Int32.toInt_inj, true_and, and_true, or_true, true_or, false_or, or_false, false_and, and_false, not_true_eq_false, not_false_eq_true] <;> omega)) (by decide)
          try simp only [Int32.reduceToInt] at h_653
          obtain ⟨v_654, h_655⟩ : ∃ v9 : Int32, (4 : Int32) - v_651 = v9 := ⟨_, rfl⟩
          refine v_isub hC dX12_puts_50 h_655 ?_
          have h_656 := sub_v h_655 (by first | omega | (simp only [Int32.lt_iff_toInt_lt, Int32.le_iff_toInt_le, Int32.reduceToInt, ← Int32.toInt_inj, true_and, and_true, or_true, true_or, false_or, or_false, false_and, and_false, not_true_eq_false, not_false_eq_true] <;> omega)) (by first | omega | (simp only [Int32.lt_iff_toInt_lt, Int32.le_iff_toInt_le, Int32.reduceToInt, ← Int32.toInt_inj, true_and, and_true, or_true, true_or, false_or, or_false, false_and, and_false, not_true_eq_false, not_false_eq_true] <;> omega))
          try simp only [Int32.reduceToInt] at h_656
          obtain ⟨v_657, h_658⟩ : ∃ v9 : Int32, v_650 >>> (v_654 &&& 31) = v9 := ⟨_, rfl⟩
          refine v_ishr hC dX12_puts_51 h_658 ?_
          refine v_iconst hC dX12_puts_52 (v := 1) (by decide) ?_
          obtain ⟨v_660, h_661⟩ : ∃ v9 : Int32, v_657 &&& 1 = v9 := ⟨_, rfl⟩
          refine v_iand hC dX12_puts_53 h_661 ?_
          have h_662 := and_v h_661 (by decide)
          try simp only [Int32.reduceToInt] at h_662
          obtain ⟨v_664, v_665, v_667, v_669, v_671, v_673, v_675, v_676, v_677, v_678, v_680, e_663, b_666, b_668, b_670, b_672, b_674, b_679, b_681⟩ := hW_620.at m_1 t_2
          refine v_vi hC (rest := [.int i_618]) m_1 e_663 rfl mi_X12_putBit ms_X12_putBit (p_X12_putBit hW_620 k_0 (by first | omega | (simp only [Int32.lt_iff_toInt_lt, Int32.le_iff_toInt_le, Int32.reduceToInt, ← Int32.toInt_inj, true_and, and_true, or_true, true_or, false_or, or_false, false_and, and_false, not_true_eq_false, not_false_eq_true] <;> omega)) (by first | omega | (simp only [Int32.lt_iff_toInt_lt, Int32.le_iff_toInt_le, Int32.reduceToInt, ← Int32.toInt_inj, true_and, and_true, or_true, true_or, false_or, or_false, false_and, and_false, not_true_eq_false, not_false_eq_true] <;> omega)) hf_622 o_w (by first | omega | (simp only [Int32.lt_iff_toInt_lt, Int32.le_iff_toInt_le, Int32.reduceToInt, ← Int32.toInt_inj, true_and, and_true, or_true, true_or, false_or, or_false, false_and, and_false, not_true_eq_false, not_false_eq_true] <;> omega)) (hP _ (by omega) (by omega)) (by first | omega | (simp only [Int32.lt_iff_toInt_lt, Int32.le_iff_toInt_le, Int32.reduceToInt, ← Int32.toInt_inj, true_and, and_true, or_true, true_or, false_or, or_false, false_and, and_false, not_true_eq_false, not_false_eq_true] <;> omega))) mx_X12_putBit ml_X12_347 (by decide) rfl (cells1 := 0) (slots1 := 0) (by decide) (by decide) (Nat.le_of_ble_eq_true rfl) (Nat.le_of_ble_eq_true rfl) rfl (Nat.le_of_ble_eq_true rfl) dX12_puts_54 (fun r_682 L_683 f_684 h_685 => ?_)
          obtain ⟨rfl, hW_686, hF_687⟩ := h_685
          have hf_688 := hF_687.at hf_622 rfl
          have hf_689 := hF_687.at e_663 rfl
          obtain ⟨v_690, h_691⟩ : ∃ v9 : Int32, i_618 + r_682 = v9 := ⟨_, rfl⟩
          refine v_iadd hC dX12_puts_57 h_691 ?_
          refine v_istore hC dX12_puts_58 (by decide) (lv' := [(4, .int v_690), (6, .int v_650), (5, .int i_617), (0, .ref a_0), (1, .int a_1), (2, .ref a_2), (3, .int a_3)]) rfl ?_
          obtain ⟨v_693, h_694⟩ : ∃ v9 : Int32, i_617 + Int32.ofInt 1 = v9 := ⟨_, rfl⟩
          have h_695 := add_v (b := 1) h_694 (by first | omega | (simp only [Int32.lt_iff_toInt_lt, Int32.le_iff_toInt_le, Int32.reduceToInt, ← Int32.toInt_inj, true_and, and_true, or_true, true_or, false_or, or_false, false_and, and_false, not_true_eq_false, not_false_eq_true] <;> omega)) (by first | omega | (simp only [Int32.lt_iff_toInt_lt, Int32.le_iff_toInt_le, Int32.reduceToInt, ← Int32.toInt_inj, true_and, and_true, or_true, true_or, false_or, or_false, false_and, and_false, not_true_eq_false, not_false_eq_true] <;> omega))
          simp only [Int32.reduceToInt] at h_695
          refine v_iinc hC dX12_puts_60 (k := 2) rfl (v := v_693) h_694 (by decide) (lv' := [(5, .int v_693), (4, .int v_690), (6, .int v_650), (0, .ref a_0), (1, .int a_1), (2, .ref a_2), (3, .int a_3)]) rfl ?_
          refine v_goto hC dX12_puts_63 (tgt := 6) (by decide) ?_
          refine v_pick [0, 1, 3, 4, 5, 6] rfl ?_
          exact ih_626 f_684 hW_686 ((hF_621.tr hF_687).mono rfl) v_693 (by first | omega | (simp only [Int32.lt_iff_toInt_lt, Int32.le_iff_toInt_le, Int32.reduceToInt, ← Int32.toInt_inj, true_and, and_true, or_true, true_or, false_or, or_false, false_and, and_false, not_true_eq_false, not_false_eq_true] <;> omega)) v_690 (by first | omega | (simp only [Int32.lt_iff_toInt_lt, Int32.le_iff_toInt_le, Int32.reduceToInt, ← Int32.toInt_inj, true_and, and_true, or_true, true_or, false_or, or_false, false_and, and_false, not_true_eq_false, not_false_eq_true] <;> omega))
        refine v_icmp_ge hC dX12_puts_21 (tgt := 33) (by decide) (fun h_639 => ?_) (fun h_639 => ?_)
        · simp only [Int32.lt_iff_toInt_lt, Int32.le_iff_toInt_le, Int32.reduceToInt, ← Int32.toInt_inj] at h_639
          refine v_bipush hC dX12_puts_33 (v := 31) (by decide) ?_
          refine v_pick [0, 1, 2, 3, 4, 5] rfl ?_
          exact jn_649 31
        · simp only [Int32.lt_iff_toInt_lt, Int32.le_iff_toInt_le, Int32.reduceToInt, ← Int32.toInt_inj] at h_639
          refine v_aload_n hC dX12_puts_24 rfl ?_
          refine v_iload hC dX12_puts_25 rfl ?_
          refine v_iconst hC dX12_puts_27 (v := 5) (by decide) ?_
          obtain ⟨v_696, h_697⟩ : ∃ v9 : Int32, i_617 / 5 = v9 := ⟨_, rfl⟩
          refine v_idiv hC dX12_puts_28 (by decide) h_697 ?_
          have h_698 := div_v h_697 (by first | omega | (simp only [Int32.lt_iff_toInt_lt, Int32.le_iff_toInt_le, Int32.reduceToInt, ← Int32.toInt_inj, true_and, and_true, or_true, true_or, false_or, or_false, false_and, and_false, not_true_eq_false, not_false_eq_true] <;> omega)) (by decide)
          try simp only [Int32.reduceToInt] at h_698
          obtain ⟨m_699, t_700⟩ := id k_2
          obtain ⟨g_702, e_701⟩ := hW_620.at m_699 t_700
          obtain ⟨v_703, h_704⟩ : ∃ v9 : Int32, g_702 (v_696 : Int32).toNatClampNeg = v9 := ⟨_, rfl⟩
          refine v_iald hC m_699 e_701 (vp_in_iff.mpr (by first | omega | (simp only [Int32.lt_iff_toInt_lt, Int32.le_iff_toInt_le, Int32.reduceToInt, ← Int32.toInt_inj, true_and, and_true, or_true, true_or, false_or, or_false, false_and, and_false, not_true_eq_false, not_false_eq_true] <;> omega))) h_704 dX12_puts_29 ?_
          refine v_goto hC dX12_puts_30 (tgt := 35) (by decide) ?_
          refine v_pick [0, 1, 2, 3, 4, 5] rfl ?_
          exact jn_649 v_703
  refine v_pick [0, 1, 2, 3, 4, 5] rfl ?_
  exact lp_624 257 f hW FR.rf 0 (by decide) 0 (by decide)
set_option maxRecDepth 100000 in
set_option maxHeartbeats 8000000 in
theorem p_X12_asksCloth {l : Launch} {E : Ez} {L : List Nat} {f : Nat → va_E} {T : Nat → va_E → Prop} {a_0 : Nat} {a_1 : Int32} {q : Nat → Nat} {g_w : Nat → Int32} (hW : WT T L f) (k_0 : isM T L E a_0 q) (e_w : f (q 1) = aI E 2076 g_w) (o_w : WOK g_w) : CI l yX12_asksCloth cX12_asksCloth 2 .int 2 0 0 E [.ref a_0, .int a_1] L f (fun r L1 f1 => L = L1 ∧ f = f1 ∧ ((-6) ≤ r.toInt ∧ r.toInt ≤ 0) ∧ (¬ r.toInt = 0 ∨ (0 ≤ a_1.toInt ∧ a_1.toInt ≤ 3))) := by
  refine ci_of (by decide) (Nat.le_of_ble_eq_true rfl) (fun z hz hnm hC hR => ?_)
  have hC : Cx z E cX12_asksCloth RX12 2 2 0 0 := hC
  subst hz
  show V z E 2 0 0 L f 0 [(0, .ref a_0), (1, .int a_1)] []
  obtain ⟨m_1, t_2, nq_21, k_3, k_4, k_5, k_6, k_7, k_8, k_9, k_10, k_11, k_12, k_13, k_14, k_15, k_16, k_17, k_18, k_19, k_20⟩ := id k_0
  obtain ⟨m_22, t_23⟩ := id k_3
  have b_24 := o_w.r0
  have b_25 := o_w.w0
  refine v_iload_n hC dX12_asksCloth_0 rfl ?_
  refine v_si hC (rest := []) mt_X12_isCloth (p_X12_isCloth hW) mx_X12_isCloth ml_X12_319 (by decide) rfl (cells1 := 0) (slots1 := 0) (by decide) (by decide) (Nat.le_of_ble_eq_true rfl) (Nat.le_of_ble_eq_true rfl) rfl (Nat.le_of_ble_eq_true rfl) dX12_asksCloth_1 (fun r_26 L_27 f_28 h_29 => ?_)
  obtain ⟨rfl, rfl, b_30, h_31⟩ := h_29
  refine v_if_ne hC dX12_asksCloth_4 (tgt := 12) (by decide) (fun h_34 => ?_) (fun h_34 => ?_)
  · simp only [Int32.lt_iff_toInt_lt, Int32.le_iff_toInt_le, Int32.reduceToInt, ← Int32.toInt_inj] at h_34
    refine v_aload_n hC dX12_asksCloth_12 rfl ?_
    refine v_iload_n hC dX12_asksCloth_13 rfl ?_
    obtain ⟨v_36, v_37, v_39, v_41, v_43, v_45, v_47, v_48, v_49, v_50, v_52, e_35, b_38, b_40, b_42, b_44, b_46, b_51, b_53⟩ := hW.at m_1 t_2
    refine v_vi hC (rest := []) m_1 e_35 rfl mi_X12_isThere ms_X12_isThere (p_X12_isThere hW k_0 (by first | omega | (simp only [Int32.lt_iff_toInt_lt, Int32.le_iff_toInt_le, Int32.reduceToInt, ← Int32.toInt_inj, true_and, and_true, or_true, true_or, false_or, or_false, false_and, and_false, not_true_eq_false, not_false_eq_true] <;> omega)) e_w o_w) mx_X12_isThere ml_X12_351 (by decide) rfl (cells1 := 0) (slots1 := 0) (by decide) (by decide) (Nat.le_of_ble_eq_true rfl) (Nat.le_of_ble_eq_true rfl) rfl (Nat.le_of_ble_eq_true rfl) dX12_asksCloth_14 (fun r_54 L_55 f_56 h_57 => ?_)
    obtain ⟨rfl, rfl, b_58⟩ := h_57
    refine v_if_eq hC dX12_asksCloth_17 (tgt := 24) (by decide) (fun h_61 => ?_) (fun h_61 => ?_)
    · simp only [Int32.lt_iff_toInt_lt, Int32.le_iff_toInt_le, Int32.reduceToInt, ← Int32.toInt_inj] at h_61
      refine v_bipush hC dX12_asksCloth_24 (v := (-6)) (by decide) ?_
      exact hR _ _ _ _ _ _ _ dX12_asksCloth_26 rfl (Nat.le_of_ble_eq_true rfl) (Nat.le_of_ble_eq_true rfl) ⟨rfl, rfl, (by decide), (.inl (by decide))⟩
    · simp only [Int32.lt_iff_toInt_lt, Int32.le_iff_toInt_le, Int32.reduceToInt, ← Int32.toInt_inj] at h_61
      refine v_iconst hC dX12_asksCloth_20 (v := 0) (by decide) ?_
      refine v_goto hC dX12_asksCloth_21 (tgt := 26) (by decide) ?_
      exact hR _ _ _ _ _ _ _ dX12_asksCloth_26 rfl (Nat.le_of_ble_eq_true rfl) (Nat.le_of_ble_eq_true rfl) ⟨rfl, rfl, (by decide), (.inr (by first | omega | (simp only [Int32.lt_iff_toInt_lt, Int32.le_iff_toInt_le, Int32.reduceToInt, ← Int32.toInt_inj, true_and, and_true, or_true, true_or, false_or, or_false, false_and, and_false, not_true_eq_false, not_false_eq_true] <;> omega)))⟩
  · simp only [Int32.lt_iff_toInt_lt, Int32.le_iff_toInt_le, Int32.reduceToInt, ← Int32.toInt_inj] at h_34
    refine v_bipush hC dX12_asksCloth_7 (v := (-2)) (by decide) ?_
    refine v_goto hC dX12_asksCloth_9 (tgt := 26) (by decide) ?_
    exact hR _ _ _ _ _ _ _ dX12_asksCloth_26 rfl (Nat.le_of_ble_eq_true rfl) (Nat.le_of_ble_eq_true rfl) ⟨rfl, rfl, (by decide), (.inl (by decide))⟩
set_option maxRecDepth 100000 in
set_option maxHeartbeats 8000000 in
theorem p_X12_asksWay {l : Launch} {E : Ez} {L : List Nat} {f : Nat → va_E} {T : Nat → va_E → Prop} {a_0 : Nat} {a_1 : Int32} {q : Nat → Nat} {g_w : Nat → Int32} (hW : WT T L f) (k_0 : isM T L E a_0 q) (e_w : f (q 1) = aI E 2076 g_w) (o_w : WOK g_w) : CI l yX12_asksWay cX12_asksWay 2 .int 2 0 0 E [.ref a_0, .int a_1] L f (fun r L1 f1 => L = L1 ∧ f = f1 ∧ ((-6) ≤ r.toInt ∧ r.toInt ≤ 0) ∧ (¬ r.toInt = 0 ∨ (0 ≤ a_1.toInt ∧ a_1.toInt ≤ 5)) ∧ (¬ r.toInt = 0 ∨ (wv g_w a_1 0).toInt = 1)) := by
  refine ci_of (by decide) (Nat.le_of_ble_eq_true rfl) (fun z hz hnm hC hR => ?_)
  have hC : Cx z E cX12_asksWay RX12 2 2 0 0 := hC
  subst hz
  show V z E 2 0 0 L f 0 [(0, .ref a_0), (1, .int a_1)] []
  obtain ⟨m_1, t_2, nq_21, k_3, k_4, k_5, k_6, k_7, k_8, k_9, k_10, k_11, k_12, k_13, k_14, k_15, k_16, k_17, k_18, k_19, k_20⟩ := id k_0
  obtain ⟨m_22, t_23⟩ := id k_3
  have b_24 := o_w.r0
  have b_25 := o_w.w0
  refine v_iload_n hC dX12_asksWay_0 rfl ?_
  refine v_si hC (rest := []) mt_X12_isWay (p_X12_isWay hW) mx_X12_isWay ml_X12_221 (by decide) rfl (cells1 := 0) (slots1 := 0) (by decide) (by decide) (Nat.le_of_ble_eq_true rfl) (Nat.le_of_ble_eq_true rfl) rfl (Nat.le_of_ble_eq_true rfl) dX12_asksWay_1 (fun r_26 L_27 f_28 h_29 => ?_)
  obtain ⟨rfl, rfl, b_30, h_31⟩ := h_29
  refine v_if_ne hC dX12_asksWay_4 (tgt := 12) (by decide) (fun h_34 => ?_) (fun h_34 => ?_)
  · simp only [Int32.lt_iff_toInt_lt, Int32.le_iff_toInt_le, Int32.reduceToInt, ← Int32.toInt_inj] at h_34
    refine v_aload_n hC dX12_asksWay_12 rfl ?_
    refine v_iload_n hC dX12_asksWay_13 rfl ?_
    obtain ⟨v_36, v_37, v_39, v_41, v_43, v_45, v_47, v_48, v_49, v_50, v_52, e_35, b_38, b_40, b_42, b_44, b_46, b_51, b_53⟩ := hW.at m_1 t_2
    refine v_vi hC (rest := []) m_1 e_35 rfl mi_X12_isTold ms_X12_isTold (p_X12_isTold hW k_0 (by first | omega | (simp only [Int32.lt_iff_toInt_lt, Int32.le_iff_toInt_le, Int32.reduceToInt, ← Int32.toInt_inj, true_and, and_true, or_true, true_or, false_or, or_false, false_and, and_false, not_true_eq_false, not_false_eq_true] <;> omega)) e_w o_w) mx_X12_isTold ml_X12_354 (by decide) rfl (cells1 := 0) (slots1 := 0) (by decide) (by decide) (Nat.le_of_ble_eq_true rfl) (Nat.le_of_ble_eq_true rfl) rfl (Nat.le_of_ble_eq_true rfl) dX12_asksWay_14 (fun r_54 L_55 f_56 h_57 => ?_)
    obtain ⟨rfl, rfl, b_58, x_59⟩ := h_57
    try simp only [Int32.reduceToInt, Int64.reduceToInt] at x_59
    refine v_if_eq hC dX12_asksWay_17 (tgt := 24) (by decide) (fun h_62 => ?_) (fun h_62 => ?_)
    · simp only [Int32.lt_iff_toInt_lt, Int32.le_iff_toInt_le, Int32.reduceToInt, ← Int32.toInt_inj] at h_62
      refine v_bipush hC dX12_asksWay_24 (v := (-6)) (by decide) ?_
      exact hR _ _ _ _ _ _ _ dX12_asksWay_26 rfl (Nat.le_of_ble_eq_true rfl) (Nat.le_of_ble_eq_true rfl) ⟨rfl, rfl, (by decide), (.inl (by decide)), (by first | omega | (simp only [Int32.lt_iff_toInt_lt, Int32.le_iff_toInt_le, Int32.reduceToInt, ← Int32.toInt_inj, true_and, and_true, or_true, true_or, false_or, or_false, false_and, and_false, not_true_eq_false, not_false_eq_true] <;> omega))⟩
    · simp only [Int32.lt_iff_toInt_lt, Int32.le_iff_toInt_le, Int32.reduceToInt, ← Int32.toInt_inj] at h_62
      refine v_iconst hC dX12_asksWay_20 (v := 0) (by decide) ?_
      refine v_goto hC dX12_asksWay_21 (tgt := 26) (by decide) ?_
      exact hR _ _ _ _ _ _ _ dX12_asksWay_26 rfl (Nat.le_of_ble_eq_true rfl) (Nat.le_of_ble_eq_true rfl) ⟨rfl, rfl, (by decide), (.inr (by first | omega | (simp only [Int32.lt_iff_toInt_lt, Int32.le_iff_toInt_le, Int32.reduceToInt, ← Int32.toInt_inj, true_and, and_true, or_true, true_or, false_or, or_false, false_and, and_false, not_true_eq_false, not_false_eq_true] <;> omega))), (by first | omega | (simp only [Int32.lt_iff_toInt_lt, Int32.le_iff_toInt_le, Int32.reduceToInt, ← Int32.toInt_inj, true_and, and_true, or_true, true_or, false_or, or_false, false_and, and_false, not_true_eq_false, not_false_eq_true] <;> omega))⟩
  · simp only [Int32.lt_iff_toInt_lt, Int32.le_iff_toInt_le, Int32.reduceToInt, ← Int32.toInt_inj] at h_34
    refine v_bipush hC dX12_asksWay_7 (v := (-2)) (by decide) ?_
    refine v_goto hC dX12_asksWay_9 (tgt := 26) (by decide) ?_
    exact hR _ _ _ _ _ _ _ dX12_asksWay_26 rfl (Nat.le_of_ble_eq_true rfl) (Nat.le_of_ble_eq_true rfl) ⟨rfl, rfl, (by decide), (.inl (by decide)), (by first | omega | (simp only [Int32.lt_iff_toInt_lt, Int32.le_iff_toInt_le, Int32.reduceToInt, ← Int32.toInt_inj, true_and, and_true, or_true, true_or, false_or, or_false, false_and, and_false, not_true_eq_false, not_false_eq_true] <;> omega))⟩
set_option maxRecDepth 100000 in
set_option maxHeartbeats 8000000 in
theorem p_X12_asksTwo {l : Launch} {E : Ez} {L : List Nat} {f : Nat → va_E} {T : Nat → va_E → Prop} {a_0 : Nat} {a_1 : Int32} {a_2 : Int32} {q : Nat → Nat} {g_w : Nat → Int32} (hW : WT T L f) (k_0 : isM T L E a_0 q) (e_w : f (q 1) = aI E 2076 g_w) (o_w : WOK g_w) : CI l yX12_asksTwo cX12_asksTwo 3 .int 2 0 0 E [.ref a_0, .int a_1, .int a_2] L f (fun r L1 f1 => L = L1 ∧ f = f1 ∧ ((-6) ≤ r.toInt ∧ r.toInt ≤ 0) ∧ (¬ r.toInt = 0 ∨ (0 ≤ a_1.toInt ∧ a_1.toInt ≤ 3)) ∧ (¬ r.toInt = 0 ∨ (0 ≤ a_2.toInt ∧ a_2.toInt ≤ 3))) := by
  refine ci_of (by decide) (Nat.le_of_ble_eq_true rfl) (fun z hz hnm hC hR => ?_)
  have hC : Cx z E cX12_asksTwo RX12 3 2 0 0 := hC
  subst hz
  show V z E 3 0 0 L f 0 [(0, .ref a_0), (1, .int a_1), (2, .int a_2)] []
  obtain ⟨m_1, t_2, nq_21, k_3, k_4, k_5, k_6, k_7, k_8, k_9, k_10, k_11, k_12, k_13, k_14, k_15, k_16, k_17, k_18, k_19, k_20⟩ := id k_0
  obtain ⟨m_22, t_23⟩ := id k_3
  have b_24 := o_w.r0
  have b_25 := o_w.w0
  refine v_iload_n hC dX12_asksTwo_0 rfl ?_
  refine v_si hC (rest := []) mt_X12_isCloth (p_X12_isCloth hW) mx_X12_isCloth ml_X12_319 (by decide) rfl (cells1 := 0) (slots1 := 0) (by decide) (by decide) (Nat.le_of_ble_eq_true rfl) (Nat.le_of_ble_eq_true rfl) rfl (Nat.le_of_ble_eq_true rfl) dX12_asksTwo_1 (fun r_26 L_27 f_28 h_29 => ?_)
  obtain ⟨rfl, rfl, b_30, h_31⟩ := h_29
  refine v_if_eq hC dX12_asksTwo_4 (tgt := 14) (by decide) (fun h_34 => ?_) (fun h_34 => ?_)
  · simp only [Int32.lt_iff_toInt_lt, Int32.le_iff_toInt_le, Int32.reduceToInt, ← Int32.toInt_inj] at h_34
    refine v_bipush hC dX12_asksTwo_14 (v := (-2)) (by decide) ?_
    refine v_goto hC dX12_asksTwo_16 (tgt := 41) (by decide) ?_
    exact hR _ _ _ _ _ _ _ dX12_asksTwo_41 rfl (Nat.le_of_ble_eq_true rfl) (Nat.le_of_ble_eq_true rfl) ⟨rfl, rfl, (by decide), (.inl (by decide)), (.inl (by decide))⟩
  · simp only [Int32.lt_iff_toInt_lt, Int32.le_iff_toInt_le, Int32.reduceToInt, ← Int32.toInt_inj] at h_34
    refine v_iload_n hC dX12_asksTwo_7 rfl ?_
    refine v_si hC (rest := []) mt_X12_isCloth (p_X12_isCloth hW) mx_X12_isCloth ml_X12_319 (by decide) rfl (cells1 := 0) (slots1 := 0) (by decide) (by decide) (Nat.le_of_ble_eq_true rfl) (Nat.le_of_ble_eq_true rfl) rfl (Nat.le_of_ble_eq_true rfl) dX12_asksTwo_8 (fun r_35 L_36 f_37 h_38 => ?_)
    obtain ⟨rfl, rfl, b_39, h_40⟩ := h_38
    refine v_if_ne hC dX12_asksTwo_11 (tgt := 19) (by decide) (fun h_43 => ?_) (fun h_43 => ?_)
    · simp only [Int32.lt_iff_toInt_lt, Int32.le_iff_toInt_le, Int32.reduceToInt, ← Int32.toInt_inj] at h_43
      refine v_aload_n hC dX12_asksTwo_19 rfl ?_
      refine v_iload_n hC dX12_asksTwo_20 rfl ?_
      obtain ⟨v_45, v_46, v_48, v_50, v_52, v_54, v_56, v_57, v_58, v_59, v_61, e_44, b_47, b_49, b_51, b_53, b_55, b_60, b_62⟩ := hW.at m_1 t_2
      refine v_vi hC (rest := []) m_1 e_44 rfl mi_X12_isThere ms_X12_isThere (p_X12_isThere hW k_0 (by first | omega | (simp only [Int32.lt_iff_toInt_lt, Int32.le_iff_toInt_le, Int32.reduceToInt, ← Int32.toInt_inj, true_and, and_true, or_true, true_or, false_or, or_false, false_and, and_false, not_true_eq_false, not_false_eq_true] <;> omega)) e_w o_w) mx_X12_isThere ml_X12_351 (by decide) rfl (cells1 := 0) (slots1 := 0) (by decide) (by decide) (Nat.le_of_ble_eq_true rfl) (Nat.le_of_ble_eq_true rfl) rfl (Nat.le_of_ble_eq_true rfl) dX12_asksTwo_21 (fun r_63 L_64 f_65 h_66 => ?_)
      obtain ⟨rfl, rfl, b_67⟩ := h_66
      refine v_if_eq hC dX12_asksTwo_24 (tgt := 39) (by decide) (fun h_70 => ?_) (fun h_70 => ?_)
      · simp only [Int32.lt_iff_toInt_lt, Int32.le_iff_toInt_le, Int32.reduceToInt, ← Int32.toInt_inj] at h_70
        refine v_bipush hC dX12_asksTwo_39 (v := (-6)) (by decide) ?_
        exact hR _ _ _ _ _ _ _ dX12_asksTwo_41 rfl (Nat.le_of_ble_eq_true rfl) (Nat.le_of_ble_eq_true rfl) ⟨rfl, rfl, (by decide), (.inl (by decide)), (.inl (by decide))⟩
      · simp only [Int32.lt_iff_toInt_lt, Int32.le_iff_toInt_le, Int32.reduceToInt, ← Int32.toInt_inj] at h_70
        refine v_aload_n hC dX12_asksTwo_27 rfl ?_
        refine v_iload_n hC dX12_asksTwo_28 rfl ?_
        refine v_vi hC (rest := []) m_1 e_44 rfl mi_X12_isThere ms_X12_isThere (p_X12_isThere hW k_0 (by first | omega | (simp only [Int32.lt_iff_toInt_lt, Int32.le_iff_toInt_le, Int32.reduceToInt, ← Int32.toInt_inj, true_and, and_true, or_true, true_or, false_or, or_false, false_and, and_false, not_true_eq_false, not_false_eq_true] <;> omega)) e_w o_w) mx_X12_isThere ml_X12_351 (by decide) rfl (cells1 := 0) (slots1 := 0) (by decide) (by decide) (Nat.le_of_ble_eq_true rfl) (Nat.le_of_ble_eq_true rfl) rfl (Nat.le_of_ble_eq_true rfl) dX12_asksTwo_29 (fun r_71 L_72 f_73 h_74 => ?_)
        obtain ⟨rfl, rfl, b_75⟩ := h_74
        refine v_if_eq hC dX12_asksTwo_32 (tgt := 39) (by decide) (fun h_78 => ?_) (fun h_78 => ?_)
        · simp only [Int32.lt_iff_toInt_lt, Int32.le_iff_toInt_le, Int32.reduceToInt, ← Int32.toInt_inj] at h_78
          refine v_bipush hC dX12_asksTwo_39 (v := (-6)) (by decide) ?_
          exact hR _ _ _ _ _ _ _ dX12_asksTwo_41 rfl (Nat.le_of_ble_eq_true rfl) (Nat.le_of_ble_eq_true rfl) ⟨rfl, rfl, (by decide), (.inl (by decide)), (.inl (by decide))⟩
        · simp only [Int32.lt_iff_toInt_lt, Int32.le_iff_toInt_le, Int32.reduceToInt, ← Int32.toInt_inj] at h_78
          refine v_iconst hC dX12_asksTwo_35 (v := 0) (by decide) ?_
          refine v_goto hC dX12_asksTwo_36 (tgt := 41) (by decide) ?_
          exact hR _ _ _ _ _ _ _ dX12_asksTwo_41 rfl (Nat.le_of_ble_eq_true rfl) (Nat.le_of_ble_eq_true rfl) ⟨rfl, rfl, (by decide), (.inr (by first | omega | (simp only [Int32.lt_iff_toInt_lt, Int32.le_iff_toInt_le, Int32.reduceToInt, ← Int32.toInt_inj, true_and, and_true, or_true, true_or, false_or, or_false, false_and, and_false, not_true_eq_false, not_false_eq_true] <;> omega))), (.inr (by first | omega | (simp only [Int32.lt_iff_toInt_lt, Int32.le_iff_toInt_le, Int32.reduceToInt, ← Int32.toInt_inj, true_and, and_true, or_true, true_or, false_or, or_false, false_and, and_false, not_true_eq_false, not_false_eq_true] <;> omega)))⟩
    · simp only [Int32.lt_iff_toInt_lt, Int32.le_iff_toInt_le, Int32.reduceToInt, ← Int32.toInt_inj] at h_43
      refine v_bipush hC dX12_asksTwo_14 (v := (-2)) (by decide) ?_
      refine v_goto hC dX12_asksTwo_16 (tgt := 41) (by decide) ?_
      exact hR _ _ _ _ _ _ _ dX12_asksTwo_41 rfl (Nat.le_of_ble_eq_true rfl) (Nat.le_of_ble_eq_true rfl) ⟨rfl, rfl, (by decide), (.inl (by decide)), (.inl (by decide))⟩
set_option maxRecDepth 100000 in
set_option maxHeartbeats 8000000 in
theorem p_X12_isPlace {l : Launch} {E : Ez} {L : List Nat} {f : Nat → va_E} {T : Nat → va_E → Prop} {a_0 : Nat} {a_1 : Int32} {a_2 : Int32} {q : Nat → Nat} {g_w : Nat → Int32} (hW : WT T L f) (k_0 : isM T L E a_0 q) (e_w : f (q 1) = aI E 2076 g_w) (o_w : WOK g_w) : CI l yX12_isPlace cX12_isPlace 3 .boolean 1 0 0 E [.ref a_0, .int a_1, .int a_2] L f (fun r L1 f1 => L = L1 ∧ f = f1 ∧ (0 ≤ r.toInt ∧ r.toInt ≤ 1) ∧ (r.toInt = 0 ∨ (0 ≤ a_1.toInt ∧ a_1.toInt ≤ 15)) ∧ (r.toInt = 0 ∨ (0 ≤ a_2.toInt ∧ a_2.toInt ≤ 15)) ∧ (r.toInt = 0 ∨ (0 ≤ a_1.toInt ∧ a_1.toInt < (g_w 0).toInt ∧ 0 ≤ a_2.toInt ∧ a_2.toInt < (g_w 1).toInt))) := by
  refine ci_of (by decide) (Nat.le_of_ble_eq_true rfl) (fun z hz hnm hC hR => ?_)
  have hC : Cx z E cX12_isPlace RX12 3 1 0 0 := hC
  subst hz
  show V z E 3 0 0 L f 0 [(0, .ref a_0), (1, .int a_1), (2, .int a_2)] []
  obtain ⟨m_1, t_2, nq_21, k_3, k_4, k_5, k_6, k_7, k_8, k_9, k_10, k_11, k_12, k_13, k_14, k_15, k_16, k_17, k_18, k_19, k_20⟩ := id k_0
  obtain ⟨m_22, t_23⟩ := id k_3
  have b_24 := o_w.r0
  have b_25 := o_w.w0
  refine v_iload_n hC dX12_isPlace_0 rfl ?_
  obtain ⟨v_26, h_27⟩ : ∃ v9 : Int64, a_1.toInt64 = v9 := ⟨_, rfl⟩
  refine v_i2l hC dX12_isPlace_1 h_27 ?_
  have h_28 : v_26.toInt = a_1.toInt := by rw [← h_27]; exact Int32.toInt_toInt64 _
  refine v_lconst hC dX12_isPlace_2 (v := 0) (by decide) ?_
  refine v_aload_n hC dX12_isPlace_3 rfl ?_
  obtain ⟨v_30, v_31, v_33, v_35, v_37, v_39, v_41, v_42, v_43, v_44, v_46, e_29, b_32, b_34, b_36, b_38, b_40, b_45, b_47⟩ := hW.at m_1 t_2
  refine v_vi hC (rest := [.long 0, .long v_26]) m_1 e_29 rfl mi_X12_rows ms_X12_rows (p_X12_rows hW k_0 e_w o_w) mx_X12_rows ml_X12_83 (by decide) rfl (cells1 := 0) (slots1 := 0) (by decide) (by decide) (Nat.le_of_ble_eq_true rfl) (Nat.le_of_ble_eq_true rfl) rfl (Nat.le_of_ble_eq_true rfl) dX12_isPlace_4 (fun r_48 L_49 f_50 h_51 => ?_)
  obtain ⟨rfl, rfl, rfl⟩ := h_51
  refine v_iconst hC dX12_isPlace_7 (v := 1) (by decide) ?_
  obtain ⟨v_54, h_55⟩ : ∃ v9 : Int32, (g_w 0) - 1 = v9 := ⟨_, rfl⟩
  refine v_isub hC dX12_isPlace_8 h_55 ?_
  have h_56 := sub_v h_55 (by first | omega | (simp only [Int32.lt_iff_toInt_lt, Int32.le_iff_toInt_le, Int32.reduceToInt, ← Int32.toInt_inj, true_and, and_true, or_true, true_or, false_or, or_false, false_and, and_false, not_true_eq_false, not_false_eq_true] <;> omega)) (by first | omega | (simp only [Int32.lt_iff_toInt_lt, Int32.le_iff_toInt_le, Int32.reduceToInt, ← Int32.toInt_inj, true_and, and_true, or_true, true_or, false_or, or_false, false_and, and_false, not_true_eq_false, not_false_eq_true] <;> omega))
  try simp only [Int32.reduceToInt] at h_56
  obtain ⟨v_57, h_58⟩ : ∃ v9 : Int64, v_54.toInt64 = v9 := ⟨_, rfl⟩
  refine v_i2l hC dX12_isPlace_9 h_58 ?_
  have h_59 : v_57.toInt = v_54.toInt := by rw [← h_58]; exact Int32.toInt_toInt64 _
  refine v_si hC (rest := []) mt_X12_in (p_X12_in hW) mx_X12_in ml_X12_79 (by decide) rfl (cells1 := 0) (slots1 := 0) (by decide) (by decide) (Nat.le_of_ble_eq_true rfl) (Nat.le_of_ble_eq_true rfl) rfl (Nat.le_of_ble_eq_true rfl) dX12_isPlace_10 (fun r_60 L_61 f_62 h_63 => ?_)
  obtain ⟨rfl, rfl, b_64, x_65⟩ := h_63
  try simp only [Int32.reduceToInt, Int64.reduceToInt] at x_65
  refine v_if_eq hC dX12_isPlace_13 (tgt := 36) (by decide) (fun h_68 => ?_) (fun h_68 => ?_)
  · simp only [Int32.lt_iff_toInt_lt, Int32.le_iff_toInt_le, Int32.reduceToInt, ← Int32.toInt_inj] at h_68
    refine v_iconst hC dX12_isPlace_36 (v := 0) (by decide) ?_
    exact hR _ _ _ _ _ _ _ dX12_isPlace_37 rfl (Nat.le_of_ble_eq_true rfl) (Nat.le_of_ble_eq_true rfl) ⟨rfl, rfl, (by decide), (.inl (by decide)), (.inl (by decide)), (by first | omega | (simp only [Int32.lt_iff_toInt_lt, Int32.le_iff_toInt_le, Int32.reduceToInt, ← Int32.toInt_inj, true_and, and_true, or_true, true_or, false_or, or_false, false_and, and_false, not_true_eq_false, not_false_eq_true] <;> omega))⟩
  · simp only [Int32.lt_iff_toInt_lt, Int32.le_iff_toInt_le, Int32.reduceToInt, ← Int32.toInt_inj] at h_68
    refine v_iload_n hC dX12_isPlace_16 rfl ?_
    obtain ⟨v_69, h_70⟩ : ∃ v9 : Int64, a_2.toInt64 = v9 := ⟨_, rfl⟩
    refine v_i2l hC dX12_isPlace_17 h_70 ?_
    have h_71 : v_69.toInt = a_2.toInt := by rw [← h_70]; exact Int32.toInt_toInt64 _
    refine v_lconst hC dX12_isPlace_18 (v := 0) (by decide) ?_
    refine v_aload_n hC dX12_isPlace_19 rfl ?_
    refine v_vi hC (rest := [.long 0, .long v_69]) m_1 e_29 rfl mi_X12_wide ms_X12_wide (p_X12_wide hW k_0 e_w o_w) mx_X12_wide ml_X12_87 (by decide) rfl (cells1 := 0) (slots1 := 0) (by decide) (by decide) (Nat.le_of_ble_eq_true rfl) (Nat.le_of_ble_eq_true rfl) rfl (Nat.le_of_ble_eq_true rfl) dX12_isPlace_20 (fun r_72 L_73 f_74 h_75 => ?_)
    obtain ⟨rfl, rfl, rfl⟩ := h_75
    refine v_iconst hC dX12_isPlace_23 (v := 1) (by decide) ?_
    obtain ⟨v_78, h_79⟩ : ∃ v9 : Int32, (g_w 1) - 1 = v9 := ⟨_, rfl⟩
    refine v_isub hC dX12_isPlace_24 h_79 ?_
    have h_80 := sub_v h_79 (by first | omega | (simp only [Int32.lt_iff_toInt_lt, Int32.le_iff_toInt_le, Int32.reduceToInt, ← Int32.toInt_inj, true_and, and_true, or_true, true_or, false_or, or_false, false_and, and_false, not_true_eq_false, not_false_eq_true] <;> omega)) (by first | omega | (simp only [Int32.lt_iff_toInt_lt, Int32.le_iff_toInt_le, Int32.reduceToInt, ← Int32.toInt_inj, true_and, and_true, or_true, true_or, false_or, or_false, false_and, and_false, not_true_eq_false, not_false_eq_true] <;> omega))
    try simp only [Int32.reduceToInt] at h_80
    obtain ⟨v_81, h_82⟩ : ∃ v9 : Int64, v_78.toInt64 = v9 := ⟨_, rfl⟩
    refine v_i2l hC dX12_isPlace_25 h_82 ?_
    have h_83 : v_81.toInt = v_78.toInt := by rw [← h_82]; exact Int32.toInt_toInt64 _
    refine v_si hC (rest := []) mt_X12_in (p_X12_in hW) mx_X12_in ml_X12_79 (by decide) rfl (cells1 := 0) (slots1 := 0) (by decide) (by decide) (Nat.le_of_ble_eq_true rfl) (Nat.le_of_ble_eq_true rfl) rfl (Nat.le_of_ble_eq_true rfl) dX12_isPlace_26 (fun r_84 L_85 f_86 h_87 => ?_)
    obtain ⟨rfl, rfl, b_88, x_89⟩ := h_87
    try simp only [Int32.reduceToInt, Int64.reduceToInt] at x_89
    refine v_if_eq hC dX12_isPlace_29 (tgt := 36) (by decide) (fun h_92 => ?_) (fun h_92 => ?_)
    · simp only [Int32.lt_iff_toInt_lt, Int32.le_iff_toInt_le, Int32.reduceToInt, ← Int32.toInt_inj] at h_92
      refine v_iconst hC dX12_isPlace_36 (v := 0) (by decide) ?_
      exact hR _ _ _ _ _ _ _ dX12_isPlace_37 rfl (Nat.le_of_ble_eq_true rfl) (Nat.le_of_ble_eq_true rfl) ⟨rfl, rfl, (by decide), (.inl (by decide)), (.inl (by decide)), (by first | omega | (simp only [Int32.lt_iff_toInt_lt, Int32.le_iff_toInt_le, Int32.reduceToInt, ← Int32.toInt_inj, true_and, and_true, or_true, true_or, false_or, or_false, false_and, and_false, not_true_eq_false, not_false_eq_true] <;> omega))⟩
    · simp only [Int32.lt_iff_toInt_lt, Int32.le_iff_toInt_le, Int32.reduceToInt, ← Int32.toInt_inj] at h_92
      refine v_iconst hC dX12_isPlace_32 (v := 1) (by decide) ?_
      refine v_goto hC dX12_isPlace_33 (tgt := 37) (by decide) ?_
      exact hR _ _ _ _ _ _ _ dX12_isPlace_37 rfl (Nat.le_of_ble_eq_true rfl) (Nat.le_of_ble_eq_true rfl) ⟨rfl, rfl, (by decide), (.inr (by first | omega | (simp only [Int32.lt_iff_toInt_lt, Int32.le_iff_toInt_le, Int32.reduceToInt, ← Int32.toInt_inj, true_and, and_true, or_true, true_or, false_or, or_false, false_and, and_false, not_true_eq_false, not_false_eq_true] <;> omega))), (.inr (by first | omega | (simp only [Int32.lt_iff_toInt_lt, Int32.le_iff_toInt_le, Int32.reduceToInt, ← Int32.toInt_inj, true_and, and_true, or_true, true_or, false_or, or_false, false_and, and_false, not_true_eq_false, not_false_eq_true] <;> omega))), (by first | omega | (simp only [Int32.lt_iff_toInt_lt, Int32.le_iff_toInt_le, Int32.reduceToInt, ← Int32.toInt_inj, true_and, and_true, or_true, true_or, false_or, or_false, false_and, and_false, not_true_eq_false, not_false_eq_true] <;> omega))⟩
set_option maxRecDepth 100000 in
set_option maxHeartbeats 8000000 in
theorem p_X12_reads {l : Launch} {E : Ez} {L : List Nat} {f : Nat → va_E} {T : Nat → va_E → Prop} {a_0 : Nat} {a_1 : Int32} {q : Nat → Nat} {g_w : Nat → Int32} (hW : WT T L f) (k_0 : isM T L E a_0 q) (g_1 : (0 ≤ a_1.toInt ∧ a_1.toInt ≤ 5)) (e_w : f (q 1) = aI E 2076 g_w) (o_w : WOK g_w) (htold : (wv g_w a_1 0).toInt = 1) : CI l yX12_reads cX12_reads 9 .int 4 0 0 E [.ref a_0, .int a_1] L f (fun r L1 f1 => L = L1 ∧ WT T L f1 ∧ FR [12, 200, 356] f f1 ∧ ((-1) ≤ r.toInt ∧ r.toInt ≤ 52) ∧ fld (f1 a_0) 20 = fld (f a_0) 20) := by
  refine ci_of (by decide) (Nat.le_of_ble_eq_true rfl) (fun z hz hnm hC hR => ?_)
  have hC : Cx z E cX12_reads RX12 9 4 0 0 := hC
  subst hz
  show V z E 9 0 0 L f 0 [(0, .ref a_0), (1, .int a_1)] []
  obtain ⟨m_1, t_2, nq_21, k_3, k_4, k_5, k_6, k_7, k_8, k_9, k_10, k_11, k_12, k_13, k_14, k_15, k_16, k_17, k_18, k_19, k_20⟩ := id k_0
  obtain ⟨m_22, t_23⟩ := id k_3
  have b_24 := o_w.r0
  have b_25 := o_w.w0
  obtain ⟨v_27, v_28, v_30, v_32, v_34, v_36, v_38, v_39, v_40, v_41, v_43, e_26, b_29, b_31, b_33, b_35, b_37, b_42, b_44⟩ := hW.at m_1 t_2
  have mz_45 : fld (f a_0) 20 = v_43.toInt := by rw [e_26]; rfl
  obtain ⟨tl_2, tl_3, tl_4⟩ := o_w.told g_1 htold
  refine v_aload_n hC dX12_reads_0 rfl ?_
  refine v_iload_n hC dX12_reads_1 rfl ?_
  refine v_vi hC (rest := []) m_1 e_26 rfl mi_X12_roomOf ms_X12_roomOf (p_X12_roomOf hW k_0 (by first | omega | (simp only [Int32.lt_iff_toInt_lt, Int32.le_iff_toInt_le, Int32.reduceToInt, ← Int32.toInt_inj, true_and, and_true, or_true, true_or, false_or, or_false, false_and, and_false, not_true_eq_false, not_false_eq_true] <;> omega)) e_w o_w (by first | omega | (simp only [Int32.lt_iff_toInt_lt, Int32.le_iff_toInt_le, Int32.reduceToInt, ← Int32.toInt_inj, true_and, and_true, or_true, true_or, false_or, or_false, false_and, and_false, not_true_eq_false, not_false_eq_true] <;> omega))) mx_X12_roomOf ml_X12_241 (by decide) rfl (cells1 := 0) (slots1 := 0) (by decide) (by decide) (Nat.le_of_ble_eq_true rfl) (Nat.le_of_ble_eq_true rfl) rfl (Nat.le_of_ble_eq_true rfl) dX12_reads_2 (fun r_46 L_47 f_48 h_49 => ?_)
  obtain ⟨rfl, hW_54, hF_55, b_50, x_51, x_52, x_53⟩ := h_49
  have fe_56 : fld (f a_0) 20 = (v_43 : Int32).toInt := by rw [e_26]; rfl
  have hf_57 := hF_55.at e_w rfl
  obtain ⟨v_59, v_60, v_62, v_64, v_66, v_68, v_70, v_71, v_72, v_73, v_75, e_58, b_61, b_63, b_65, b_67, b_69, b_74, b_76⟩ := hW_54.at m_1 t_2
  have fe_77 : fld (f_48 a_0) 20 = (v_75 : Int32).toInt := by rw [e_58]; rfl
  rw [fe_77, fe_56] at x_53
  clear fe_56 fe_77
  try simp only [Int32.reduceToInt, Int64.reduceToInt] at x_51
  try simp only [Int32.reduceToInt, Int64.reduceToInt] at x_52
  try simp only [Int32.reduceToInt, Int64.reduceToInt] at x_53
  refine v_istore_n hC dX12_reads_5 (by decide) (lv' := [(2, .int r_46), (0, .ref a_0), (1, .int a_1)]) rfl ?_
  refine v_iconst hC dX12_reads_6 (v := 0) (by decide) ?_
  refine v_istore_n hC dX12_reads_7 (by decide) (lv' := [(3, .int 0), (2, .int r_46), (0, .ref a_0), (1, .int a_1)]) rfl ?_
  refine v_iconst hC dX12_reads_8 (v := 0) (by decide) ?_
  refine v_istore hC dX12_reads_9 (by decide) (lv' := [(4, .int 0), (3, .int 0), (2, .int r_46), (0, .ref a_0), (1, .int a_1)]) rfl ?_
  have lp_4129 : ∀ (n_4130 : Nat) (f_4121 : Nat → va_E) (hW_4122 : WT T L f_4121) (hF_4123 : FR [200] f_48 f_4121) (i_4119 : Int32) (b_4126 : (0 ≤ i_4119.toInt ∧ i_4119.toInt ≤ 256)) (i_4120 : Int32) (b_4127 : (0 ≤ i_4120.toInt ∧ i_4120.toInt ≤ 52)) (nv_4128 : 5 * i_4120.toInt ≤ i_4119.toInt) (hm_4132 : 256 - i_4119.toInt < (n_4130 : Int)), V z E 9 0 0 L f_4121 11 [(4, .int i_4119), (3, .int i_4120), (2, .int r_46), (0, .ref a_0), (1, .int a_1)] [] := by
    intro n_4130
    induction n_4130 with
    | zero =>
      intro f_4121 hW_4122 hF_4123 i_4119 b_4126 i_4120 b_4127 nv_4128 hm_4132
      have hf_4124 := hF_4123.at hf_57 rfl
      have hf_4125 := hF_4123.at e_58 rfl
      exfalso; omega
    | succ n_4130 ih_4131 =>
      intro f_4121 hW_4122 hF_4123 i_4119 b_4126 i_4120 b_4127 nv_4128 hm_4132
      have hf_4124 := hF_4123.at hf_57 rfl
      have hf_4125 := hF_4123.at e_58 rfl
      refine v_iload hC dX12_reads_11 rfl ?_
      refine v_iconst hC dX12_reads_13 (v := 5) (by decide) ?_
      obtain ⟨v_4133, h_4134⟩ : ∃ v9 : Int32, i_4119 + 5 = v9 := ⟨_, rfl⟩
      refine v_iadd hC dX12_reads_14 h_4134 ?_
      have h_4135 := add_v h_4134 (by first | omega | (simp only [Int32.lt_iff_toInt_lt, Int32.le_iff_toInt_le, Int32.reduceToInt, ← Int32.toInt_inj, true_and, and_true, or_true, true_or, false_or, or_false, false_and, and_false, not_true_eq_false, not_false_eq_true] <;> omega)) (by first | omega | (simp only [Int32.lt_iff_toInt_lt, Int32.le_iff_toInt_le, Int32.reduceToInt, ← Int32.toInt_inj, true_and, and_true, or_true, true_or, false_or, or_false, false_and, and_false, not_true_eq_false, not_false_eq_true] <;> omega))
      try simp only [Int32.reduceToInt] at h_4135
      refine v_iload_n hC dX12_reads_15 rfl ?_
      refine v_icmp_gt hC dX12_reads_16 (tgt := 142) (by decide) (fun h_4136 => ?_) (fun h_4136 => ?_)
      · simp only [Int32.lt_iff_toInt_lt, Int32.le_iff_toInt_le, Int32.reduceToInt, ← Int32.toInt_inj] at h_4136
        refine v_iconst hC dX12_reads_142 (v := (-1)) (by decide) ?_
        have fe_4137 : fld (f_4121 a_0) 20 = (v_75 : Int32).toInt := by rw [hf_4125]; rfl
        exact hR _ _ _ _ _ _ _ dX12_reads_143 rfl (Nat.le_of_ble_eq_true rfl) (Nat.le_of_ble_eq_true rfl) ⟨rfl, hW_4122, ((hF_55.tr hF_4123).mono rfl), (by decide), (by simp only [fe_4137, mz_45, true_and, and_true, or_true, true_or, false_or, or_false, false_and, and_false, not_true_eq_false, not_false_eq_true] <;> first | omega | (simp only [Int32.lt_iff_toInt_lt, Int32.le_iff_toInt_le, Int32.reduceToInt, ← Int32.toInt_inj, true_and, and_true, or_true, true_or, false_or, or_false, false_and, and_false, not_true_eq_false, not_false_eq_true] <;> omega))⟩
      · simp only [Int32.lt_iff_toInt_lt, Int32.le_iff_toInt_le, Int32.reduceToInt, ← Int32.toInt_inj] at h_4136
        refine v_iconst hC dX12_reads_19 (v := 0) (by decide) ?_
        refine v_istore hC dX12_reads_20 (by decide) (lv' := [(5, .int 0), (4, .int i_4119), (3, .int i_4120), (2, .int r_46), (0, .ref a_0), (1, .int a_1)]) rfl ?_
        refine v_iconst hC dX12_reads_22 (v := 1) (by decide) ?_
        refine v_istore hC dX12_reads_23 (by decide) (lv' := [(6, .int 1), (5, .int 0), (4, .int i_4119), (3, .int i_4120), (2, .int r_46), (0, .ref a_0), (1, .int a_1)]) rfl ?_
        refine v_iconst hC dX12_reads_25 (v := 0) (by decide) ?_
        refine v_istore hC dX12_reads_26 (by decide) (lv' := [(7, .int 0), (6, .int 1), (5, .int 0), (4, .int i_4119), (3, .int i_4120), (2, .int r_46), (0, .ref a_0), (1, .int a_1)]) rfl ?_
        have lp_5344 : ∀ (n_5345 : Nat) (i_5339 : Int32) (b_5342 : (0 ≤ i_5339.toInt ∧ i_5339.toInt ≤ 5)) (i_5340 : Int32) (b_5343 : (0 ≤ i_5340.toInt ∧ i_5340.toInt ≤ 1)) (i_5341 : Int32) (hm_5347 : 5 - i_5339.toInt < (n_5345 : Int)), V z E 9 0 0 L f_4121 28 [(7, .int i_5339), (6, .int i_5340), (5, .int i_5341), (4, .int i_4119), (3, .int i_4120), (2, .int r_46), (0, .ref a_0), (1, .int a_1)] [] := by
          intro n_5345
          induction n_5345 with
          | zero =>
            intro i_5339 b_5342 i_5340 b_5343 i_5341 hm_5347
            exfalso; omega
          | succ n_5345 ih_5346 =>
            intro i_5339 b_5342 i_5340 b_5343 i_5341 hm_5347
            refine v_iload hC dX12_reads_28 rfl ?_
            refine v_iconst hC dX12_reads_30 (v := 5) (by decide) ?_
            refine v_icmp_ge hC dX12_reads_31 (tgt := 79) (by decide) (fun h_5348 => ?_) (fun h_5348 => ?_)
            · simp only [Int32.lt_iff_toInt_lt, Int32.le_iff_toInt_le, Int32.reduceToInt, ← Int32.toInt_inj] at h_5348
              refine v_iload hC dX12_reads_79 rfl ?_
              refine v_if_eq hC dX12_reads_81 (tgt := 101) (by decide) (fun h_5388 => ?_) (fun h_5388 => ?_)
              · simp only [Int32.lt_iff_toInt_lt, Int32.le_iff_toInt_le, Int32.reduceToInt, ← Int32.toInt_inj] at h_5388
                refine v_iload hC dX12_reads_101 rfl ?_
                refine v_if_eq_t hC dX12_reads_103 (tgt := 115) (by decide) (by first | omega | (simp only [Int32.lt_iff_toInt_lt, Int32.le_iff_toInt_le, Int32.reduceToInt, ← Int32.toInt_inj, true_and, and_true, or_true, true_or, false_or, or_false, false_and, and_false, not_true_eq_false, not_false_eq_true] <;> omega)) ?_
                refine v_aload_n hC dX12_reads_115 rfl ?_
                refine v_get hC fl_X12_52 m_1 hf_4125 rfl dX12_reads_116 ?_
                refine v_iload_n hC dX12_reads_119 rfl ?_
                refine v_iload hC dX12_reads_120 rfl ?_
                refine v_if_eq_t hC dX12_reads_122 (tgt := 130) (by decide) (by first | omega | (simp only [Int32.lt_iff_toInt_lt, Int32.le_iff_toInt_le, Int32.reduceToInt, ← Int32.toInt_inj, true_and, and_true, or_true, true_or, false_or, or_false, false_and, and_false, not_true_eq_false, not_false_eq_true] <;> omega)) ?_
                refine v_bipush hC dX12_reads_130 (v := 99) (by decide) ?_
                obtain ⟨m_5389, t_5390⟩ := id k_13
                obtain ⟨g_5392, e_5391⟩ := hW_4122.at m_5389 t_5390
                refine v_iast hC m_5389 e_5391 (vp_in_iff.mpr (by first | omega | (simp only [Int32.lt_iff_toInt_lt, Int32.le_iff_toInt_le, Int32.reduceToInt, ← Int32.toInt_inj, true_and, and_true, or_true, true_or, false_or, or_false, false_and, and_false, not_true_eq_false, not_false_eq_true] <;> omega))) dX12_reads_132 (fun f_5393 hf_5394 hk_5395 => ?_)
                have hW_5397 := hW_4122.up hf_5394 hk_5395 t_5390 ⟨_, rfl⟩
                obtain ⟨g_5396, hf_5394⟩ : ∃ g9, f_5393 (q 21) = aI E 100 g9 := ⟨_, hf_5394⟩
                have hf_5398 := (hk_5395 (q 1) (ne_kd hf_4124 e_5391 rfl)).trans hf_4124
                have hf_5399 := (hk_5395 a_0 (ne_kd hf_4125 e_5391 rfl)).trans hf_4125
                have fr_5400 := FR.w hk_5395 e_5391 (k := 200) rfl
                obtain ⟨v_5401, h_5402⟩ : ∃ v9 : Int32, i_4120 + Int32.ofInt 1 = v9 := ⟨_, rfl⟩
                have h_5403 := add_v (b := 1) h_5402 (by first | omega | (simp only [Int32.lt_iff_toInt_lt, Int32.le_iff_toInt_le, Int32.reduceToInt, ← Int32.toInt_inj, true_and, and_true, or_true, true_or, false_or, or_false, false_and, and_false, not_true_eq_false, not_false_eq_true] <;> omega)) (by first | omega | (simp only [Int32.lt_iff_toInt_lt, Int32.le_iff_toInt_le, Int32.reduceToInt, ← Int32.toInt_inj, true_and, and_true, or_true, true_or, false_or, or_false, false_and, and_false, not_true_eq_false, not_false_eq_true] <;> omega))
                simp only [Int32.reduceToInt] at h_5403
                refine v_iinc hC dX12_reads_133 (k := 4) rfl (v := v_5401) h_5402 (by decide) (lv' := [(3, .int v_5401), (7, .int i_5339), (6, .int i_5340), (5, .int i_5341), (4, .int i_4119), (2, .int r_46), (0, .ref a_0), (1, .int a_1)]) rfl ?_
                obtain ⟨v_5404, h_5405⟩ : ∃ v9 : Int32, i_4119 + Int32.ofInt 5 = v9 := ⟨_, rfl⟩
                have h_5406 := add_v (b := 5) h_5405 (by first | omega | (simp only [Int32.lt_iff_toInt_lt, Int32.le_iff_toInt_le, Int32.reduceToInt, ← Int32.toInt_inj, true_and, and_true, or_true, true_or, false_or, or_false, false_and, and_false, not_true_eq_false, not_false_eq_true] <;> omega)) (by first | omega | (simp only [Int32.lt_iff_toInt_lt, Int32.le_iff_toInt_le, Int32.reduceToInt, ← Int32.toInt_inj, true_and, and_true, or_true, true_or, false_or, or_false, false_and, and_false, not_true_eq_false, not_false_eq_true] <;> omega))
                simp only [Int32.reduceToInt] at h_5406
                refine v_iinc hC dX12_reads_136 (k := 4) rfl (v := v_5404) h_5405 (by decide) (lv' := [(4, .int v_5404), (3, .int v_5401), (7, .int i_5339), (6, .int i_5340), (5, .int i_5341), (2, .int r_46), (0, .ref a_0), (1, .int a_1)]) rfl ?_
                refine v_goto hC dX12_reads_139 (tgt := 11) (by decide) ?_
                refine v_pick [0, 1, 5, 6, 7] rfl ?_
                exact ih_4131 f_5393 hW_5397 ((hF_4123.tr fr_5400).mono rfl) v_5404 (by first | omega | (simp only [Int32.lt_iff_toInt_lt, Int32.le_iff_toInt_le, Int32.reduceToInt, ← Int32.toInt_inj, true_and, and_true, or_true, true_or, false_or, or_false, false_and, and_false, not_true_eq_false, not_false_eq_true] <;> omega)) v_5401 (by first | omega | (simp only [Int32.lt_iff_toInt_lt, Int32.le_iff_toInt_le, Int32.reduceToInt, ← Int32.toInt_inj, true_and, and_true, or_true, true_or, false_or, or_false, false_and, and_false, not_true_eq_false, not_false_eq_true] <;> omega)) (by first | omega | (simp only [Int32.lt_iff_toInt_lt, Int32.le_iff_toInt_le, Int32.reduceToInt, ← Int32.toInt_inj, true_and, and_true, or_true, true_or, false_or, or_false, false_and, and_false, not_true_eq_false, not_false_eq_true] <;> omega)) (by first | omega | (simp only [Int32.lt_iff_toInt_lt, Int32.le_iff_toInt_le, Int32.reduceToInt, ← Int32.toInt_inj, true_and, and_true, or_true, true_or, false_or, or_false, false_and, and_false, not_true_eq_false, not_false_eq_true] <;> omega))
              · simp only [Int32.lt_iff_toInt_lt, Int32.le_iff_toInt_le, Int32.reduceToInt, ← Int32.toInt_inj] at h_5388
                refine v_iload hC dX12_reads_84 rfl ?_
                refine v_bipush hC dX12_reads_86 (v := 31) (by decide) ?_
                refine v_icmp_ne hC dX12_reads_88 (tgt := 101) (by decide) (fun h_5407 => ?_) (fun h_5407 => ?_)
                · simp only [Int32.lt_iff_toInt_lt, Int32.le_iff_toInt_le, Int32.reduceToInt, ← Int32.toInt_inj] at h_5407
                  refine v_iload hC dX12_reads_101 rfl ?_
                  refine v_if_eq_f hC dX12_reads_103 (tgt := 115) (by decide) (by first | omega | (simp only [Int32.lt_iff_toInt_lt, Int32.le_iff_toInt_le, Int32.reduceToInt, ← Int32.toInt_inj, true_and, and_true, or_true, true_or, false_or, or_false, false_and, and_false, not_true_eq_false, not_false_eq_true] <;> omega)) ?_
                  refine v_iload hC dX12_reads_106 rfl ?_
                  refine v_bipush hC dX12_reads_108 (v := 26) (by decide) ?_
                  refine v_icmp_le hC dX12_reads_110 (tgt := 115) (by decide) (fun h_5408 => ?_) (fun h_5408 => ?_)
                  · simp only [Int32.lt_iff_toInt_lt, Int32.le_iff_toInt_le, Int32.reduceToInt, ← Int32.toInt_inj] at h_5408
                    refine v_aload_n hC dX12_reads_115 rfl ?_
                    refine v_get hC fl_X12_52 m_1 hf_4125 rfl dX12_reads_116 ?_
                    refine v_iload_n hC dX12_reads_119 rfl ?_
                    refine v_iload hC dX12_reads_120 rfl ?_
                    refine v_if_eq_f hC dX12_reads_122 (tgt := 130) (by decide) (by first | omega | (simp only [Int32.lt_iff_toInt_lt, Int32.le_iff_toInt_le, Int32.reduceToInt, ← Int32.toInt_inj, true_and, and_true, or_true, true_or, false_or, or_false, false_and, and_false, not_true_eq_false, not_false_eq_true] <;> omega)) ?_
                    refine v_iload hC dX12_reads_125 rfl ?_
                    refine v_goto hC dX12_reads_127 (tgt := 132) (by decide) ?_
                    obtain ⟨m_5409, t_5410⟩ := id k_13
                    obtain ⟨g_5412, e_5411⟩ := hW_4122.at m_5409 t_5410
                    refine v_iast hC m_5409 e_5411 (vp_in_iff.mpr (by first | omega | (simp only [Int32.lt_iff_toInt_lt, Int32.le_iff_toInt_le, Int32.reduceToInt, ← Int32.toInt_inj, true_and, and_true, or_true, true_or, false_or, or_false, false_and, and_false, not_true_eq_false, not_false_eq_true] <;> omega))) dX12_reads_132 (fun f_5413 hf_5414 hk_5415 => ?_)
                    have hW_5417 := hW_4122.up hf_5414 hk_5415 t_5410 ⟨_, rfl⟩
                    obtain ⟨g_5416, hf_5414⟩ : ∃ g9, f_5413 (q 21) = aI E 100 g9 := ⟨_, hf_5414⟩
                    have hf_5418 := (hk_5415 (q 1) (ne_kd hf_4124 e_5411 rfl)).trans hf_4124
                    have hf_5419 := (hk_5415 a_0 (ne_kd hf_4125 e_5411 rfl)).trans hf_4125
                    have fr_5420 := FR.w hk_5415 e_5411 (k := 200) rfl
                    obtain ⟨v_5421, h_5422⟩ : ∃ v9 : Int32, i_4120 + Int32.ofInt 1 = v9 := ⟨_, rfl⟩
                    have h_5423 := add_v (b := 1) h_5422 (by first | omega | (simp only [Int32.lt_iff_toInt_lt, Int32.le_iff_toInt_le, Int32.reduceToInt, ← Int32.toInt_inj, true_and, and_true, or_true, true_or, false_or, or_false, false_and, and_false, not_true_eq_false, not_false_eq_true] <;> omega)) (by first | omega | (simp only [Int32.lt_iff_toInt_lt, Int32.le_iff_toInt_le, Int32.reduceToInt, ← Int32.toInt_inj, true_and, and_true, or_true, true_or, false_or, or_false, false_and, and_false, not_true_eq_false, not_false_eq_true] <;> omega))
                    simp only [Int32.reduceToInt] at h_5423
                    refine v_iinc hC dX12_reads_133 (k := 4) rfl (v := v_5421) h_5422 (by decide) (lv' := [(3, .int v_5421), (7, .int i_5339), (6, .int i_5340), (5, .int i_5341), (4, .int i_4119), (2, .int r_46), (0, .ref a_0), (1, .int a_1)]) rfl ?_
                    obtain ⟨v_5424, h_5425⟩ : ∃ v9 : Int32, i_4119 + Int32.ofInt 5 = v9 := ⟨_, rfl⟩
                    have h_5426 := add_v (b := 5) h_5425 (by first | omega | (simp only [Int32.lt_iff_toInt_lt, Int32.le_iff_toInt_le, Int32.reduceToInt, ← Int32.toInt_inj, true_and, and_true, or_true, true_or, false_or, or_false, false_and, and_false, not_true_eq_false, not_false_eq_true] <;> omega)) (by first | omega | (simp only [Int32.lt_iff_toInt_lt, Int32.le_iff_toInt_le, Int32.reduceToInt, ← Int32.toInt_inj, true_and, and_true, or_true, true_or, false_or, or_false, false_and, and_false, not_true_eq_false, not_false_eq_true] <;> omega))
                    simp only [Int32.reduceToInt] at h_5426
                    refine v_iinc hC dX12_reads_136 (k := 4) rfl (v := v_5424) h_5425 (by decide) (lv' := [(4, .int v_5424), (3, .int v_5421), (7, .int i_5339), (6, .int i_5340), (5, .int i_5341), (2, .int r_46), (0, .ref a_0), (1, .int a_1)]) rfl ?_
                    refine v_goto hC dX12_reads_139 (tgt := 11) (by decide) ?_
                    refine v_pick [0, 1, 5, 6, 7] rfl ?_
                    exact ih_4131 f_5413 hW_5417 ((hF_4123.tr fr_5420).mono rfl) v_5424 (by first | omega | (simp only [Int32.lt_iff_toInt_lt, Int32.le_iff_toInt_le, Int32.reduceToInt, ← Int32.toInt_inj, true_and, and_true, or_true, true_or, false_or, or_false, false_and, and_false, not_true_eq_false, not_false_eq_true] <;> omega)) v_5421 (by first | omega | (simp only [Int32.lt_iff_toInt_lt, Int32.le_iff_toInt_le, Int32.reduceToInt, ← Int32.toInt_inj, true_and, and_true, or_true, true_or, false_or, or_false, false_and, and_false, not_true_eq_false, not_false_eq_true] <;> omega)) (by first | omega | (simp only [Int32.lt_iff_toInt_lt, Int32.le_iff_toInt_le, Int32.reduceToInt, ← Int32.toInt_inj, true_and, and_true, or_true, true_or, false_or, or_false, false_and, and_false, not_true_eq_false, not_false_eq_true] <;> omega)) (by first | omega | (simp only [Int32.lt_iff_toInt_lt, Int32.le_iff_toInt_le, Int32.reduceToInt, ← Int32.toInt_inj, true_and, and_true, or_true, true_or, false_or, or_false, false_and, and_false, not_true_eq_false, not_false_eq_true] <;> omega))
                  · simp only [Int32.lt_iff_toInt_lt, Int32.le_iff_toInt_le, Int32.reduceToInt, ← Int32.toInt_inj] at h_5408
                    refine v_iconst hC dX12_reads_113 (v := (-1)) (by decide) ?_
                    have fe_5427 : fld (f_4121 a_0) 20 = (v_75 : Int32).toInt := by rw [hf_4125]; rfl
                    exact hR _ _ _ _ _ _ _ dX12_reads_114 rfl (Nat.le_of_ble_eq_true rfl) (Nat.le_of_ble_eq_true rfl) ⟨rfl, hW_4122, ((hF_55.tr hF_4123).mono rfl), (by decide), (by simp only [fe_5427, mz_45, true_and, and_true, or_true, true_or, false_or, or_false, false_and, and_false, not_true_eq_false, not_false_eq_true] <;> first | omega | (simp only [Int32.lt_iff_toInt_lt, Int32.le_iff_toInt_le, Int32.reduceToInt, ← Int32.toInt_inj, true_and, and_true, or_true, true_or, false_or, or_false, false_and, and_false, not_true_eq_false, not_false_eq_true] <;> omega))⟩
                · simp only [Int32.lt_iff_toInt_lt, Int32.le_iff_toInt_le, Int32.reduceToInt, ← Int32.toInt_inj] at h_5407
                  refine v_iload_n hC dX12_reads_91 rfl ?_
                  refine v_if_ne hC dX12_reads_92 (tgt := 99) (by decide) (fun h_5428 => ?_) (fun h_5428 => ?_)
                  · simp only [Int32.lt_iff_toInt_lt, Int32.le_iff_toInt_le, Int32.reduceToInt, ← Int32.toInt_inj] at h_5428
                    refine v_iload_n hC dX12_reads_99 rfl ?_
                    have fe_5429 : fld (f_4121 a_0) 20 = (v_75 : Int32).toInt := by rw [hf_4125]; rfl
                    exact hR _ _ _ _ _ _ _ dX12_reads_100 rfl (Nat.le_of_ble_eq_true rfl) (Nat.le_of_ble_eq_true rfl) ⟨rfl, hW_4122, ((hF_55.tr hF_4123).mono rfl), (by first | omega | (simp only [Int32.lt_iff_toInt_lt, Int32.le_iff_toInt_le, Int32.reduceToInt, ← Int32.toInt_inj, true_and, and_true, or_true, true_or, false_or, or_false, false_and, and_false, not_true_eq_false, not_false_eq_true] <;> omega)), (by simp only [fe_5429, mz_45, true_and, and_true, or_true, true_or, false_or, or_false, false_and, and_false, not_true_eq_false, not_false_eq_true] <;> first | omega | (simp only [Int32.lt_iff_toInt_lt, Int32.le_iff_toInt_le, Int32.reduceToInt, ← Int32.toInt_inj, true_and, and_true, or_true, true_or, false_or, or_false, false_and, and_false, not_true_eq_false, not_false_eq_true] <;> omega))⟩
                  · simp only [Int32.lt_iff_toInt_lt, Int32.le_iff_toInt_le, Int32.reduceToInt, ← Int32.toInt_inj] at h_5428
                    refine v_iconst hC dX12_reads_95 (v := (-1)) (by decide) ?_
                    refine v_goto hC dX12_reads_96 (tgt := 100) (by decide) ?_
                    have fe_5430 : fld (f_4121 a_0) 20 = (v_75 : Int32).toInt := by rw [hf_4125]; rfl
                    exact hR _ _ _ _ _ _ _ dX12_reads_100 rfl (Nat.le_of_ble_eq_true rfl) (Nat.le_of_ble_eq_true rfl) ⟨rfl, hW_4122, ((hF_55.tr hF_4123).mono rfl), (by decide), (by simp only [fe_5430, mz_45, true_and, and_true, or_true, true_or, false_or, or_false, false_and, and_false, not_true_eq_false, not_false_eq_true] <;> first | omega | (simp only [Int32.lt_iff_toInt_lt, Int32.le_iff_toInt_le, Int32.reduceToInt, ← Int32.toInt_inj, true_and, and_true, or_true, true_or, false_or, or_false, false_and, and_false, not_true_eq_false, not_false_eq_true] <;> omega))⟩
            · simp only [Int32.lt_iff_toInt_lt, Int32.le_iff_toInt_le, Int32.reduceToInt, ← Int32.toInt_inj] at h_5348
              refine v_aload_n hC dX12_reads_34 rfl ?_
              refine v_iload_n hC dX12_reads_35 rfl ?_
              refine v_iload hC dX12_reads_36 rfl ?_
              refine v_iload hC dX12_reads_38 rfl ?_
              obtain ⟨v_5431, h_5432⟩ : ∃ v9 : Int32, i_4119 + i_5339 = v9 := ⟨_, rfl⟩
              refine v_iadd hC dX12_reads_40 h_5432 ?_
              have h_5433 := add_v h_5432 (by first | omega | (simp only [Int32.lt_iff_toInt_lt, Int32.le_iff_toInt_le, Int32.reduceToInt, ← Int32.toInt_inj, true_and, and_true, or_true, true_or, false_or, or_false, false_and, and_false, not_true_eq_false, not_false_eq_true] <;> omega)) (by first | omega | (simp only [Int32.lt_iff_toInt_lt, Int32.le_iff_toInt_le, Int32.reduceToInt, ← Int32.toInt_inj, true_and, and_true, or_true, true_or, false_or, or_false, false_and, and_false, not_true_eq_false, not_false_eq_true] <;> omega))
              refine v_vi hC (rest := []) m_1 hf_4125 rfl mi_X12_bitOf ms_X12_bitOf (p_X12_bitOf hW_4122 k_0 (by first | omega | (simp only [Int32.lt_iff_toInt_lt, Int32.le_iff_toInt_le, Int32.reduceToInt, ← Int32.toInt_inj, true_and, and_true, or_true, true_or, false_or, or_false, false_and, and_false, not_true_eq_false, not_false_eq_true] <;> omega)) (by first | omega | (simp only [Int32.lt_iff_toInt_lt, Int32.le_iff_toInt_le, Int32.reduceToInt, ← Int32.toInt_inj, true_and, and_true, or_true, true_or, false_or, or_false, false_and, and_false, not_true_eq_false, not_false_eq_true] <;> omega)) hf_4124 o_w (by first | omega | (simp only [Int32.lt_iff_toInt_lt, Int32.le_iff_toInt_le, Int32.reduceToInt, ← Int32.toInt_inj, true_and, and_true, or_true, true_or, false_or, or_false, false_and, and_false, not_true_eq_false, not_false_eq_true] <;> omega)) (x_51 _ (by omega) (by omega))) mx_X12_bitOf ml_X12_370 (by decide) rfl (cells1 := 0) (slots1 := 0) (by decide) (by decide) (Nat.le_of_ble_eq_true rfl) (Nat.le_of_ble_eq_true rfl) rfl (Nat.le_of_ble_eq_true rfl) dX12_reads_41 (fun r_5434 L_5435 f_5436 h_5437 => ?_)
              obtain ⟨rfl, rfl, b_5438⟩ := h_5437
              refine v_istore hC dX12_reads_44 (by decide) (lv' := [(8, .int r_5434), (7, .int i_5339), (6, .int i_5340), (5, .int i_5341), (4, .int i_4119), (3, .int i_4120), (2, .int r_46), (0, .ref a_0), (1, .int a_1)]) rfl ?_
              refine v_iload hC dX12_reads_46 rfl ?_
              refine v_if_eq hC dX12_reads_48 (tgt := 61) (by decide) (fun h_5441 => ?_) (fun h_5441 => ?_)
              · simp only [Int32.lt_iff_toInt_lt, Int32.le_iff_toInt_le, Int32.reduceToInt, ← Int32.toInt_inj] at h_5441
                refine v_iconst hC dX12_reads_61 (v := 0) (by decide) ?_
                refine v_istore hC dX12_reads_62 (by decide) (lv' := [(6, .int 0), (8, .int r_5434), (7, .int i_5339), (5, .int i_5341), (4, .int i_4119), (3, .int i_4120), (2, .int r_46), (0, .ref a_0), (1, .int a_1)]) rfl ?_
                refine v_iconst hC dX12_reads_64 (v := 2) (by decide) ?_
                refine v_iload hC dX12_reads_65 rfl ?_
                obtain ⟨v_5442, h_5443⟩ : ∃ v9 : Int32, (2 : Int32) * i_5341 = v9 := ⟨_, rfl⟩
                refine v_imul hC dX12_reads_67 h_5443 ?_
                refine v_iload hC dX12_reads_68 rfl ?_
                obtain ⟨v_5445, h_5446⟩ : ∃ v9 : Int32, v_5442 + r_5434 = v9 := ⟨_, rfl⟩
                refine v_iadd hC dX12_reads_70 h_5446 ?_
                refine v_istore hC dX12_reads_71 (by decide) (lv' := [(5, .int v_5445), (6, .int 0), (8, .int r_5434), (7, .int i_5339), (4, .int i_4119), (3, .int i_4120), (2, .int r_46), (0, .ref a_0), (1, .int a_1)]) rfl ?_
                obtain ⟨v_5448, h_5449⟩ : ∃ v9 : Int32, i_5339 + Int32.ofInt 1 = v9 := ⟨_, rfl⟩
                have h_5450 := add_v (b := 1) h_5449 (by first | omega | (simp only [Int32.lt_iff_toInt_lt, Int32.le_iff_toInt_le, Int32.reduceToInt, ← Int32.toInt_inj, true_and, and_true, or_true, true_or, false_or, or_false, false_and, and_false, not_true_eq_false, not_false_eq_true] <;> omega)) (by first | omega | (simp only [Int32.lt_iff_toInt_lt, Int32.le_iff_toInt_le, Int32.reduceToInt, ← Int32.toInt_inj, true_and, and_true, or_true, true_or, false_or, or_false, false_and, and_false, not_true_eq_false, not_false_eq_true] <;> omega))
                simp only [Int32.reduceToInt] at h_5450
                refine v_iinc hC dX12_reads_73 (k := 3) rfl (v := v_5448) h_5449 (by decide) (lv' := [(7, .int v_5448), (5, .int v_5445), (6, .int 0), (8, .int r_5434), (4, .int i_4119), (3, .int i_4120), (2, .int r_46), (0, .ref a_0), (1, .int a_1)]) rfl ?_
                refine v_goto hC dX12_reads_76 (tgt := 28) (by decide) ?_
                refine v_pick [0, 2, 1, 4, 5, 6, 7, 8] rfl ?_
                exact ih_5346 v_5448 (by first | omega | (simp only [Int32.lt_iff_toInt_lt, Int32.le_iff_toInt_le, Int32.reduceToInt, ← Int32.toInt_inj, true_and, and_true, or_true, true_or, false_or, or_false, false_and, and_false, not_true_eq_false, not_false_eq_true] <;> omega)) 0 (by decide) v_5445 (by first | omega | (simp only [Int32.lt_iff_toInt_lt, Int32.le_iff_toInt_le, Int32.reduceToInt, ← Int32.toInt_inj, true_and, and_true, or_true, true_or, false_or, or_false, false_and, and_false, not_true_eq_false, not_false_eq_true] <;> omega))
              · simp only [Int32.lt_iff_toInt_lt, Int32.le_iff_toInt_le, Int32.reduceToInt, ← Int32.toInt_inj] at h_5441
                refine v_iload hC dX12_reads_51 rfl ?_
                refine v_iconst hC dX12_reads_53 (v := 2) (by decide) ?_
                refine v_icmp_ge hC dX12_reads_54 (tgt := 61) (by decide) (fun h_5451 => ?_) (fun h_5451 => ?_)
                · simp only [Int32.lt_iff_toInt_lt, Int32.le_iff_toInt_le, Int32.reduceToInt, ← Int32.toInt_inj] at h_5451
                  refine v_iconst hC dX12_reads_61 (v := 0) (by decide) ?_
                  refine v_istore hC dX12_reads_62 (by decide) (lv' := [(6, .int 0), (8, .int r_5434), (7, .int i_5339), (5, .int i_5341), (4, .int i_4119), (3, .int i_4120), (2, .int r_46), (0, .ref a_0), (1, .int a_1)]) rfl ?_
                  refine v_iconst hC dX12_reads_64 (v := 2) (by decide) ?_
                  refine v_iload hC dX12_reads_65 rfl ?_
                  obtain ⟨v_5452, h_5453⟩ : ∃ v9 : Int32, (2 : Int32) * i_5341 = v9 := ⟨_, rfl⟩
                  refine v_imul hC dX12_reads_67 h_5453 ?_
                  refine v_iload hC dX12_reads_68 rfl ?_
                  obtain ⟨v_5455, h_5456⟩ : ∃ v9 : Int32, v_5452 + r_5434 = v9 := ⟨_, rfl⟩
                  refine v_iadd hC dX12_reads_70 h_5456 ?_
                  refine v_istore hC dX12_reads_71 (by decide) (lv' := [(5, .int v_5455), (6, .int 0), (8, .int r_5434), (7, .int i_5339), (4, .int i_4119), (3, .int i_4120), (2, .int r_46), (0, .ref a_0), (1, .int a_1)]) rfl ?_
                  obtain ⟨v_5458, h_5459⟩ : ∃ v9 : Int32, i_5339 + Int32.ofInt 1 = v9 := ⟨_, rfl⟩
                  have h_5460 := add_v (b := 1) h_5459 (by first | omega | (simp only [Int32.lt_iff_toInt_lt, Int32.le_iff_toInt_le, Int32.reduceToInt, ← Int32.toInt_inj, true_and, and_true, or_true, true_or, false_or, or_false, false_and, and_false, not_true_eq_false, not_false_eq_true] <;> omega)) (by first | omega | (simp only [Int32.lt_iff_toInt_lt, Int32.le_iff_toInt_le, Int32.reduceToInt, ← Int32.toInt_inj, true_and, and_true, or_true, true_or, false_or, or_false, false_and, and_false, not_true_eq_false, not_false_eq_true] <;> omega))
                  simp only [Int32.reduceToInt] at h_5460
                  refine v_iinc hC dX12_reads_73 (k := 3) rfl (v := v_5458) h_5459 (by decide) (lv' := [(7, .int v_5458), (5, .int v_5455), (6, .int 0), (8, .int r_5434), (4, .int i_4119), (3, .int i_4120), (2, .int r_46), (0, .ref a_0), (1, .int a_1)]) rfl ?_
                  refine v_goto hC dX12_reads_76 (tgt := 28) (by decide) ?_
                  refine v_pick [0, 2, 1, 4, 5, 6, 7, 8] rfl ?_
                  exact ih_5346 v_5458 (by first | omega | (simp only [Int32.lt_iff_toInt_lt, Int32.le_iff_toInt_le, Int32.reduceToInt, ← Int32.toInt_inj, true_and, and_true, or_true, true_or, false_or, or_false, false_and, and_false, not_true_eq_false, not_false_eq_true] <;> omega)) 0 (by decide) v_5455 (by first | omega | (simp only [Int32.lt_iff_toInt_lt, Int32.le_iff_toInt_le, Int32.reduceToInt, ← Int32.toInt_inj, true_and, and_true, or_true, true_or, false_or, or_false, false_and, and_false, not_true_eq_false, not_false_eq_true] <;> omega))
                · simp only [Int32.lt_iff_toInt_lt, Int32.le_iff_toInt_le, Int32.reduceToInt, ← Int32.toInt_inj] at h_5451
                  refine v_iconst hC dX12_reads_57 (v := 1) (by decide) ?_
                  refine v_goto hC dX12_reads_58 (tgt := 62) (by decide) ?_
                  refine v_istore hC dX12_reads_62 (by decide) (lv' := [(6, .int 1), (8, .int r_5434), (7, .int i_5339), (5, .int i_5341), (4, .int i_4119), (3, .int i_4120), (2, .int r_46), (0, .ref a_0), (1, .int a_1)]) rfl ?_
                  refine v_iconst hC dX12_reads_64 (v := 2) (by decide) ?_
                  refine v_iload hC dX12_reads_65 rfl ?_
                  obtain ⟨v_5461, h_5462⟩ : ∃ v9 : Int32, (2 : Int32) * i_5341 = v9 := ⟨_, rfl⟩
                  refine v_imul hC dX12_reads_67 h_5462 ?_
                  refine v_iload hC dX12_reads_68 rfl ?_
                  obtain ⟨v_5464, h_5465⟩ : ∃ v9 : Int32, v_5461 + r_5434 = v9 := ⟨_, rfl⟩
                  refine v_iadd hC dX12_reads_70 h_5465 ?_
                  refine v_istore hC dX12_reads_71 (by decide) (lv' := [(5, .int v_5464), (6, .int 1), (8, .int r_5434), (7, .int i_5339), (4, .int i_4119), (3, .int i_4120), (2, .int r_46), (0, .ref a_0), (1, .int a_1)]) rfl ?_
                  obtain ⟨v_5467, h_5468⟩ : ∃ v9 : Int32, i_5339 + Int32.ofInt 1 = v9 := ⟨_, rfl⟩
                  have h_5469 := add_v (b := 1) h_5468 (by first | omega | (simp only [Int32.lt_iff_toInt_lt, Int32.le_iff_toInt_le, Int32.reduceToInt, ← Int32.toInt_inj, true_and, and_true, or_true, true_or, false_or, or_false, false_and, and_false, not_true_eq_false, not_false_eq_true] <;> omega)) (by first | omega | (simp only [Int32.lt_iff_toInt_lt, Int32.le_iff_toInt_le, Int32.reduceToInt, ← Int32.toInt_inj, true_and, and_true, or_true, true_or, false_or, or_false, false_and, and_false, not_true_eq_false, not_false_eq_true] <;> omega))
                  simp only [Int32.reduceToInt] at h_5469
                  refine v_iinc hC dX12_reads_73 (k := 3) rfl (v := v_5467) h_5468 (by decide) (lv' := [(7, .int v_5467), (5, .int v_5464), (6, .int 1), (8, .int r_5434), (4, .int i_4119), (3, .int i_4120), (2, .int r_46), (0, .ref a_0), (1, .int a_1)]) rfl ?_
                  refine v_goto hC dX12_reads_76 (tgt := 28) (by decide) ?_
                  refine v_pick [0, 2, 1, 4, 5, 6, 7, 8] rfl ?_
                  exact ih_5346 v_5467 (by first | omega | (simp only [Int32.lt_iff_toInt_lt, Int32.le_iff_toInt_le, Int32.reduceToInt, ← Int32.toInt_inj, true_and, and_true, or_true, true_or, false_or, or_false, false_and, and_false, not_true_eq_false, not_false_eq_true] <;> omega)) 1 (by decide) v_5464 (by first | omega | (simp only [Int32.lt_iff_toInt_lt, Int32.le_iff_toInt_le, Int32.reduceToInt, ← Int32.toInt_inj, true_and, and_true, or_true, true_or, false_or, or_false, false_and, and_false, not_true_eq_false, not_false_eq_true] <;> omega))
        refine v_pick [0, 1, 2, 3, 4, 5, 6, 7] rfl ?_
        exact lp_5344 7 0 (by decide) 1 (by decide) 0 (by decide)
  refine v_pick [0, 1, 2, 3, 4] rfl ?_
  exact lp_4129 258 f_48 hW_54 FR.rf 0 (by decide) 0 (by decide) (by first | omega | (simp only [Int32.lt_iff_toInt_lt, Int32.le_iff_toInt_le, Int32.reduceToInt, ← Int32.toInt_inj, true_and, and_true, or_true, true_or, false_or, or_false, false_and, and_false, not_true_eq_false, not_false_eq_true] <;> omega)) (by decide)
set_option maxRecDepth 100000 in
set_option maxHeartbeats 8000000 in
theorem p_X12_read {l : Launch} {E : Ez} {L : List Nat} {f : Nat → va_E} {T : Nat → va_E → Prop} {a_0 : Nat} {a_1 : Int32} {a_2 : Int32} {q : Nat → Nat} {g_w : Nat → Int32} (hW : WT T L f) (k_0 : isM T L E a_0 q) (e_w : f (q 1) = aI E 2076 g_w) (o_w : WOK g_w) : CI l yX12_read cX12_read 6 .int 5 0 0 E [.ref a_0, .int a_1, .int a_2] L f (fun r L1 f1 => L = L1 ∧ WT T L f1 ∧ FR [12, 200, 356] f f1 ∧ ((-6) ≤ r.toInt ∧ r.toInt ≤ 52) ∧ (¬ r.toInt = 0 ∨ (0 ≤ a_1.toInt ∧ a_1.toInt ≤ 3)) ∧ (¬ r.toInt = 0 ∨ (0 ≤ a_2.toInt ∧ a_2.toInt ≤ 5))) := by
  refine ci_of (by decide) (Nat.le_of_ble_eq_true rfl) (fun z hz hnm hC hR => ?_)
  have hC : Cx z E cX12_read RX12 6 5 0 0 := hC
  subst hz
  show V z E 6 0 0 L f 0 [(0, .ref a_0), (1, .int a_1), (2, .int a_2)] []
  obtain ⟨m_1, t_2, nq_21, k_3, k_4, k_5, k_6, k_7, k_8, k_9, k_10, k_11, k_12, k_13, k_14, k_15, k_16, k_17, k_18, k_19, k_20⟩ := id k_0
  obtain ⟨m_22, t_23⟩ := id k_3
  have b_24 := o_w.r0
  have b_25 := o_w.w0
  refine v_aload_n hC dX12_read_0 rfl ?_
  refine v_iload_n hC dX12_read_1 rfl ?_
  refine v_iload_n hC dX12_read_2 rfl ?_
  obtain ⟨v_27, v_28, v_30, v_32, v_34, v_36, v_38, v_39, v_40, v_41, v_43, e_26, b_29, b_31, b_33, b_35, b_37, b_42, b_44⟩ := hW.at m_1 t_2
  refine v_vi hC (rest := []) m_1 e_26 rfl mi_X12_asks ms_X12_asks (p_X12_asks hW k_0 e_w o_w) mx_X12_asks ml_X12_357 (by decide) rfl (cells1 := 0) (slots1 := 0) (by decide) (by decide) (Nat.le_of_ble_eq_true rfl) (Nat.le_of_ble_eq_true rfl) rfl (Nat.le_of_ble_eq_true rfl) dX12_read_3 (fun r_45 L_46 f_47 h_48 => ?_)
  obtain ⟨rfl, rfl, b_49, h_50, h_51, x_52⟩ := h_48
  try simp only [Int32.reduceToInt, Int64.reduceToInt] at x_52
  refine v_istore_n hC dX12_read_6 (by decide) (lv' := [(3, .int r_45), (0, .ref a_0), (1, .int a_1), (2, .int a_2)]) rfl ?_
  refine v_iload_n hC dX12_read_7 rfl ?_
  refine v_if_ge hC dX12_read_8 (tgt := 13) (by decide) (fun h_55 => ?_) (fun h_55 => ?_)
  · simp only [Int32.lt_iff_toInt_lt, Int32.le_iff_toInt_le, Int32.reduceToInt, ← Int32.toInt_inj] at h_55
    refine v_aload_n hC dX12_read_13 rfl ?_
    refine v_iload_n hC dX12_read_14 rfl ?_
    refine v_vv hC (rest := []) m_1 e_26 rfl mi_X12_takes0 ms_X12_takes0 (p_X12_takes0 hW k_0 (by first | omega | (simp only [Int32.lt_iff_toInt_lt, Int32.le_iff_toInt_le, Int32.reduceToInt, ← Int32.toInt_inj, true_and, and_true, or_true, true_or, false_or, or_false, false_and, and_false, not_true_eq_false, not_false_eq_true] <;> omega)) e_w o_w) mx_X12_takes0 ml_X12_363 (by decide) rfl (cells1 := 0) (slots1 := 0) (by decide) (by decide) (Nat.le_of_ble_eq_true rfl) (Nat.le_of_ble_eq_true rfl) rfl (Nat.le_of_ble_eq_true rfl) dX12_read_15 (fun L_57 f_58 h_59 => ?_)
    obtain ⟨rfl, hW_60, hF_61⟩ := h_59
    have hf_62 := hF_61.at e_w rfl
    have hf_63 := hF_61.at e_26 rfl
    refine v_aload_n hC dX12_read_18 rfl ?_
    refine v_iload_n hC dX12_read_19 rfl ?_
    refine v_vi hC (rest := []) m_1 hf_63 rfl mi_X12_reads ms_X12_reads (p_X12_reads hW_60 k_0 (by first | omega | (simp only [Int32.lt_iff_toInt_lt, Int32.le_iff_toInt_le, Int32.reduceToInt, ← Int32.toInt_inj, true_and, and_true, or_true, true_or, false_or, or_false, false_and, and_false, not_true_eq_false, not_false_eq_true] <;> omega)) hf_62 o_w (by first | omega | (simp only [Int32.lt_iff_toInt_lt, Int32.le_iff_toInt_le, Int32.reduceToInt, ← Int32.toInt_inj, true_and, and_true, or_true, true_or, false_or, or_false, false_and, and_false, not_true_eq_false, not_false_eq_true] <;> omega))) mx_X12_reads ml_X12_373 (by decide) rfl (cells1 := 0) (slots1 := 0) (by decide) (by decide) (Nat.le_of_ble_eq_true rfl) (Nat.le_of_ble_eq_true rfl) rfl (Nat.le_of_ble_eq_true rfl) dX12_read_20 (fun r_64 L_65 f_66 h_67 => ?_)
    obtain ⟨rfl, hW_70, hF_71, b_68, x_69⟩ := h_67
    have fe_72 : fld (f_58 a_0) 20 = (v_43 : Int32).toInt := by rw [hf_63]; rfl
    have hf_73 := hF_71.at hf_62 rfl
    obtain ⟨v_75, v_76, v_78, v_80, v_82, v_84, v_86, v_87, v_88, v_89, v_91, e_74, b_77, b_79, b_81, b_83, b_85, b_90, b_92⟩ := hW_70.at m_1 t_2
    have fe_93 : fld (f_66 a_0) 20 = (v_91 : Int32).toInt := by rw [e_74]; rfl
    rw [fe_93, fe_72] at x_69
    clear fe_72 fe_93
    try simp only [Int32.reduceToInt, Int64.reduceToInt] at x_69
    refine v_istore hC dX12_read_23 (by decide) (lv' := [(4, .int r_64), (3, .int r_45), (0, .ref a_0), (1, .int a_1), (2, .int a_2)]) rfl ?_
    refine v_iload hC dX12_read_25 rfl ?_
    refine v_iconst hC dX12_read_27 (v := (-1)) (by decide) ?_
    refine v_icmp_ne hC dX12_read_28 (tgt := 33) (by decide) (fun h_94 => ?_) (fun h_94 => ?_)
    · simp only [Int32.lt_iff_toInt_lt, Int32.le_iff_toInt_le, Int32.reduceToInt, ← Int32.toInt_inj] at h_94
      refine v_aload_n hC dX12_read_33 rfl ?_
      refine v_iload hC dX12_read_34 rfl ?_
      refine v_put hC fl_X12_49 m_1 e_74 rfl rfl (Nat.le_of_ble_eq_true rfl) (fs' := [.int v_75, .ref (q 1), .ref (q 2), .ref (q 3), .ref (q 4), .int v_76, .ref (q 6), .int v_78, .int v_80, .int v_82, .int v_84, .int v_86, .int v_87, .int v_88, .ref (q 14), .ref (q 15), .ref (q 16), .int v_89, .ref (q 18), .ref (q 19), .int r_64, .ref (q 21), .ref (q 22), .ref (q 23), .ref (q 24), .ref (q 25), .ref (q 26), .ref (q 27), .ref (q 28)]) rfl dX12_read_36 (fun f_95 hf_96 hk_97 => ?_)
      have hW_98 := hW_70.up hf_96 hk_97 t_2 ⟨v_75, v_76, v_78, v_80, v_82, v_84, v_86, v_87, v_88, v_89, r_64, rfl, (by first | omega | (simp only [Int32.lt_iff_toInt_lt, Int32.le_iff_toInt_le, Int32.reduceToInt, ← Int32.toInt_inj, true_and, and_true, or_true, true_or, false_or, or_false, false_and, and_false, not_true_eq_false, not_false_eq_true] <;> omega)), (by first | omega | (simp only [Int32.lt_iff_toInt_lt, Int32.le_iff_toInt_le, Int32.reduceToInt, ← Int32.toInt_inj, true_and, and_true, or_true, true_or, false_or, or_false, false_and, and_false, not_true_eq_false, not_false_eq_true] <;> omega)), (by first | omega | (simp only [Int32.lt_iff_toInt_lt, Int32.le_iff_toInt_le, Int32.reduceToInt, ← Int32.toInt_inj, true_and, and_true, or_true, true_or, false_or, or_false, false_and, and_false, not_true_eq_false, not_false_eq_true] <;> omega)), (by first | omega | (simp only [Int32.lt_iff_toInt_lt, Int32.le_iff_toInt_le, Int32.reduceToInt, ← Int32.toInt_inj, true_and, and_true, or_true, true_or, false_or, or_false, false_and, and_false, not_true_eq_false, not_false_eq_true] <;> omega)), (by first | omega | (simp only [Int32.lt_iff_toInt_lt, Int32.le_iff_toInt_le, Int32.reduceToInt, ← Int32.toInt_inj, true_and, and_true, or_true, true_or, false_or, or_false, false_and, and_false, not_true_eq_false, not_false_eq_true] <;> omega)), (by first | omega | (simp only [Int32.lt_iff_toInt_lt, Int32.le_iff_toInt_le, Int32.reduceToInt, ← Int32.toInt_inj, true_and, and_true, or_true, true_or, false_or, or_false, false_and, and_false, not_true_eq_false, not_false_eq_true] <;> omega)), (by first | omega | (simp only [Int32.lt_iff_toInt_lt, Int32.le_iff_toInt_le, Int32.reduceToInt, ← Int32.toInt_inj, true_and, and_true, or_true, true_or, false_or, or_false, false_and, and_false, not_true_eq_false, not_false_eq_true] <;> omega))⟩
      have hf_99 := (hk_97 (q 1) (ne_kd hf_73 e_74 rfl)).trans hf_73
      have fr_100 := FR.w hk_97 e_74 (k := 12) rfl
      refine v_iconst hC dX12_read_39 (v := 0) (by decide) ?_
      refine v_istore hC dX12_read_40 (by decide) (lv' := [(5, .int 0), (4, .int r_64), (3, .int r_45), (0, .ref a_0), (1, .int a_1), (2, .int a_2)]) rfl ?_
      have lp_222 : ∀ (n_223 : Nat) (f_216 : Nat → va_E) (hW_217 : WT T L f_216) (hF_218 : FR [200] f_95 f_216) (i_215 : Int32) (b_221 : (0 ≤ i_215.toInt ∧ i_215.toInt ≤ 52)) (hm_225 : 52 - i_215.toInt < (n_223 : Int)), V z E 6 0 0 L f_216 42 [(5, .int i_215), (4, .int r_64), (0, .ref a_0)] [] := by
        intro n_223
        induction n_223 with
        | zero =>
          intro f_216 hW_217 hF_218 i_215 b_221 hm_225
          have hf_219 := hF_218.at hf_99 rfl
          have hf_220 := hF_218.at hf_96 rfl
          exfalso; omega
        | succ n_223 ih_224 =>
          intro f_216 hW_217 hF_218 i_215 b_221 hm_225
          have hf_219 := hF_218.at hf_99 rfl
          have hf_220 := hF_218.at hf_96 rfl
          refine v_iload hC dX12_read_42 rfl ?_
          refine v_iload hC dX12_read_44 rfl ?_
          refine v_icmp_ge hC dX12_read_46 (tgt := 69) (by decide) (fun h_226 => ?_) (fun h_226 => ?_)
          · simp only [Int32.lt_iff_toInt_lt, Int32.le_iff_toInt_le, Int32.reduceToInt, ← Int32.toInt_inj] at h_226
            refine v_iload hC dX12_read_69 rfl ?_
            exact hR _ _ _ _ _ _ _ dX12_read_71 rfl (Nat.le_of_ble_eq_true rfl) (Nat.le_of_ble_eq_true rfl) ⟨rfl, hW_217, ((((hF_61.tr hF_71).tr fr_100).tr hF_218).mono rfl), (by first | omega | (simp only [Int32.lt_iff_toInt_lt, Int32.le_iff_toInt_le, Int32.reduceToInt, ← Int32.toInt_inj, true_and, and_true, or_true, true_or, false_or, or_false, false_and, and_false, not_true_eq_false, not_false_eq_true] <;> omega)), (.inr (by first | omega | (simp only [Int32.lt_iff_toInt_lt, Int32.le_iff_toInt_le, Int32.reduceToInt, ← Int32.toInt_inj, true_and, and_true, or_true, true_or, false_or, or_false, false_and, and_false, not_true_eq_false, not_false_eq_true] <;> omega))), (.inr (by first | omega | (simp only [Int32.lt_iff_toInt_lt, Int32.le_iff_toInt_le, Int32.reduceToInt, ← Int32.toInt_inj, true_and, and_true, or_true, true_or, false_or, or_false, false_and, and_false, not_true_eq_false, not_false_eq_true] <;> omega)))⟩
          · simp only [Int32.lt_iff_toInt_lt, Int32.le_iff_toInt_le, Int32.reduceToInt, ← Int32.toInt_inj] at h_226
            refine v_aload_n hC dX12_read_49 rfl ?_
            refine v_get hC fl_X12_46 m_1 hf_220 rfl dX12_read_50 ?_
            refine v_iload hC dX12_read_53 rfl ?_
            refine v_aload_n hC dX12_read_55 rfl ?_
            refine v_get hC fl_X12_52 m_1 hf_220 rfl dX12_read_56 ?_
            refine v_iload hC dX12_read_59 rfl ?_
            obtain ⟨m_227, t_228⟩ := id k_13
            obtain ⟨g_230, e_229⟩ := hW_217.at m_227 t_228
            obtain ⟨v_231, h_232⟩ : ∃ v9 : Int32, g_230 (i_215 : Int32).toNatClampNeg = v9 := ⟨_, rfl⟩
            refine v_iald hC m_227 e_229 (vp_in_iff.mpr (by first | omega | (simp only [Int32.lt_iff_toInt_lt, Int32.le_iff_toInt_le, Int32.reduceToInt, ← Int32.toInt_inj, true_and, and_true, or_true, true_or, false_or, or_false, false_and, and_false, not_true_eq_false, not_false_eq_true] <;> omega))) h_232 dX12_read_61 ?_
            obtain ⟨m_233, t_234⟩ := id k_12
            obtain ⟨g_236, e_235⟩ := hW_217.at m_233 t_234
            refine v_iast hC m_233 e_235 (vp_in_iff.mpr (by first | omega | (simp only [Int32.lt_iff_toInt_lt, Int32.le_iff_toInt_le, Int32.reduceToInt, ← Int32.toInt_inj, true_and, and_true, or_true, true_or, false_or, or_false, false_and, and_false, not_true_eq_false, not_false_eq_true] <;> omega))) dX12_read_62 (fun f_237 hf_238 hk_239 => ?_)
            have hW_241 := hW_217.up hf_238 hk_239 t_234 ⟨_, rfl⟩
            obtain ⟨g_240, hf_238⟩ : ∃ g9, f_237 (q 19) = aI E 100 g9 := ⟨_, hf_238⟩
            have hf_242 := (hk_239 (q 1) (ne_kd hf_219 e_235 rfl)).trans hf_219
            have hf_243 := (hk_239 a_0 (ne_kd hf_220 e_235 rfl)).trans hf_220
            have fr_244 := FR.w hk_239 e_235 (k := 200) rfl
            obtain ⟨v_245, h_246⟩ : ∃ v9 : Int32, i_215 + Int32.ofInt 1 = v9 := ⟨_, rfl⟩
            have h_247 := add_v (b := 1) h_246 (by first | omega | (simp only [Int32.lt_iff_toInt_lt, Int32.le_iff_toInt_le, Int32.reduceToInt, ← Int32.toInt_inj, true_and, and_true, or_true, true_or, false_or, or_false, false_and, and_false, not_true_eq_false, not_false_eq_true] <;> omega)) (by first | omega | (simp only [Int32.lt_iff_toInt_lt, Int32.le_iff_toInt_le, Int32.reduceToInt, ← Int32.toInt_inj, true_and, and_true, or_true, true_or, false_or, or_false, false_and, and_false, not_true_eq_false, not_false_eq_true] <;> omega))
            simp only [Int32.reduceToInt] at h_247
            refine v_iinc hC dX12_read_63 (k := 0) rfl (v := v_245) h_246 (by decide) (lv' := [(5, .int v_245), (4, .int r_64), (0, .ref a_0)]) rfl ?_
            refine v_goto hC dX12_read_66 (tgt := 42) (by decide) ?_
            refine v_pick [0, 1, 2] rfl ?_
            exact ih_224 f_237 hW_241 ((hF_218.tr fr_244).mono rfl) v_245 (by first | omega | (simp only [Int32.lt_iff_toInt_lt, Int32.le_iff_toInt_le, Int32.reduceToInt, ← Int32.toInt_inj, true_and, and_true, or_true, true_or, false_or, or_false, false_and, and_false, not_true_eq_false, not_false_eq_true] <;> omega)) (by first | omega | (simp only [Int32.lt_iff_toInt_lt, Int32.le_iff_toInt_le, Int32.reduceToInt, ← Int32.toInt_inj, true_and, and_true, or_true, true_or, false_or, or_false, false_and, and_false, not_true_eq_false, not_false_eq_true] <;> omega))
      refine v_pick [0, 1, 3] rfl ?_
      exact lp_222 54 f_95 hW_98 FR.rf 0 (by decide) (by decide)
    · simp only [Int32.lt_iff_toInt_lt, Int32.le_iff_toInt_le, Int32.reduceToInt, ← Int32.toInt_inj] at h_94
      refine v_iconst hC dX12_read_31 (v := (-1)) (by decide) ?_
      exact hR _ _ _ _ _ _ _ dX12_read_32 rfl (Nat.le_of_ble_eq_true rfl) (Nat.le_of_ble_eq_true rfl) ⟨rfl, hW_70, ((hF_61.tr hF_71).mono rfl), (by decide), (.inl (by decide)), (.inl (by decide))⟩
  · simp only [Int32.lt_iff_toInt_lt, Int32.le_iff_toInt_le, Int32.reduceToInt, ← Int32.toInt_inj] at h_55
    refine v_iload_n hC dX12_read_11 rfl ?_
    exact hR _ _ _ _ _ _ _ dX12_read_12 rfl (Nat.le_of_ble_eq_true rfl) (Nat.le_of_ble_eq_true rfl) ⟨rfl, hW, FR.rf, (by first | omega | (simp only [Int32.lt_iff_toInt_lt, Int32.le_iff_toInt_le, Int32.reduceToInt, ← Int32.toInt_inj, true_and, and_true, or_true, true_or, false_or, or_false, false_and, and_false, not_true_eq_false, not_false_eq_true] <;> omega)), (by first | omega | (simp only [Int32.lt_iff_toInt_lt, Int32.le_iff_toInt_le, Int32.reduceToInt, ← Int32.toInt_inj, true_and, and_true, or_true, true_or, false_or, or_false, false_and, and_false, not_true_eq_false, not_false_eq_true] <;> omega)), (by first | omega | (simp only [Int32.lt_iff_toInt_lt, Int32.le_iff_toInt_le, Int32.reduceToInt, ← Int32.toInt_inj, true_and, and_true, or_true, true_or, false_or, or_false, false_and, and_false, not_true_eq_false, not_false_eq_true] <;> omega))⟩
