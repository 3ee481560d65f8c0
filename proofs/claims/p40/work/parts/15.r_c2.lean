set_option maxRecDepth 100000 in
set_option maxHeartbeats 8000000 in
theorem p_X12_signOf {l : Launch} {E : Ez} {L : List Nat} {f : Nat → va_E} {T : Nat → va_E → Prop} {a_0 : Int32} (hW : WT T L f) : CI l yX12_signOf cX12_signOf 1 .int 0 0 0 E [.int a_0] L f (fun r L1 f1 => L = L1 ∧ f = f1 ∧ ((-1) ≤ r.toInt ∧ r.toInt ≤ 4) ∧ (¬ r.toInt = 0 ∨ (107 ≤ a_0.toInt ∧ a_0.toInt ≤ 107))) := by
  refine ci_of (by decide) (Nat.le_of_ble_eq_true rfl) (fun z hz hnm hC hR => ?_)
  have hC : Cx z E cX12_signOf RX12 1 0 0 0 := hC
  subst hz
  show V z E 1 0 0 L f 0 [(0, .int a_0)] []
  refine v_iload_n hC dX12_signOf_0 rfl ?_
  refine v_bipush hC dX12_signOf_1 (v := 107) (by decide) ?_
  refine v_icmp_ne hC dX12_signOf_3 (tgt := 10) (by decide) (fun h_1 => ?_) (fun h_1 => ?_)
  · simp only [Int32.lt_iff_toInt_lt, Int32.le_iff_toInt_le, Int32.reduceToInt, ← Int32.toInt_inj] at h_1
    refine v_iload_n hC dX12_signOf_10 rfl ?_
    refine v_bipush hC dX12_signOf_11 (v := 112) (by decide) ?_
    refine v_icmp_ne hC dX12_signOf_13 (tgt := 20) (by decide) (fun h_2 => ?_) (fun h_2 => ?_)
    · simp only [Int32.lt_iff_toInt_lt, Int32.le_iff_toInt_le, Int32.reduceToInt, ← Int32.toInt_inj] at h_2
      refine v_iload_n hC dX12_signOf_20 rfl ?_
      refine v_bipush hC dX12_signOf_21 (v := 102) (by decide) ?_
      refine v_icmp_ne hC dX12_signOf_23 (tgt := 30) (by decide) (fun h_3 => ?_) (fun h_3 => ?_)
      · simp only [Int32.lt_iff_toInt_lt, Int32.le_iff_toInt_le, Int32.reduceToInt, ← Int32.toInt_inj] at h_3
        refine v_iload_n hC dX12_signOf_30 rfl ?_
        refine v_bipush hC dX12_signOf_31 (v := 104) (by decide) ?_
        refine v_icmp_ne hC dX12_signOf_33 (tgt := 40) (by decide) (fun h_4 => ?_) (fun h_4 => ?_)
        · simp only [Int32.lt_iff_toInt_lt, Int32.le_iff_toInt_le, Int32.reduceToInt, ← Int32.toInt_inj] at h_4
          refine v_iload_n hC dX12_signOf_40 rfl ?_
          refine v_bipush hC dX12_signOf_41 (v := 109) (by decide) ?_
          refine v_icmp_ne hC dX12_signOf_43 (tgt := 50) (by decide) (fun h_5 => ?_) (fun h_5 => ?_)
          · simp only [Int32.lt_iff_toInt_lt, Int32.le_iff_toInt_le, Int32.reduceToInt, ← Int32.toInt_inj] at h_5
            refine v_iconst hC dX12_signOf_50 (v := (-1)) (by decide) ?_
            exact hR _ _ _ _ _ _ _ dX12_signOf_51 rfl (Nat.le_of_ble_eq_true rfl) (Nat.le_of_ble_eq_true rfl) ⟨rfl, rfl, (by decide), (.inl (by decide))⟩
          · simp only [Int32.lt_iff_toInt_lt, Int32.le_iff_toInt_le, Int32.reduceToInt, ← Int32.toInt_inj] at h_5
            refine v_iconst hC dX12_signOf_46 (v := 4) (by decide) ?_
            refine v_goto hC dX12_signOf_47 (tgt := 51) (by decide) ?_
            exact hR _ _ _ _ _ _ _ dX12_signOf_51 rfl (Nat.le_of_ble_eq_true rfl) (Nat.le_of_ble_eq_true rfl) ⟨rfl, rfl, (by decide), (.inl (by decide))⟩
        · simp only [Int32.lt_iff_toInt_lt, Int32.le_iff_toInt_le, Int32.reduceToInt, ← Int32.toInt_inj] at h_4
          refine v_iconst hC dX12_signOf_36 (v := 3) (by decide) ?_
          refine v_goto hC dX12_signOf_37 (tgt := 51) (by decide) ?_
          exact hR _ _ _ _ _ _ _ dX12_signOf_51 rfl (Nat.le_of_ble_eq_true rfl) (Nat.le_of_ble_eq_true rfl) ⟨rfl, rfl, (by decide), (.inl (by decide))⟩
      · simp only [Int32.lt_iff_toInt_lt, Int32.le_iff_toInt_le, Int32.reduceToInt, ← Int32.toInt_inj] at h_3
        refine v_iconst hC dX12_signOf_26 (v := 2) (by decide) ?_
        refine v_goto hC dX12_signOf_27 (tgt := 51) (by decide) ?_
        exact hR _ _ _ _ _ _ _ dX12_signOf_51 rfl (Nat.le_of_ble_eq_true rfl) (Nat.le_of_ble_eq_true rfl) ⟨rfl, rfl, (by decide), (.inl (by decide))⟩
    · simp only [Int32.lt_iff_toInt_lt, Int32.le_iff_toInt_le, Int32.reduceToInt, ← Int32.toInt_inj] at h_2
      refine v_iconst hC dX12_signOf_16 (v := 1) (by decide) ?_
      refine v_goto hC dX12_signOf_17 (tgt := 51) (by decide) ?_
      exact hR _ _ _ _ _ _ _ dX12_signOf_51 rfl (Nat.le_of_ble_eq_true rfl) (Nat.le_of_ble_eq_true rfl) ⟨rfl, rfl, (by decide), (.inl (by decide))⟩
  · simp only [Int32.lt_iff_toInt_lt, Int32.le_iff_toInt_le, Int32.reduceToInt, ← Int32.toInt_inj] at h_1
    refine v_iconst hC dX12_signOf_6 (v := 0) (by decide) ?_
    refine v_goto hC dX12_signOf_7 (tgt := 51) (by decide) ?_
    exact hR _ _ _ _ _ _ _ dX12_signOf_51 rfl (Nat.le_of_ble_eq_true rfl) (Nat.le_of_ble_eq_true rfl) ⟨rfl, rfl, (by decide), (.inr (by first | omega | (simp only [Int32.lt_iff_toInt_lt, Int32.le_iff_toInt_le, Int32.reduceToInt, ← Int32.toInt_inj, true_and, and_true, or_true, true_or, false_or, or_false, false_and, and_false, not_true_eq_false, not_false_eq_true] <;> omega)))⟩
set_option maxRecDepth 100000 in
set_option maxHeartbeats 8000000 in
theorem p_X12_sortsHere {l : Launch} {E : Ez} {L : List Nat} {f : Nat → va_E} {T : Nat → va_E → Prop} {a_0 : Nat} {q : Nat → Nat} {g_w : Nat → Int32} (hW : WT T L f) (k_0 : isM T L E a_0 q) (e_w : f (q 1) = aI E 2076 g_w) (o_w : WOK g_w) : CI l yX12_sortsHere cX12_sortsHere 4 .int 1 0 0 E [.ref a_0] L f (fun r L1 f1 => L = L1 ∧ f = f1) := by
  refine ci_of (by decide) (Nat.le_of_ble_eq_true rfl) (fun z hz hnm hC hR => ?_)
  have hC : Cx z E cX12_sortsHere RX12 4 1 0 0 := hC
  subst hz
  show V z E 4 0 0 L f 0 [(0, .ref a_0)] []
  obtain ⟨m_1, t_2, nq_21, k_3, k_4, k_5, k_6, k_7, k_8, k_9, k_10, k_11, k_12, k_13, k_14, k_15, k_16, k_17, k_18, k_19, k_20⟩ := id k_0
  obtain ⟨m_22, t_23⟩ := id k_3
  have b_24 := o_w.r0
  have b_25 := o_w.w0
  refine v_iconst hC dX12_sortsHere_0 (v := 0) (by decide) ?_
  refine v_istore_n hC dX12_sortsHere_1 (by decide) (lv' := [(1, .int 0), (0, .ref a_0)]) rfl ?_
  refine v_aload_n hC dX12_sortsHere_2 rfl ?_
  obtain ⟨v_27, v_28, v_30, v_32, v_34, v_36, v_38, v_39, v_40, v_41, v_43, e_26, b_29, b_31, b_33, b_35, b_37, b_42, b_44⟩ := hW.at m_1 t_2
  refine v_get hC fl_X12_120 m_1 e_26 rfl dX12_sortsHere_3 ?_
  refine v_iconst hC dX12_sortsHere_6 (v := 1) (by decide) ?_
  refine v_icmp_eq hC dX12_sortsHere_7 (tgt := 12) (by decide) (fun h_45 => ?_) (fun h_45 => ?_)
  · simp only [Int32.lt_iff_toInt_lt, Int32.le_iff_toInt_le, Int32.reduceToInt, ← Int32.toInt_inj] at h_45
    refine v_aload_n hC dX12_sortsHere_12 rfl ?_
    refine v_get hC fl_X12_117 m_1 e_26 rfl dX12_sortsHere_13 ?_
    refine v_istore_n hC dX12_sortsHere_16 (by decide) (lv' := [(2, .int v_34), (1, .int 0), (0, .ref a_0)]) rfl ?_
    have lp_272 : ∀ (n_273 : Nat) (i_269 : Int32) (b_271 : (0 ≤ i_269.toInt ∧ i_269.toInt ≤ 600)) (i_270 : Int32) (hm_275 : 600 - i_269.toInt < (n_273 : Int)), V z E 4 0 0 L f 17 [(2, .int i_269), (1, .int i_270), (0, .ref a_0)] [] := by
      intro n_273
      induction n_273 with
      | zero =>
        intro i_269 b_271 i_270 hm_275
        exfalso; omega
      | succ n_273 ih_274 =>
        intro i_269 b_271 i_270 hm_275
        refine v_iload_n hC dX12_sortsHere_17 rfl ?_
        refine v_aload_n hC dX12_sortsHere_18 rfl ?_
        refine v_get hC fl_X12_108 m_1 e_26 rfl dX12_sortsHere_19 ?_
        refine v_icmp_ge hC dX12_sortsHere_22 (tgt := 63) (by decide) (fun h_276 => ?_) (fun h_276 => ?_)
        · simp only [Int32.lt_iff_toInt_lt, Int32.le_iff_toInt_le, Int32.reduceToInt, ← Int32.toInt_inj] at h_276
          refine v_iload_n hC dX12_sortsHere_63 rfl ?_
          exact hR _ _ _ _ _ _ _ dX12_sortsHere_64 rfl (Nat.le_of_ble_eq_true rfl) (Nat.le_of_ble_eq_true rfl) ⟨rfl, rfl⟩
        · simp only [Int32.lt_iff_toInt_lt, Int32.le_iff_toInt_le, Int32.reduceToInt, ← Int32.toInt_inj] at h_276
          refine v_aload_n hC dX12_sortsHere_25 rfl ?_
          refine v_get hC fl_X12_24 m_1 e_26 rfl dX12_sortsHere_26 ?_
          refine v_iload_n hC dX12_sortsHere_29 rfl ?_
          obtain ⟨m_277, t_278⟩ := id k_6
          obtain ⟨g_280, e_279, fit_281⟩ := hW.at m_277 t_278
          obtain ⟨v_282, h_283⟩ : ∃ v9 : Int32, g_280 (i_269 : Int32).toNatClampNeg = v9 := ⟨_, rfl⟩
          refine v_bald hC m_277 e_279 (vp_in_iff.mpr (by first | omega | (simp only [Int32.lt_iff_toInt_lt, Int32.le_iff_toInt_le, Int32.reduceToInt, ← Int32.toInt_inj, true_and, and_true, or_true, true_or, false_or, or_false, false_and, and_false, not_true_eq_false, not_false_eq_true] <;> omega))) h_283 dX12_sortsHere_30 ?_
          refine v_si hC (rest := []) mt_X12_signOf (p_X12_signOf hW) mx_X12_signOf ml_X12_175 (by decide) rfl (cells1 := 0) (slots1 := 0) (by decide) (by decide) (Nat.le_of_ble_eq_true rfl) (Nat.le_of_ble_eq_true rfl) rfl (Nat.le_of_ble_eq_true rfl) dX12_sortsHere_31 (fun r_284 L_285 f_286 h_287 => ?_)
          obtain ⟨rfl, rfl, b_288, h_289⟩ := h_287
          refine v_istore_n hC dX12_sortsHere_34 (by decide) (lv' := [(3, .int r_284), (2, .int i_269), (1, .int i_270), (0, .ref a_0)]) rfl ?_
          refine v_iload_n hC dX12_sortsHere_35 rfl ?_
          refine v_iconst hC dX12_sortsHere_36 (v := 2) (by decide) ?_
          refine v_icmp_lt hC dX12_sortsHere_37 (tgt := 49) (by decide) (fun h_292 => ?_) (fun h_292 => ?_)
          · simp only [Int32.lt_iff_toInt_lt, Int32.le_iff_toInt_le, Int32.reduceToInt, ← Int32.toInt_inj] at h_292
            refine v_iconst hC dX12_sortsHere_49 (v := (-1)) (by decide) ?_
            exact hR _ _ _ _ _ _ _ dX12_sortsHere_50 rfl (Nat.le_of_ble_eq_true rfl) (Nat.le_of_ble_eq_true rfl) ⟨rfl, rfl⟩
          · simp only [Int32.lt_iff_toInt_lt, Int32.le_iff_toInt_le, Int32.reduceToInt, ← Int32.toInt_inj] at h_292
            refine v_iload_n hC dX12_sortsHere_40 rfl ?_
            refine v_iload_n hC dX12_sortsHere_41 rfl ?_
            obtain ⟨v_293, h_294⟩ : ∃ v9 : Int32, i_270 >>> (r_284 &&& 31) = v9 := ⟨_, rfl⟩
            refine v_ishr hC dX12_sortsHere_42 h_294 ?_
            refine v_iconst hC dX12_sortsHere_43 (v := 1) (by decide) ?_
            obtain ⟨v_296, h_297⟩ : ∃ v9 : Int32, v_293 &&& 1 = v9 := ⟨_, rfl⟩
            refine v_iand hC dX12_sortsHere_44 h_297 ?_
            have h_298 := and_v h_297 (by decide)
            try simp only [Int32.reduceToInt] at h_298
            refine v_iconst hC dX12_sortsHere_45 (v := 1) (by decide) ?_
            refine v_icmp_ne hC dX12_sortsHere_46 (tgt := 51) (by decide) (fun h_299 => ?_) (fun h_299 => ?_)
            · simp only [Int32.lt_iff_toInt_lt, Int32.le_iff_toInt_le, Int32.reduceToInt, ← Int32.toInt_inj] at h_299
              refine v_iload_n hC dX12_sortsHere_51 rfl ?_
              refine v_iconst hC dX12_sortsHere_52 (v := 1) (by decide) ?_
              refine v_iload_n hC dX12_sortsHere_53 rfl ?_
              obtain ⟨v_300, h_301⟩ : ∃ v9 : Int32, (1 : Int32) <<< (r_284 &&& 31) = v9 := ⟨_, rfl⟩
              refine v_ishl hC dX12_sortsHere_54 h_301 ?_
              obtain ⟨v_303, h_304⟩ : ∃ v9 : Int32, i_270 ||| v_300 = v9 := ⟨_, rfl⟩
              refine v_ior hC dX12_sortsHere_55 h_304 ?_
              refine v_istore_n hC dX12_sortsHere_56 (by decide) (lv' := [(1, .int v_303), (3, .int r_284), (2, .int i_269), (0, .ref a_0)]) rfl ?_
              obtain ⟨v_306, h_307⟩ : ∃ v9 : Int32, i_269 + Int32.ofInt 1 = v9 := ⟨_, rfl⟩
              have h_308 := add_v (b := 1) h_307 (by first | omega | (simp only [Int32.lt_iff_toInt_lt, Int32.le_iff_toInt_le, Int32.reduceToInt, ← Int32.toInt_inj, true_and, and_true, or_true, true_or, false_or, or_false, false_and, and_false, not_true_eq_false, not_false_eq_true] <;> omega)) (by first | omega | (simp only [Int32.lt_iff_toInt_lt, Int32.le_iff_toInt_le, Int32.reduceToInt, ← Int32.toInt_inj, true_and, and_true, or_true, true_or, false_or, or_false, false_and, and_false, not_true_eq_false, not_false_eq_true] <;> omega))
              simp only [Int32.reduceToInt] at h_308
              refine v_iinc hC dX12_sortsHere_57 (k := 2) rfl (v := v_306) h_307 (by decide) (lv' := [(2, .int v_306), (1, .int v_303), (3, .int r_284), (0, .ref a_0)]) rfl ?_
              refine v_goto hC dX12_sortsHere_60 (tgt := 17) (by decide) ?_
              refine v_pick [0, 1, 3] rfl ?_
              exact ih_274 v_306 (by first | omega | (simp only [Int32.lt_iff_toInt_lt, Int32.le_iff_toInt_le, Int32.reduceToInt, ← Int32.toInt_inj, true_and, and_true, or_true, true_or, false_or, or_false, false_and, and_false, not_true_eq_false, not_false_eq_true] <;> omega)) v_303 (by first | omega | (simp only [Int32.lt_iff_toInt_lt, Int32.le_iff_toInt_le, Int32.reduceToInt, ← Int32.toInt_inj, true_and, and_true, or_true, true_or, false_or, or_false, false_and, and_false, not_true_eq_false, not_false_eq_true] <;> omega))
            · simp only [Int32.lt_iff_toInt_lt, Int32.le_iff_toInt_le, Int32.reduceToInt, ← Int32.toInt_inj] at h_299
              refine v_iconst hC dX12_sortsHere_49 (v := (-1)) (by decide) ?_
              exact hR _ _ _ _ _ _ _ dX12_sortsHere_50 rfl (Nat.le_of_ble_eq_true rfl) (Nat.le_of_ble_eq_true rfl) ⟨rfl, rfl⟩
    refine v_pick [0, 1, 2] rfl ?_
    exact lp_272 602 v_34 (by first | omega | (simp only [Int32.lt_iff_toInt_lt, Int32.le_iff_toInt_le, Int32.reduceToInt, ← Int32.toInt_inj, true_and, and_true, or_true, true_or, false_or, or_false, false_and, and_false, not_true_eq_false, not_false_eq_true] <;> omega)) 0 (by first | omega | (simp only [Int32.lt_iff_toInt_lt, Int32.le_iff_toInt_le, Int32.reduceToInt, ← Int32.toInt_inj, true_and, and_true, or_true, true_or, false_or, or_false, false_and, and_false, not_true_eq_false, not_false_eq_true] <;> omega))
  · simp only [Int32.lt_iff_toInt_lt, Int32.le_iff_toInt_le, Int32.reduceToInt, ← Int32.toInt_inj] at h_45
    refine v_iconst hC dX12_sortsHere_10 (v := (-1)) (by decide) ?_
    exact hR _ _ _ _ _ _ _ dX12_sortsHere_11 rfl (Nat.le_of_ble_eq_true rfl) (Nat.le_of_ble_eq_true rfl) ⟨rfl, rfl⟩
set_option maxRecDepth 100000 in
set_option maxHeartbeats 8000000 in
theorem p_X12_keeps {l : Launch} {E : Ez} {L : List Nat} {f : Nat → va_E} {T : Nat → va_E → Prop} {a_0 : Nat} {a_1 a_2 : Int32} {q : Nat → Nat} {g_w g_f : Nat → Int32} {u_0 u_5 u_7 u_8 u_9 u_10 u_11 u_12 u_13 u_17 u_20 : Int32} (k_0 : isM T L E a_0 q) (e_m : f a_0 = ob 12 [.int u_0, .ref (q 1), .ref (q 2), .ref (q 3), .ref (q 4), .int u_5, .ref (q 6), .int u_7, .int u_8, .int u_9, .int u_10, .int u_11, .int u_12, .int u_13, .ref (q 14), .ref (q 15), .ref (q 16), .int u_17, .ref (q 18), .ref (q 19), .int u_20, .ref (q 21), .ref (q 22), .ref (q 23), .ref (q 24), .ref (q 25), .ref (q 26), .ref (q 27), .ref (q 28)]) (e_w : f (q 1) = aI E 2076 g_w) (e_f : f (q 14) = aI E 2076 g_f) (g_1 : 0 ≤ a_1.toInt ∧ a_1.toInt ≤ a_2.toInt ∧ a_2.toInt ≤ 2076) : CV l yX12_keeps cX12_keeps 4 0 0 0 E [.ref a_0, .int a_1, .int a_2] L f (fun L1 f1 => L = L1 ∧ f1 (q 1) = aI E 2076 (va_cpy g_f g_w a_1.toNatClampNeg a_1.toNatClampNeg (a_2.toNatClampNeg - a_1.toNatClampNeg)) ∧ ∀ x9, x9 ≠ (q 1) → f1 x9 = f x9) := by
  refine cv_of (by decide) (Nat.le_of_ble_eq_true rfl) (fun z hz hnm hC hR => ?_)
  have hC : Cx z E cX12_keeps RX12 4 0 0 0 := hC
  subst hz
  show V z E 4 0 0 L f 0 [(0, .ref a_0), (1, .int a_1), (2, .int a_2)] []
  obtain ⟨m_1, t_2, nq_21, k_3, k_4, k_5, k_6, k_7, k_8, k_9, k_10, k_11, k_12, k_13, k_14, k_15, k_16, k_17, k_18, k_19, k_20⟩ := id k_0
  obtain ⟨m_22, t_23⟩ := id k_3
  obtain ⟨m_24, t_25⟩ := id k_8
  refine v_iload_n hC dX12_keeps_0 rfl ?_
  refine v_istore_n hC dX12_keeps_1 (by decide) (lv' := [(3, .int a_1), (0, .ref a_0), (1, .int a_1), (2, .int a_2)]) rfl ?_
  have lp_34 : ∀ (n_27 : Nat) (f_30 : Nat → va_E) (i_26 : Int32) (b_33 : (a_1 : Int32).toInt ≤ i_26.toInt ∧ i_26.toInt ≤ a_2.toInt) (eR_31 : f_30 (q 1) = aI E 2076 (va_cpy g_f g_w a_1.toNatClampNeg a_1.toNatClampNeg (i_26.toNatClampNeg - a_1.toNatClampNeg))) (kR_32 : ∀ x9, x9 ≠ (q 1) → f_30 x9 = f x9) (hm_29 : a_2.toInt - i_26.toInt < (n_27 : Int)), V z E 4 0 0 L f_30 2 [(3, .int i_26), (0, .ref a_0), (2, .int a_2)] [] := by
    intro n_27
    induction n_27 with
    | zero =>
      intro f_30 i_26 b_33 eR_31 kR_32 hm_29
      exfalso; omega
    | succ n_27 ih_28 =>
      intro f_30 i_26 b_33 eR_31 kR_32 hm_29
      have hf_35 := (kR_32 a_0 (ne_kd e_m e_w rfl)).trans e_m
      have hf_36 := (kR_32 (q 14) nq_21.symm).trans e_f
      refine v_iload_n hC dX12_keeps_2 rfl ?_
      refine v_iload_n hC dX12_keeps_3 rfl ?_
      refine v_icmp_ge hC dX12_keeps_4 (tgt := 25) (by decide) (fun h_37 => ?_) (fun h_37 => ?_)
      · simp only [Int32.lt_iff_toInt_lt, Int32.le_iff_toInt_le, Int32.reduceToInt, ← Int32.toInt_inj] at h_37
        exact hR _ _ _ _ _ _ dX12_keeps_25 (Nat.le_of_ble_eq_true rfl) (Nat.le_of_ble_eq_true rfl) ⟨rfl, eR_31.trans (congrArg (aI E 2076) (by rw [show (i_26 : Int32).toNatClampNeg = a_2.toNatClampNeg from by rw [clamp_t, clamp_t]; omega])), kR_32⟩
      · simp only [Int32.lt_iff_toInt_lt, Int32.le_iff_toInt_le, Int32.reduceToInt, ← Int32.toInt_inj] at h_37
        refine v_aload_n hC dX12_keeps_7 rfl ?_
        refine v_get hC fl_X12_13 m_1 hf_35 rfl dX12_keeps_8 ?_
        refine v_iload_n hC dX12_keeps_11 rfl ?_
        refine v_aload_n hC dX12_keeps_12 rfl ?_
        refine v_get hC fl_X12_34 m_1 hf_35 rfl dX12_keeps_13 ?_
        refine v_iload_n hC dX12_keeps_16 rfl ?_
        obtain ⟨v_38, h_39⟩ : ∃ v9 : Int32, g_f (i_26 : Int32).toNatClampNeg = v9 := ⟨_, rfl⟩
        refine v_iald hC m_24 hf_36 (vp_in_iff.mpr (by first | omega | (simp only [Int32.lt_iff_toInt_lt, Int32.le_iff_toInt_le, Int32.reduceToInt, ← Int32.toInt_inj, true_and, and_true, or_true, true_or, false_or, or_false, false_and, and_false, not_true_eq_false, not_false_eq_true] <;> omega))) h_39 dX12_keeps_17 ?_
        refine v_iast hC m_22 eR_31 (vp_in_iff.mpr (by first | omega | (simp only [Int32.lt_iff_toInt_lt, Int32.le_iff_toInt_le, Int32.reduceToInt, ← Int32.toInt_inj, true_and, and_true, or_true, true_or, false_or, or_false, false_and, and_false, not_true_eq_false, not_false_eq_true] <;> omega))) dX12_keeps_18 (fun f_40 hf_41 hk_42 => ?_)
        have hf_43 := (hk_42 a_0 (ne_kd hf_35 eR_31 rfl)).trans hf_35
        have hf_44 := (hk_42 (q 14) nq_21.symm).trans hf_36
        have kr_45 : ∀ x9, x9 ≠ (q 1) → f_40 x9 = f x9 := fun x9 hx9 => (hk_42 x9 hx9).trans (kR_32 x9 hx9)
        obtain ⟨v_46, h_47⟩ : ∃ v9 : Int32, i_26 + Int32.ofInt 1 = v9 := ⟨_, rfl⟩
        have h_48 := add_v (b := 1) h_47 (by first | omega | (simp only [Int32.lt_iff_toInt_lt, Int32.le_iff_toInt_le, Int32.reduceToInt, ← Int32.toInt_inj, true_and, and_true, or_true, true_or, false_or, or_false, false_and, and_false, not_true_eq_false, not_false_eq_true] <;> omega)) (by first | omega | (simp only [Int32.lt_iff_toInt_lt, Int32.le_iff_toInt_le, Int32.reduceToInt, ← Int32.toInt_inj, true_and, and_true, or_true, true_or, false_or, or_false, false_and, and_false, not_true_eq_false, not_false_eq_true] <;> omega))
        simp only [Int32.reduceToInt] at h_48
        refine v_iinc hC dX12_keeps_19 (k := 0) rfl (v := v_46) h_47 (by decide) (lv' := [(3, .int v_46), (0, .ref a_0), (2, .int a_2)]) rfl ?_
        refine v_goto hC dX12_keeps_22 (tgt := 2) (by decide) ?_
        refine v_pick [0, 1, 2] rfl ?_
        have kx_49 : ∀ x9, x9 ≠ (q 1) → f_40 x9 = f x9 := fun x9 hx9 => (hk_42 x9 hx9).trans (kR_32 x9 hx9)
        exact ih_28 f_40 v_46 (by omega) (hf_41.trans (congrArg (aI E 2076) ((cpy_step (by rw [clamp_t, clamp_t]; omega) (by rw [← h_39, show a_1.toNatClampNeg + (i_26.toNatClampNeg - a_1.toNatClampNeg) = i_26.toNatClampNeg from by rw [clamp_t, clamp_t]; omega])).trans (by rw [show i_26.toNatClampNeg - a_1.toNatClampNeg + 1 = v_46.toNatClampNeg - a_1.toNatClampNeg from by rw [clamp_t, clamp_t, clamp_t]; omega])))) kx_49 (by omega)
  refine v_pick [0, 1, 3] rfl ?_
  exact lp_34 7000 f a_1 (by first | omega | decide) (e_w.trans (congrArg (aI E 2076) (by simp only [Nat.sub_self, cpy_nil, clamp_0]))) (fun _ _ => rfl) (by first | omega | (simp only [Int32.reduceToInt]; omega))
set_option maxRecDepth 100000 in
set_option maxHeartbeats 8000000 in
theorem p_X12_clears {l : Launch} {E : Ez} {L : List Nat} {f : Nat → va_E} {T : Nat → va_E → Prop} {a_0 : Nat} {a_1 a_2 : Int32} {q : Nat → Nat} {g_f : Nat → Int32} {u_0 u_5 u_7 u_8 u_9 u_10 u_11 u_12 u_13 u_17 u_20 : Int32} (k_0 : isM T L E a_0 q) (e_m : f a_0 = ob 12 [.int u_0, .ref (q 1), .ref (q 2), .ref (q 3), .ref (q 4), .int u_5, .ref (q 6), .int u_7, .int u_8, .int u_9, .int u_10, .int u_11, .int u_12, .int u_13, .ref (q 14), .ref (q 15), .ref (q 16), .int u_17, .ref (q 18), .ref (q 19), .int u_20, .ref (q 21), .ref (q 22), .ref (q 23), .ref (q 24), .ref (q 25), .ref (q 26), .ref (q 27), .ref (q 28)]) (e_f : f (q 14) = aI E 2076 g_f) (g_1 : 0 ≤ a_1.toInt ∧ a_1.toInt ≤ a_2.toInt ∧ a_2.toInt ≤ 2076) : CV l yX12_clears cX12_clears 4 0 0 0 E [.ref a_0, .int a_1, .int a_2] L f (fun L1 f1 => L = L1 ∧ f1 (q 14) = aI E 2076 (va_cpy (fun _ => 0) g_f a_1.toNatClampNeg a_1.toNatClampNeg (a_2.toNatClampNeg - a_1.toNatClampNeg)) ∧ ∀ x9, x9 ≠ (q 14) → f1 x9 = f x9) := by
  refine cv_of (by decide) (Nat.le_of_ble_eq_true rfl) (fun z hz hnm hC hR => ?_)
  have hC : Cx z E cX12_clears RX12 4 0 0 0 := hC
  subst hz
  show V z E 4 0 0 L f 0 [(0, .ref a_0), (1, .int a_1), (2, .int a_2)] []
  obtain ⟨m_1, t_2, nq_21, k_3, k_4, k_5, k_6, k_7, k_8, k_9, k_10, k_11, k_12, k_13, k_14, k_15, k_16, k_17, k_18, k_19, k_20⟩ := id k_0
  obtain ⟨m_22, t_23⟩ := id k_3
  obtain ⟨m_24, t_25⟩ := id k_8
  refine v_iload_n hC dX12_clears_0 rfl ?_
  refine v_istore_n hC dX12_clears_1 (by decide) (lv' := [(3, .int a_1), (0, .ref a_0), (1, .int a_1), (2, .int a_2)]) rfl ?_
  have lp_34 : ∀ (n_27 : Nat) (f_30 : Nat → va_E) (i_26 : Int32) (b_33 : (a_1 : Int32).toInt ≤ i_26.toInt ∧ i_26.toInt ≤ a_2.toInt) (eR_31 : f_30 (q 14) = aI E 2076 (va_cpy (fun _ => 0) g_f a_1.toNatClampNeg a_1.toNatClampNeg (i_26.toNatClampNeg - a_1.toNatClampNeg))) (kR_32 : ∀ x9, x9 ≠ (q 14) → f_30 x9 = f x9) (hm_29 : a_2.toInt - i_26.toInt < (n_27 : Int)), V z E 4 0 0 L f_30 2 [(3, .int i_26), (0, .ref a_0), (2, .int a_2)] [] := by
    intro n_27
    induction n_27 with
    | zero =>
      intro f_30 i_26 b_33 eR_31 kR_32 hm_29
      exfalso; omega
    | succ n_27 ih_28 =>
      intro f_30 i_26 b_33 eR_31 kR_32 hm_29
      have hf_35 := (kR_32 a_0 (ne_kd e_m e_f rfl)).trans e_m
      refine v_iload_n hC dX12_clears_2 rfl ?_
      refine v_iload_n hC dX12_clears_3 rfl ?_
      refine v_icmp_ge hC dX12_clears_4 (tgt := 20) (by decide) (fun h_36 => ?_) (fun h_36 => ?_)
      · simp only [Int32.lt_iff_toInt_lt, Int32.le_iff_toInt_le, Int32.reduceToInt, ← Int32.toInt_inj] at h_36
        exact hR _ _ _ _ _ _ dX12_clears_20 (Nat.le_of_ble_eq_true rfl) (Nat.le_of_ble_eq_true rfl) ⟨rfl, eR_31.trans (congrArg (aI E 2076) (by rw [show (i_26 : Int32).toNatClampNeg = a_2.toNatClampNeg from by rw [clamp_t, clamp_t]; omega])), kR_32⟩
      · simp only [Int32.lt_iff_toInt_lt, Int32.le_iff_toInt_le, Int32.reduceToInt, ← Int32.toInt_inj] at h_36
        refine v_aload_n hC dX12_clears_7 rfl ?_
        refine v_get hC fl_X12_34 m_1 hf_35 rfl dX12_clears_8 ?_
        refine v_iload_n hC dX12_clears_11 rfl ?_
        refine v_iconst hC dX12_clears_12 (v := 0) (by decide) ?_
        refine v_iast hC m_24 eR_31 (vp_in_iff.mpr (by first | omega | (simp only [Int32.lt_iff_toInt_lt, Int32.le_iff_toInt_le, Int32.reduceToInt, ← Int32.toInt_inj, true_and, and_true, or_true, true_or, false_or, or_false, false_and, and_false, not_true_eq_false, not_false_eq_true] <;> omega))) dX12_clears_13 (fun f_37 hf_38 hk_39 => ?_)
        have hf_40 := (hk_39 a_0 (ne_kd hf_35 eR_31 rfl)).trans hf_35
        have kr_41 : ∀ x9, x9 ≠ (q 14) → f_37 x9 = f x9 := fun x9 hx9 => (hk_39 x9 hx9).trans (kR_32 x9 hx9)
        obtain ⟨v_42, h_43⟩ : ∃ v9 : Int32, i_26 + Int32.ofInt 1 = v9 := ⟨_, rfl⟩
        have h_44 := add_v (b := 1) h_43 (by first | omega | (simp only [Int32.lt_iff_toInt_lt, Int32.le_iff_toInt_le, Int32.reduceToInt, ← Int32.toInt_inj, true_and, and_true, or_true, true_or, false_or, or_false, false_and, and_false, not_true_eq_false, not_false_eq_true] <;> omega)) (by first | omega | (simp only [Int32.lt_iff_toInt_lt, Int32.le_iff_toInt_le, Int32.reduceToInt, ← Int32.toInt_inj, true_and, and_true, or_true, true_or, false_or, or_false, false_and, and_false, not_true_eq_false, not_false_eq_true] <;> omega))
        simp only [Int32.reduceToInt] at h_44
        refine v_iinc hC dX12_clears_14 (k := 0) rfl (v := v_42) h_43 (by decide) (lv' := [(3, .int v_42), (0, .ref a_0), (2, .int a_2)]) rfl ?_
        refine v_goto hC dX12_clears_17 (tgt := 2) (by decide) ?_
        refine v_pick [0, 1, 2] rfl ?_
        have kx_45 : ∀ x9, x9 ≠ (q 14) → f_37 x9 = f x9 := fun x9 hx9 => (hk_39 x9 hx9).trans (kR_32 x9 hx9)
        exact ih_28 f_37 v_42 (by omega) (hf_38.trans (congrArg (aI E 2076) ((cpy_step (by rw [clamp_t, clamp_t]; omega) rfl).trans (by rw [show i_26.toNatClampNeg - a_1.toNatClampNeg + 1 = v_42.toNatClampNeg - a_1.toNatClampNeg from by rw [clamp_t, clamp_t, clamp_t]; omega])))) kx_45 (by omega)
  refine v_pick [0, 1, 3] rfl ?_
  exact lp_34 7000 f a_1 (by first | omega | decide) (e_f.trans (congrArg (aI E 2076) (by simp only [Nat.sub_self, cpy_nil, clamp_0]))) (fun _ _ => rfl) (by first | omega | (simp only [Int32.reduceToInt]; omega))
set_option maxRecDepth 100000 in
set_option maxHeartbeats 8000000 in
theorem p_X12_readWords {l : Launch} {E : Ez} {L : List Nat} {f : Nat → va_E} {T : Nat → va_E → Prop} {a_0 : Nat} {q : Nat → Nat} (hW : WT T L f) (k_0 : isM T L E a_0 q) : CI l yX12_readWords cX12_readWords 2 .int 2 0 0 E [.ref a_0] L f (fun r L1 f1 => L = L1 ∧ WT T L f1 ∧ FR [12, 700] f f1 ∧ ((-1) ≤ r.toInt ∧ r.toInt ≤ 600)) := by
  refine ci_of (by decide) (Nat.le_of_ble_eq_true rfl) (fun z hz hnm hC hR => ?_)
  have hC : Cx z E cX12_readWords RX12 2 2 0 0 := hC
  subst hz
  show V z E 2 0 0 L f 0 [(0, .ref a_0)] []
  obtain ⟨m_1, t_2, nq_21, k_3, k_4, k_5, k_6, k_7, k_8, k_9, k_10, k_11, k_12, k_13, k_14, k_15, k_16, k_17, k_18, k_19, k_20⟩ := id k_0
  refine v_aload_n hC dX12_readWords_0 rfl ?_
  obtain ⟨v_23, v_24, v_26, v_28, v_30, v_32, v_34, v_35, v_36, v_37, v_39, e_22, b_25, b_27, b_29, b_31, b_33, b_38, b_40⟩ := hW.at m_1 t_2
  refine v_vv hC (rest := []) m_1 e_22 rfl mi_X12_begin ms_X12_begin (p_X12_begin hW k_0) mx_X12_begin ml_X12_181 (by decide) rfl (cells1 := 0) (slots1 := 0) (by decide) (by decide) (Nat.le_of_ble_eq_true rfl) (Nat.le_of_ble_eq_true rfl) rfl (Nat.le_of_ble_eq_true rfl) dX12_readWords_1 (fun L_42 f_43 h_44 => ?_)
  obtain ⟨rfl, hW_48, hF_49, x_45, x_46, x_47⟩ := h_44
  have fe_50 : fld (f a_0) 20 = (v_39 : Int32).toInt := by rw [e_22]; rfl
  obtain ⟨v_52, v_53, v_55, v_57, v_59, v_61, v_63, v_64, v_65, v_66, v_68, e_51, b_54, b_56, b_58, b_60, b_62, b_67, b_69⟩ := hW_48.at m_1 t_2
  have fe_70 : fld (f_43 a_0) 8 = (v_57 : Int32).toInt := by rw [e_51]; rfl
  have fe_71 : fld (f_43 a_0) 12 = (v_64 : Int32).toInt := by rw [e_51]; rfl
  have fe_72 : fld (f_43 a_0) 20 = (v_68 : Int32).toInt := by rw [e_51]; rfl
  rw [fe_71] at x_45
  rw [fe_70] at x_46
  rw [fe_72, fe_50] at x_47
  clear fe_50 fe_70 fe_71 fe_72
  refine v_aload_n hC dX12_readWords_4 rfl ?_
  refine v_iconst hC dX12_readWords_5 (v := 0) (by decide) ?_
  refine v_put hC fl_X12_117 m_1 e_51 rfl rfl (Nat.le_of_ble_eq_true rfl) (fs' := [.int v_52, .ref (q 1), .ref (q 2), .ref (q 3), .ref (q 4), .int v_53, .ref (q 6), .int v_55, .int v_57, .int 0, .int v_61, .int v_63, .int v_64, .int v_65, .ref (q 14), .ref (q 15), .ref (q 16), .int v_66, .ref (q 18), .ref (q 19), .int v_68, .ref (q 21), .ref (q 22), .ref (q 23), .ref (q 24), .ref (q 25), .ref (q 26), .ref (q 27), .ref (q 28)]) rfl dX12_readWords_6 (fun f_73 hf_74 hk_75 => ?_)
  have hW_76 := hW_48.up hf_74 hk_75 t_2 ⟨v_52, v_53, v_55, v_57, 0, v_61, v_63, v_64, v_65, v_66, v_68, rfl, (by first | omega | (simp only [Int32.lt_iff_toInt_lt, Int32.le_iff_toInt_le, Int32.reduceToInt, ← Int32.toInt_inj, true_and, and_true, or_true, true_or, false_or, or_false, false_and, and_false, not_true_eq_false, not_false_eq_true] <;> omega)), (by first | omega | (simp only [Int32.lt_iff_toInt_lt, Int32.le_iff_toInt_le, Int32.reduceToInt, ← Int32.toInt_inj, true_and, and_true, or_true, true_or, false_or, or_false, false_and, and_false, not_true_eq_false, not_false_eq_true] <;> omega)), (by first | omega | (simp only [Int32.lt_iff_toInt_lt, Int32.le_iff_toInt_le, Int32.reduceToInt, ← Int32.toInt_inj, true_and, and_true, or_true, true_or, false_or, or_false, false_and, and_false, not_true_eq_false, not_false_eq_true] <;> omega)), (by decide), (by first | omega | (simp only [Int32.lt_iff_toInt_lt, Int32.le_iff_toInt_le, Int32.reduceToInt, ← Int32.toInt_inj, true_and, and_true, or_true, true_or, false_or, or_false, false_and, and_false, not_true_eq_false, not_false_eq_true] <;> omega)), (by first | omega | (simp only [Int32.lt_iff_toInt_lt, Int32.le_iff_toInt_le, Int32.reduceToInt, ← Int32.toInt_inj, true_and, and_true, or_true, true_or, false_or, or_false, false_and, and_false, not_true_eq_false, not_false_eq_true] <;> omega)), (by first | omega | (simp only [Int32.lt_iff_toInt_lt, Int32.le_iff_toInt_le, Int32.reduceToInt, ← Int32.toInt_inj, true_and, and_true, or_true, true_or, false_or, or_false, false_and, and_false, not_true_eq_false, not_false_eq_true] <;> omega))⟩
  have fr_77 := FR.w hk_75 e_51 (k := 12) rfl
  have lp_1067 : ∀ (n_1068 : Nat) (f_1064 : Nat → va_E) (hW_1065 : WT T L f_1064) (hF_1066 : FR [12, 700] f_73 f_1064)  (hm_1070 : 600 - fld (f_1064 a_0) 9 < (n_1068 : Int)), V z E 2 0 0 L f_1064 9 [(0, .ref a_0)] [] := by
    intro n_1068
    induction n_1068 with
    | zero =>
      intro f_1064 hW_1065 hF_1066 hm_1070
      obtain ⟨v_1072, v_1073, v_1075, v_1077, v_1079, v_1081, v_1083, v_1084, v_1085, v_1086, v_1088, e_1071, b_1074, b_1076, b_1078, b_1080, b_1082, b_1087, b_1089⟩ := hW_1065.at m_1 t_2
      have h_1090 : fld (f_1064 a_0) 9 = (v_1079 : Int32).toInt := by rw [e_1071]; rfl
      rw [h_1090] at hm_1070
      exfalso; omega
    | succ n_1068 ih_1069 =>
      intro f_1064 hW_1065 hF_1066 hm_1070
      obtain ⟨v_1072, v_1073, v_1075, v_1077, v_1079, v_1081, v_1083, v_1084, v_1085, v_1086, v_1088, e_1071, b_1074, b_1076, b_1078, b_1080, b_1082, b_1087, b_1089⟩ := hW_1065.at m_1 t_2
      have h_1090 : fld (f_1064 a_0) 9 = (v_1079 : Int32).toInt := by rw [e_1071]; rfl
      rw [h_1090] at hm_1070
      refine v_aload_n hC dX12_readWords_9 rfl ?_
      refine v_vi hC (rest := []) m_1 e_1071 rfl mi_X12_good ms_X12_good (p_X12_good hW_1065 k_0) mx_X12_good ml_X12_139 (by decide) rfl (cells1 := 0) (slots1 := 0) (by decide) (by decide) (Nat.le_of_ble_eq_true rfl) (Nat.le_of_ble_eq_true rfl) rfl (Nat.le_of_ble_eq_true rfl) dX12_readWords_10 (fun r_1091 L_1092 f_1093 h_1094 => ?_)
      obtain ⟨rfl, rfl, b_1095, x_1096⟩ := h_1094
      have fe_1099 : fld (f_1064 a_0) 12 = (v_1084 : Int32).toInt := by rw [e_1071]; rfl
      rw [fe_1099] at x_1096
      clear fe_1099
      try simp only [Int32.reduceToInt, Int64.reduceToInt] at x_1096
      refine v_if_eq hC dX12_readWords_13 (tgt := 109) (by decide) (fun h_1100 => ?_) (fun h_1100 => ?_)
      · simp only [Int32.lt_iff_toInt_lt, Int32.le_iff_toInt_le, Int32.reduceToInt, ← Int32.toInt_inj] at h_1100
        refine v_aload_n hC dX12_readWords_109 rfl ?_
        refine v_get hC fl_X12_117 m_1 e_1071 rfl dX12_readWords_110 ?_
        refine v_if_ne hC dX12_readWords_113 (tgt := 121) (by decide) (fun h_1101 => ?_) (fun h_1101 => ?_)
        · simp only [Int32.lt_iff_toInt_lt, Int32.le_iff_toInt_le, Int32.reduceToInt, ← Int32.toInt_inj] at h_1101
          refine v_aload_n hC dX12_readWords_121 rfl ?_
          refine v_vi hC (rest := []) m_1 e_1071 rfl mi_X12_good ms_X12_good (p_X12_good hW_1065 k_0) mx_X12_good ml_X12_139 (by decide) rfl (cells1 := 0) (slots1 := 0) (by decide) (by decide) (Nat.le_of_ble_eq_true rfl) (Nat.le_of_ble_eq_true rfl) rfl (Nat.le_of_ble_eq_true rfl) dX12_readWords_122 (fun r_1102 L_1103 f_1104 h_1105 => ?_)
          obtain ⟨rfl, rfl, b_1106, x_1107⟩ := h_1105
          have fe_1110 : fld (f_1064 a_0) 12 = (v_1084 : Int32).toInt := by rw [e_1071]; rfl
          rw [fe_1110] at x_1107
          clear fe_1110
          try simp only [Int32.reduceToInt, Int64.reduceToInt] at x_1107
          refine v_if_eq hC dX12_readWords_125 (tgt := 135) (by decide) (fun h_1111 => ?_) (fun h_1111 => ?_)
          · simp only [Int32.lt_iff_toInt_lt, Int32.le_iff_toInt_le, Int32.reduceToInt, ← Int32.toInt_inj] at h_1111
            refine v_iconst hC dX12_readWords_135 (v := (-1)) (by decide) ?_
            exact hR _ _ _ _ _ _ _ dX12_readWords_136 rfl (Nat.le_of_ble_eq_true rfl) (Nat.le_of_ble_eq_true rfl) ⟨rfl, hW_1065, (((hF_49.tr fr_77).tr hF_1066).mono rfl), (by decide)⟩
          · simp only [Int32.lt_iff_toInt_lt, Int32.le_iff_toInt_le, Int32.reduceToInt, ← Int32.toInt_inj] at h_1111
            refine v_aload_n hC dX12_readWords_128 rfl ?_
            refine v_get hC fl_X12_117 m_1 e_1071 rfl dX12_readWords_129 ?_
            refine v_goto hC dX12_readWords_132 (tgt := 136) (by decide) ?_
            exact hR _ _ _ _ _ _ _ dX12_readWords_136 rfl (Nat.le_of_ble_eq_true rfl) (Nat.le_of_ble_eq_true rfl) ⟨rfl, hW_1065, (((hF_49.tr fr_77).tr hF_1066).mono rfl), (by first | omega | (simp only [Int32.lt_iff_toInt_lt, Int32.le_iff_toInt_le, Int32.reduceToInt, ← Int32.toInt_inj, true_and, and_true, or_true, true_or, false_or, or_false, false_and, and_false, not_true_eq_false, not_false_eq_true] <;> omega))⟩
        · simp only [Int32.lt_iff_toInt_lt, Int32.le_iff_toInt_le, Int32.reduceToInt, ← Int32.toInt_inj] at h_1101
          refine v_aload_n hC dX12_readWords_116 rfl ?_
          refine v_iconst hC dX12_readWords_117 (v := 1) (by decide) ?_
          refine v_vv hC (rest := []) m_1 e_1071 rfl mi_X12_errs ms_X12_errs (p_X12_errs hW_1065 k_0 (by decide)) mx_X12_errs ml_X12_162 (by decide) rfl (cells1 := 0) (slots1 := 0) (by decide) (by decide) (Nat.le_of_ble_eq_true rfl) (Nat.le_of_ble_eq_true rfl) rfl (Nat.le_of_ble_eq_true rfl) dX12_readWords_118 (fun L_1113 f_1114 h_1115 => ?_)
          obtain ⟨rfl, hW_1121, hF_1122, x_1116, x_1117, x_1118, x_1119, x_1120⟩ := h_1115
          have fe_1123 : fld (f_1064 a_0) 8 = (v_1077 : Int32).toInt := by rw [e_1071]; rfl
          have fe_1124 : fld (f_1064 a_0) 9 = (v_1079 : Int32).toInt := by rw [e_1071]; rfl
          have fe_1125 : fld (f_1064 a_0) 10 = (v_1081 : Int32).toInt := by rw [e_1071]; rfl
          have fe_1126 : fld (f_1064 a_0) 20 = (v_1088 : Int32).toInt := by rw [e_1071]; rfl
          obtain ⟨v_1128, v_1129, v_1131, v_1133, v_1135, v_1137, v_1139, v_1140, v_1141, v_1142, v_1144, e_1127, b_1130, b_1132, b_1134, b_1136, b_1138, b_1143, b_1145⟩ := hW_1121.at m_1 t_2
          have fe_1146 : fld (f_1114 a_0) 8 = (v_1133 : Int32).toInt := by rw [e_1127]; rfl
          have fe_1147 : fld (f_1114 a_0) 9 = (v_1135 : Int32).toInt := by rw [e_1127]; rfl
          have fe_1148 : fld (f_1114 a_0) 10 = (v_1137 : Int32).toInt := by rw [e_1127]; rfl
          have fe_1149 : fld (f_1114 a_0) 12 = (v_1140 : Int32).toInt := by rw [e_1127]; rfl
          have fe_1150 : fld (f_1114 a_0) 20 = (v_1144 : Int32).toInt := by rw [e_1127]; rfl
          rw [fe_1149] at x_1116
          rw [fe_1146, fe_1123] at x_1117
          rw [fe_1147, fe_1124] at x_1118
          rw [fe_1148, fe_1125] at x_1119
          rw [fe_1150, fe_1126] at x_1120
          clear fe_1123 fe_1124 fe_1125 fe_1126 fe_1146 fe_1147 fe_1148 fe_1149 fe_1150
          refine v_aload_n hC dX12_readWords_121 rfl ?_
          refine v_vi hC (rest := []) m_1 e_1127 rfl mi_X12_good ms_X12_good (p_X12_good hW_1121 k_0) mx_X12_good ml_X12_139 (by decide) rfl (cells1 := 0) (slots1 := 0) (by decide) (by decide) (Nat.le_of_ble_eq_true rfl) (Nat.le_of_ble_eq_true rfl) rfl (Nat.le_of_ble_eq_true rfl) dX12_readWords_122 (fun r_1151 L_1152 f_1153 h_1154 => ?_)
          obtain ⟨rfl, rfl, b_1155, x_1156⟩ := h_1154
          have fe_1159 : fld (f_1114 a_0) 12 = (v_1140 : Int32).toInt := by rw [e_1127]; rfl
          rw [fe_1159] at x_1156
          clear fe_1159
          try simp only [Int32.reduceToInt, Int64.reduceToInt] at x_1156
          refine v_if_eq hC dX12_readWords_125 (tgt := 135) (by decide) (fun h_1160 => ?_) (fun h_1160 => ?_)
          · simp only [Int32.lt_iff_toInt_lt, Int32.le_iff_toInt_le, Int32.reduceToInt, ← Int32.toInt_inj] at h_1160
            refine v_iconst hC dX12_readWords_135 (v := (-1)) (by decide) ?_
            exact hR _ _ _ _ _ _ _ dX12_readWords_136 rfl (Nat.le_of_ble_eq_true rfl) (Nat.le_of_ble_eq_true rfl) ⟨rfl, hW_1121, ((((hF_49.tr fr_77).tr hF_1066).tr hF_1122).mono rfl), (by decide)⟩
          · simp only [Int32.lt_iff_toInt_lt, Int32.le_iff_toInt_le, Int32.reduceToInt, ← Int32.toInt_inj] at h_1160
            refine v_aload_n hC dX12_readWords_128 rfl ?_
            refine v_get hC fl_X12_117 m_1 e_1127 rfl dX12_readWords_129 ?_
            refine v_goto hC dX12_readWords_132 (tgt := 136) (by decide) ?_
            exact hR _ _ _ _ _ _ _ dX12_readWords_136 rfl (Nat.le_of_ble_eq_true rfl) (Nat.le_of_ble_eq_true rfl) ⟨rfl, hW_1121, ((((hF_49.tr fr_77).tr hF_1066).tr hF_1122).mono rfl), (by first | omega | (simp only [Int32.lt_iff_toInt_lt, Int32.le_iff_toInt_le, Int32.reduceToInt, ← Int32.toInt_inj, true_and, and_true, or_true, true_or, false_or, or_false, false_and, and_false, not_true_eq_false, not_false_eq_true] <;> omega))⟩
      · simp only [Int32.lt_iff_toInt_lt, Int32.le_iff_toInt_le, Int32.reduceToInt, ← Int32.toInt_inj] at h_1100
        refine v_aload_n hC dX12_readWords_16 rfl ?_
        refine v_aload_n hC dX12_readWords_17 rfl ?_
        refine v_get hC fl_X12_117 m_1 e_1071 rfl dX12_readWords_18 ?_
        refine v_vi hC (rest := []) m_1 e_1071 rfl mi_X12_see ms_X12_see (p_X12_see hW_1065 k_0 (by first | omega | (simp only [Int32.lt_iff_toInt_lt, Int32.le_iff_toInt_le, Int32.reduceToInt, ← Int32.toInt_inj, true_and, and_true, or_true, true_or, false_or, or_false, false_and, and_false, not_true_eq_false, not_false_eq_true] <;> omega))) mx_X12_see ml_X12_114 (by decide) rfl (cells1 := 0) (slots1 := 0) (by decide) (by decide) (Nat.le_of_ble_eq_true rfl) (Nat.le_of_ble_eq_true rfl) rfl (Nat.le_of_ble_eq_true rfl) dX12_readWords_21 (fun r_1161 L_1162 f_1163 h_1164 => ?_)
        obtain ⟨rfl, rfl, rfl⟩ := h_1164
        have sb_1167 := sv_b (f_1064 a_0) (f_1064 (q 4)) v_1079
        have fe_1168 : fld (f_1064 a_0) 7 = (v_1075 : Int32).toInt := by rw [e_1071]; rfl
        rw [fe_1168] at sb_1167
        refine v_iconst hC dX12_readWords_24 (v := (-1)) (by decide) ?_
        refine v_icmp_eq hC dX12_readWords_25 (tgt := 109) (by decide) (fun h_1169 => ?_) (fun h_1169 => ?_)
        · simp only [Int32.lt_iff_toInt_lt, Int32.le_iff_toInt_le, Int32.reduceToInt, ← Int32.toInt_inj] at h_1169
          refine v_aload_n hC dX12_readWords_109 rfl ?_
          refine v_get hC fl_X12_117 m_1 e_1071 rfl dX12_readWords_110 ?_
          refine v_if_ne hC dX12_readWords_113 (tgt := 121) (by decide) (fun h_1170 => ?_) (fun h_1170 => ?_)
          · simp only [Int32.lt_iff_toInt_lt, Int32.le_iff_toInt_le, Int32.reduceToInt, ← Int32.toInt_inj] at h_1170
            refine v_aload_n hC dX12_readWords_121 rfl ?_
            refine v_vi hC (rest := []) m_1 e_1071 rfl mi_X12_good ms_X12_good (p_X12_good hW_1065 k_0) mx_X12_good ml_X12_139 (by decide) rfl (cells1 := 0) (slots1 := 0) (by decide) (by decide) (Nat.le_of_ble_eq_true rfl) (Nat.le_of_ble_eq_true rfl) rfl (Nat.le_of_ble_eq_true rfl) dX12_readWords_122 (fun r_1171 L_1172 f_1173 h_1174 => ?_)
            obtain ⟨rfl, rfl, b_1175, x_1176⟩ := h_1174
            have fe_1179 : fld (f_1064 a_0) 12 = (v_1084 : Int32).toInt := by rw [e_1071]; rfl
            rw [fe_1179] at x_1176
            clear fe_1179
            try simp only [Int32.reduceToInt, Int64.reduceToInt] at x_1176
            refine v_if_eq hC dX12_readWords_125 (tgt := 135) (by decide) (fun h_1180 => ?_) (fun h_1180 => ?_)
            · simp only [Int32.lt_iff_toInt_lt, Int32.le_iff_toInt_le, Int32.reduceToInt, ← Int32.toInt_inj] at h_1180
              refine v_iconst hC dX12_readWords_135 (v := (-1)) (by decide) ?_
              exact hR _ _ _ _ _ _ _ dX12_readWords_136 rfl (Nat.le_of_ble_eq_true rfl) (Nat.le_of_ble_eq_true rfl) ⟨rfl, hW_1065, (((hF_49.tr fr_77).tr hF_1066).mono rfl), (by decide)⟩
            · simp only [Int32.lt_iff_toInt_lt, Int32.le_iff_toInt_le, Int32.reduceToInt, ← Int32.toInt_inj] at h_1180
              refine v_aload_n hC dX12_readWords_128 rfl ?_
              refine v_get hC fl_X12_117 m_1 e_1071 rfl dX12_readWords_129 ?_
              refine v_goto hC dX12_readWords_132 (tgt := 136) (by decide) ?_
              exact hR _ _ _ _ _ _ _ dX12_readWords_136 rfl (Nat.le_of_ble_eq_true rfl) (Nat.le_of_ble_eq_true rfl) ⟨rfl, hW_1065, (((hF_49.tr fr_77).tr hF_1066).mono rfl), (by first | omega | (simp only [Int32.lt_iff_toInt_lt, Int32.le_iff_toInt_le, Int32.reduceToInt, ← Int32.toInt_inj, true_and, and_true, or_true, true_or, false_or, or_false, false_and, and_false, not_true_eq_false, not_false_eq_true] <;> omega))⟩
          · simp only [Int32.lt_iff_toInt_lt, Int32.le_iff_toInt_le, Int32.reduceToInt, ← Int32.toInt_inj] at h_1170
            refine v_aload_n hC dX12_readWords_116 rfl ?_
            refine v_iconst hC dX12_readWords_117 (v := 1) (by decide) ?_
            refine v_vv hC (rest := []) m_1 e_1071 rfl mi_X12_errs ms_X12_errs (p_X12_errs hW_1065 k_0 (by decide)) mx_X12_errs ml_X12_162 (by decide) rfl (cells1 := 0) (slots1 := 0) (by decide) (by decide) (Nat.le_of_ble_eq_true rfl) (Nat.le_of_ble_eq_true rfl) rfl (Nat.le_of_ble_eq_true rfl) dX12_readWords_118 (fun L_1182 f_1183 h_1184 => ?_)
            obtain ⟨rfl, hW_1190, hF_1191, x_1185, x_1186, x_1187, x_1188, x_1189⟩ := h_1184
            have fe_1192 : fld (f_1064 a_0) 8 = (v_1077 : Int32).toInt := by rw [e_1071]; rfl
            have fe_1193 : fld (f_1064 a_0) 9 = (v_1079 : Int32).toInt := by rw [e_1071]; rfl
            have fe_1194 : fld (f_1064 a_0) 10 = (v_1081 : Int32).toInt := by rw [e_1071]; rfl
            have fe_1195 : fld (f_1064 a_0) 20 = (v_1088 : Int32).toInt := by rw [e_1071]; rfl
            obtain ⟨v_1197, v_1198, v_1200, v_1202, v_1204, v_1206, v_1208, v_1209, v_1210, v_1211, v_1213, e_1196, b_1199, b_1201, b_1203, b_1205, b_1207, b_1212, b_1214⟩ := hW_1190.at m_1 t_2
            have fe_1215 : fld (f_1183 a_0) 8 = (v_1202 : Int32).toInt := by rw [e_1196]; rfl
            have fe_1216 : fld (f_1183 a_0) 9 = (v_1204 : Int32).toInt := by rw [e_1196]; rfl
            have fe_1217 : fld (f_1183 a_0) 10 = (v_1206 : Int32).toInt := by rw [e_1196]; rfl
            have fe_1218 : fld (f_1183 a_0) 12 = (v_1209 : Int32).toInt := by rw [e_1196]; rfl
            have fe_1219 : fld (f_1183 a_0) 20 = (v_1213 : Int32).toInt := by rw [e_1196]; rfl
            rw [fe_1218] at x_1185
            rw [fe_1215, fe_1192] at x_1186
            rw [fe_1216, fe_1193] at x_1187
            rw [fe_1217, fe_1194] at x_1188
            rw [fe_1219, fe_1195] at x_1189
            clear fe_1192 fe_1193 fe_1194 fe_1195 fe_1215 fe_1216 fe_1217 fe_1218 fe_1219
            refine v_aload_n hC dX12_readWords_121 rfl ?_
            refine v_vi hC (rest := []) m_1 e_1196 rfl mi_X12_good ms_X12_good (p_X12_good hW_1190 k_0) mx_X12_good ml_X12_139 (by decide) rfl (cells1 := 0) (slots1 := 0) (by decide) (by decide) (Nat.le_of_ble_eq_true rfl) (Nat.le_of_ble_eq_true rfl) rfl (Nat.le_of_ble_eq_true rfl) dX12_readWords_122 (fun r_1220 L_1221 f_1222 h_1223 => ?_)
            obtain ⟨rfl, rfl, b_1224, x_1225⟩ := h_1223
            have fe_1228 : fld (f_1183 a_0) 12 = (v_1209 : Int32).toInt := by rw [e_1196]; rfl
            rw [fe_1228] at x_1225
            clear fe_1228
            try simp only [Int32.reduceToInt, Int64.reduceToInt] at x_1225
            refine v_if_eq hC dX12_readWords_125 (tgt := 135) (by decide) (fun h_1229 => ?_) (fun h_1229 => ?_)
            · simp only [Int32.lt_iff_toInt_lt, Int32.le_iff_toInt_le, Int32.reduceToInt, ← Int32.toInt_inj] at h_1229
              refine v_iconst hC dX12_readWords_135 (v := (-1)) (by decide) ?_
              exact hR _ _ _ _ _ _ _ dX12_readWords_136 rfl (Nat.le_of_ble_eq_true rfl) (Nat.le_of_ble_eq_true rfl) ⟨rfl, hW_1190, ((((hF_49.tr fr_77).tr hF_1066).tr hF_1191).mono rfl), (by decide)⟩
            · simp only [Int32.lt_iff_toInt_lt, Int32.le_iff_toInt_le, Int32.reduceToInt, ← Int32.toInt_inj] at h_1229
              refine v_aload_n hC dX12_readWords_128 rfl ?_
              refine v_get hC fl_X12_117 m_1 e_1196 rfl dX12_readWords_129 ?_
              refine v_goto hC dX12_readWords_132 (tgt := 136) (by decide) ?_
              exact hR _ _ _ _ _ _ _ dX12_readWords_136 rfl (Nat.le_of_ble_eq_true rfl) (Nat.le_of_ble_eq_true rfl) ⟨rfl, hW_1190, ((((hF_49.tr fr_77).tr hF_1066).tr hF_1191).mono rfl), (by first | omega | (simp only [Int32.lt_iff_toInt_lt, Int32.le_iff_toInt_le, Int32.reduceToInt, ← Int32.toInt_inj, true_and, and_true, or_true, true_or, false_or, or_false, false_and, and_false, not_true_eq_false, not_false_eq_true] <;> omega))⟩
        · simp only [Int32.lt_iff_toInt_lt, Int32.le_iff_toInt_le, Int32.reduceToInt, ← Int32.toInt_inj] at h_1169
          refine v_aload_n hC dX12_readWords_28 rfl ?_
          refine v_aload_n hC dX12_readWords_29 rfl ?_
          refine v_get hC fl_X12_117 m_1 e_1071 rfl dX12_readWords_30 ?_
          refine v_vi hC (rest := []) m_1 e_1071 rfl mi_X12_see ms_X12_see (p_X12_see hW_1065 k_0 (by first | omega | (simp only [Int32.lt_iff_toInt_lt, Int32.le_iff_toInt_le, Int32.reduceToInt, ← Int32.toInt_inj, true_and, and_true, or_true, true_or, false_or, or_false, false_and, and_false, not_true_eq_false, not_false_eq_true] <;> omega))) mx_X12_see ml_X12_114 (by decide) rfl (cells1 := 0) (slots1 := 0) (by decide) (by decide) (Nat.le_of_ble_eq_true rfl) (Nat.le_of_ble_eq_true rfl) rfl (Nat.le_of_ble_eq_true rfl) dX12_readWords_33 (fun r_1230 L_1231 f_1232 h_1233 => ?_)
          obtain ⟨rfl, rfl, rfl⟩ := h_1233
          have sb_1236 := sv_b (f_1064 a_0) (f_1064 (q 4)) v_1079
          have fe_1237 : fld (f_1064 a_0) 7 = (v_1075 : Int32).toInt := by rw [e_1071]; rfl
          rw [fe_1237] at sb_1236
          refine v_istore_n hC dX12_readWords_36 (by decide) (lv' := [(1, .int (sv (f_1064 a_0) (f_1064 (q 4)) v_1079)), (0, .ref a_0)]) rfl ?_
          refine v_iload_n hC dX12_readWords_37 rfl ?_
          refine v_bipush hC dX12_readWords_38 (v := 32) (by decide) ?_
          refine v_icmp_eq hC dX12_readWords_40 (tgt := 62) (by decide) (fun h_1238 => ?_) (fun h_1238 => ?_)
          · simp only [Int32.lt_iff_toInt_lt, Int32.le_iff_toInt_le, Int32.reduceToInt, ← Int32.toInt_inj] at h_1238
            refine v_aload_n hC dX12_readWords_62 rfl ?_
            refine v_vi hC (rest := []) m_1 e_1071 rfl mi_X12_good ms_X12_good (p_X12_good hW_1065 k_0) mx_X12_good ml_X12_139 (by decide) rfl (cells1 := 0) (slots1 := 0) (by decide) (by decide) (Nat.le_of_ble_eq_true rfl) (Nat.le_of_ble_eq_true rfl) rfl (Nat.le_of_ble_eq_true rfl) dX12_readWords_63 (fun r_1239 L_1240 f_1241 h_1242 => ?_)
            obtain ⟨rfl, rfl, b_1243, x_1244⟩ := h_1242
            have fe_1247 : fld (f_1064 a_0) 12 = (v_1084 : Int32).toInt := by rw [e_1071]; rfl
            rw [fe_1247] at x_1244
            clear fe_1247
            try simp only [Int32.reduceToInt, Int64.reduceToInt] at x_1244
            refine v_if_ne hC dX12_readWords_66 (tgt := 71) (by decide) (fun h_1248 => ?_) (fun h_1248 => ?_)
            · simp only [Int32.lt_iff_toInt_lt, Int32.le_iff_toInt_le, Int32.reduceToInt, ← Int32.toInt_inj] at h_1248
              refine v_aload_n hC dX12_readWords_71 rfl ?_
              refine v_get hC fl_X12_43 m_1 e_1071 rfl dX12_readWords_72 ?_
              refine v_aload_n hC dX12_readWords_75 rfl ?_
              refine v_get hC fl_X12_117 m_1 e_1071 rfl dX12_readWords_76 ?_
              refine v_iload_n hC dX12_readWords_79 rfl ?_
              refine v_bipush hC dX12_readWords_80 (v := 32) (by decide) ?_
              refine v_icmp_ne_f hC dX12_readWords_82 (tgt := 89) (by decide) (by first | omega | (simp only [Int32.lt_iff_toInt_lt, Int32.le_iff_toInt_le, Int32.reduceToInt, ← Int32.toInt_inj, true_and, and_true, or_true, true_or, false_or, or_false, false_and, and_false, not_true_eq_false, not_false_eq_true] <;> omega)) ?_
              refine v_iconst hC dX12_readWords_85 (v := 0) (by decide) ?_
              refine v_goto hC dX12_readWords_86 (tgt := 95) (by decide) ?_
              obtain ⟨m_1249, t_1250⟩ := id k_11
              obtain ⟨g_1252, e_1251⟩ := hW_1065.at m_1249 t_1250
              refine v_iast hC m_1249 e_1251 (vp_in_iff.mpr (by first | omega | (simp only [Int32.lt_iff_toInt_lt, Int32.le_iff_toInt_le, Int32.reduceToInt, ← Int32.toInt_inj, true_and, and_true, or_true, true_or, false_or, or_false, false_and, and_false, not_true_eq_false, not_false_eq_true] <;> omega))) dX12_readWords_95 (fun f_1253 hf_1254 hk_1255 => ?_)
              have hW_1257 := hW_1065.up hf_1254 hk_1255 t_1250 ⟨_, rfl⟩
              obtain ⟨g_1256, hf_1254⟩ : ∃ g9, f_1253 (q 18) = aI E 600 g9 := ⟨_, hf_1254⟩
              have hf_1258 := (hk_1255 a_0 (ne_kd e_1071 e_1251 rfl)).trans e_1071
              have fr_1259 := FR.w hk_1255 e_1251 (k := 700) rfl
              refine v_aload_n hC dX12_readWords_96 rfl ?_
              refine v_dup hC dX12_readWords_97 rfl ?_
              refine v_get hC fl_X12_117 m_1 hf_1258 rfl dX12_readWords_98 ?_
              refine v_iconst hC dX12_readWords_101 (v := 1) (by decide) ?_
              obtain ⟨v_1260, h_1261⟩ : ∃ v9 : Int32, v_1079 + 1 = v9 := ⟨_, rfl⟩
              refine v_iadd hC dX12_readWords_102 h_1261 ?_
              have h_1262 := add_v h_1261 (by first | omega | (simp only [Int32.lt_iff_toInt_lt, Int32.le_iff_toInt_le, Int32.reduceToInt, ← Int32.toInt_inj, true_and, and_true, or_true, true_or, false_or, or_false, false_and, and_false, not_true_eq_false, not_false_eq_true] <;> omega)) (by first | omega | (simp only [Int32.lt_iff_toInt_lt, Int32.le_iff_toInt_le, Int32.reduceToInt, ← Int32.toInt_inj, true_and, and_true, or_true, true_or, false_or, or_false, false_and, and_false, not_true_eq_false, not_false_eq_true] <;> omega))
              try simp only [Int32.reduceToInt] at h_1262
              refine v_put hC fl_X12_117 m_1 hf_1258 rfl rfl (Nat.le_of_ble_eq_true rfl) (fs' := [.int v_1072, .ref (q 1), .ref (q 2), .ref (q 3), .ref (q 4), .int v_1073, .ref (q 6), .int v_1075, .int v_1077, .int v_1260, .int v_1081, .int v_1083, .int v_1084, .int v_1085, .ref (q 14), .ref (q 15), .ref (q 16), .int v_1086, .ref (q 18), .ref (q 19), .int v_1088, .ref (q 21), .ref (q 22), .ref (q 23), .ref (q 24), .ref (q 25), .ref (q 26), .ref (q 27), .ref (q 28)]) rfl dX12_readWords_103 (fun f_1263 hf_1264 hk_1265 => ?_)
              have hW_1266 := hW_1257.up hf_1264 hk_1265 t_2 ⟨v_1072, v_1073, v_1075, v_1077, v_1260, v_1081, v_1083, v_1084, v_1085, v_1086, v_1088, rfl, (by first | omega | (simp only [Int32.lt_iff_toInt_lt, Int32.le_iff_toInt_le, Int32.reduceToInt, ← Int32.toInt_inj, true_and, and_true, or_true, true_or, false_or, or_false, false_and, and_false, not_true_eq_false, not_false_eq_true] <;> omega)), (by first | omega | (simp only [Int32.lt_iff_toInt_lt, Int32.le_iff_toInt_le, Int32.reduceToInt, ← Int32.toInt_inj, true_and, and_true, or_true, true_or, false_or, or_false, false_and, and_false, not_true_eq_false, not_false_eq_true] <;> omega)), (by first | omega | (simp only [Int32.lt_iff_toInt_lt, Int32.le_iff_toInt_le, Int32.reduceToInt, ← Int32.toInt_inj, true_and, and_true, or_true, true_or, false_or, or_false, false_and, and_false, not_true_eq_false, not_false_eq_true] <;> omega)), (by first | omega | (simp only [Int32.lt_iff_toInt_lt, Int32.le_iff_toInt_le, Int32.reduceToInt, ← Int32.toInt_inj, true_and, and_true, or_true, true_or, false_or, or_false, false_and, and_false, not_true_eq_false, not_false_eq_true] <;> omega)), (by first | omega | (simp only [Int32.lt_iff_toInt_lt, Int32.le_iff_toInt_le, Int32.reduceToInt, ← Int32.toInt_inj, true_and, and_true, or_true, true_or, false_or, or_false, false_and, and_false, not_true_eq_false, not_false_eq_true] <;> omega)), (by first | omega | (simp only [Int32.lt_iff_toInt_lt, Int32.le_iff_toInt_le, Int32.reduceToInt, ← Int32.toInt_inj, true_and, and_true, or_true, true_or, false_or, or_false, false_and, and_false, not_true_eq_false, not_false_eq_true] <;> omega)), (by first | omega | (simp only [Int32.lt_iff_toInt_lt, Int32.le_iff_toInt_le, Int32.reduceToInt, ← Int32.toInt_inj, true_and, and_true, or_true, true_or, false_or, or_false, false_and, and_false, not_true_eq_false, not_false_eq_true] <;> omega))⟩
              have hf_1267 := (hk_1265 (q 18) (ne_kd hf_1254 hf_1258 rfl)).trans hf_1254
              have fr_1268 := FR.w hk_1265 hf_1258 (k := 12) rfl
              refine v_goto hC dX12_readWords_106 (tgt := 9) (by decide) ?_
              refine v_pick [1] rfl ?_
              have h_1269 : fld (f_1263 a_0) 9 = (v_1260 : Int32).toInt := by rw [hf_1264]; rfl
              exact ih_1069 f_1263 hW_1266 (((hF_1066.tr fr_1259).tr fr_1268).mono rfl) (by rw [h_1269]; omega)
            · simp only [Int32.lt_iff_toInt_lt, Int32.le_iff_toInt_le, Int32.reduceToInt, ← Int32.toInt_inj] at h_1248
              refine v_iconst hC dX12_readWords_69 (v := (-1)) (by decide) ?_
              exact hR _ _ _ _ _ _ _ dX12_readWords_70 rfl (Nat.le_of_ble_eq_true rfl) (Nat.le_of_ble_eq_true rfl) ⟨rfl, hW_1065, (((hF_49.tr fr_77).tr hF_1066).mono rfl), (by decide)⟩
          · simp only [Int32.lt_iff_toInt_lt, Int32.le_iff_toInt_le, Int32.reduceToInt, ← Int32.toInt_inj] at h_1238
            refine v_iload_n hC dX12_readWords_43 rfl ?_
            obtain ⟨v_1270, h_1271⟩ : ∃ v9 : Int64, (sv (f_1064 a_0) (f_1064 (q 4)) v_1079).toInt64 = v9 := ⟨_, rfl⟩
            refine v_i2l hC dX12_readWords_44 h_1271 ?_
            have h_1272 : v_1270.toInt = (sv (f_1064 a_0) (f_1064 (q 4)) v_1079).toInt := by rw [← h_1271]; exact Int32.toInt_toInt64 _
            refine v_ldc2 hC kl_X12_123 dX12_readWords_45 ?_
            refine v_ldc2 hC kl_X12_125 dX12_readWords_48 ?_
            refine v_si hC (rest := []) mt_X12_in (p_X12_in hW_1065) mx_X12_in ml_X12_79 (by decide) rfl (cells1 := 0) (slots1 := 0) (by decide) (by decide) (Nat.le_of_ble_eq_true rfl) (Nat.le_of_ble_eq_true rfl) rfl (Nat.le_of_ble_eq_true rfl) dX12_readWords_51 (fun r_1273 L_1274 f_1275 h_1276 => ?_)
            obtain ⟨rfl, rfl, b_1277, x_1278⟩ := h_1276
            try simp only [Int32.reduceToInt, Int64.reduceToInt] at x_1278
            refine v_if_ne hC dX12_readWords_54 (tgt := 62) (by decide) (fun h_1281 => ?_) (fun h_1281 => ?_)
            · simp only [Int32.lt_iff_toInt_lt, Int32.le_iff_toInt_le, Int32.reduceToInt, ← Int32.toInt_inj] at h_1281
              refine v_aload_n hC dX12_readWords_62 rfl ?_
              refine v_vi hC (rest := []) m_1 e_1071 rfl mi_X12_good ms_X12_good (p_X12_good hW_1065 k_0) mx_X12_good ml_X12_139 (by decide) rfl (cells1 := 0) (slots1 := 0) (by decide) (by decide) (Nat.le_of_ble_eq_true rfl) (Nat.le_of_ble_eq_true rfl) rfl (Nat.le_of_ble_eq_true rfl) dX12_readWords_63 (fun r_1282 L_1283 f_1284 h_1285 => ?_)
              obtain ⟨rfl, rfl, b_1286, x_1287⟩ := h_1285
              have fe_1290 : fld (f_1064 a_0) 12 = (v_1084 : Int32).toInt := by rw [e_1071]; rfl
              rw [fe_1290] at x_1287
              clear fe_1290
              try simp only [Int32.reduceToInt, Int64.reduceToInt] at x_1287
              refine v_if_ne hC dX12_readWords_66 (tgt := 71) (by decide) (fun h_1291 => ?_) (fun h_1291 => ?_)
              · simp only [Int32.lt_iff_toInt_lt, Int32.le_iff_toInt_le, Int32.reduceToInt, ← Int32.toInt_inj] at h_1291
                refine v_aload_n hC dX12_readWords_71 rfl ?_
                refine v_get hC fl_X12_43 m_1 e_1071 rfl dX12_readWords_72 ?_
                refine v_aload_n hC dX12_readWords_75 rfl ?_
                refine v_get hC fl_X12_117 m_1 e_1071 rfl dX12_readWords_76 ?_
                refine v_iload_n hC dX12_readWords_79 rfl ?_
                refine v_bipush hC dX12_readWords_80 (v := 32) (by decide) ?_
                refine v_icmp_ne_t hC dX12_readWords_82 (tgt := 89) (by decide) (by first | omega | (simp only [Int32.lt_iff_toInt_lt, Int32.le_iff_toInt_le, Int32.reduceToInt, ← Int32.toInt_inj, true_and, and_true, or_true, true_or, false_or, or_false, false_and, and_false, not_true_eq_false, not_false_eq_true] <;> omega)) ?_
                refine v_iload_n hC dX12_readWords_89 rfl ?_
                refine v_bipush hC dX12_readWords_90 (v := 97) (by decide) ?_
                obtain ⟨v_1292, h_1293⟩ : ∃ v9 : Int32, (sv (f_1064 a_0) (f_1064 (q 4)) v_1079) - 97 = v9 := ⟨_, rfl⟩
                refine v_isub hC dX12_readWords_92 h_1293 ?_
                have h_1294 := sub_v h_1293 (by first | omega | (simp only [Int32.lt_iff_toInt_lt, Int32.le_iff_toInt_le, Int32.reduceToInt, ← Int32.toInt_inj, true_and, and_true, or_true, true_or, false_or, or_false, false_and, and_false, not_true_eq_false, not_false_eq_true] <;> omega)) (by first | omega | (simp only [Int32.lt_iff_toInt_lt, Int32.le_iff_toInt_le, Int32.reduceToInt, ← Int32.toInt_inj, true_and, and_true, or_true, true_or, false_or, or_false, false_and, and_false, not_true_eq_false, not_false_eq_true] <;> omega))
                try simp only [Int32.reduceToInt] at h_1294
                refine v_iconst hC dX12_readWords_93 (v := 1) (by decide) ?_
                obtain ⟨v_1295, h_1296⟩ : ∃ v9 : Int32, v_1292 + 1 = v9 := ⟨_, rfl⟩
                refine v_iadd hC dX12_readWords_94 h_1296 ?_
                have h_1297 := add_v h_1296 (by first | omega | (simp only [Int32.lt_iff_toInt_lt, Int32.le_iff_toInt_le, Int32.reduceToInt, ← Int32.toInt_inj, true_and, and_true, or_true, true_or, false_or, or_false, false_and, and_false, not_true_eq_false, not_false_eq_true] <;> omega)) (by first | omega | (simp only [Int32.lt_iff_toInt_lt, Int32.le_iff_toInt_le, Int32.reduceToInt, ← Int32.toInt_inj, true_and, and_true, or_true, true_or, false_or, or_false, false_and, and_false, not_true_eq_false, not_false_eq_true] <;> omega))
                try simp only [Int32.reduceToInt] at h_1297
                obtain ⟨m_1298, t_1299⟩ := id k_11
                obtain ⟨g_1301, e_1300⟩ := hW_1065.at m_1298 t_1299
                refine v_iast hC m_1298 e_1300 (vp_in_iff.mpr (by first | omega | (simp only [Int32.lt_iff_toInt_lt, Int32.le_iff_toInt_le, Int32.reduceToInt, ← Int32.toInt_inj, true_and, and_true, or_true, true_or, false_or, or_false, false_and, and_false, not_true_eq_false, not_false_eq_true] <;> omega))) dX12_readWords_95 (fun f_1302 hf_1303 hk_1304 => ?_)
                have hW_1306 := hW_1065.up hf_1303 hk_1304 t_1299 ⟨_, rfl⟩
                obtain ⟨g_1305, hf_1303⟩ : ∃ g9, f_1302 (q 18) = aI E 600 g9 := ⟨_, hf_1303⟩
                have hf_1307 := (hk_1304 a_0 (ne_kd e_1071 e_1300 rfl)).trans e_1071
                have fr_1308 := FR.w hk_1304 e_1300 (k := 700) rfl
                refine v_aload_n hC dX12_readWords_96 rfl ?_
                refine v_dup hC dX12_readWords_97 rfl ?_
                refine v_get hC fl_X12_117 m_1 hf_1307 rfl dX12_readWords_98 ?_
                refine v_iconst hC dX12_readWords_101 (v := 1) (by decide) ?_
                obtain ⟨v_1309, h_1310⟩ : ∃ v9 : Int32, v_1079 + 1 = v9 := ⟨_, rfl⟩
                refine v_iadd hC dX12_readWords_102 h_1310 ?_
                have h_1311 := add_v h_1310 (by first | omega | (simp only [Int32.lt_iff_toInt_lt, Int32.le_iff_toInt_le, Int32.reduceToInt, ← Int32.toInt_inj, true_and, and_true, or_true, true_or, false_or, or_false, false_and, and_false, not_true_eq_false, not_false_eq_true] <;> omega)) (by first | omega | (simp only [Int32.lt_iff_toInt_lt, Int32.le_iff_toInt_le, Int32.reduceToInt, ← Int32.toInt_inj, true_and, and_true, or_true, true_or, false_or, or_false, false_and, and_false, not_true_eq_false, not_false_eq_true] <;> omega))
                try simp only [Int32.reduceToInt] at h_1311
                refine v_put hC fl_X12_117 m_1 hf_1307 rfl rfl (Nat.le_of_ble_eq_true rfl) (fs' := [.int v_1072, .ref (q 1), .ref (q 2), .ref (q 3), .ref (q 4), .int v_1073, .ref (q 6), .int v_1075, .int v_1077, .int v_1309, .int v_1081, .int v_1083, .int v_1084, .int v_1085, .ref (q 14), .ref (q 15), .ref (q 16), .int v_1086, .ref (q 18), .ref (q 19), .int v_1088, .ref (q 21), .ref (q 22), .ref (q 23), .ref (q 24), .ref (q 25), .ref (q 26), .ref (q 27), .ref (q 28)]) rfl dX12_readWords_103 (fun f_1312 hf_1313 hk_1314 => ?_)
                have hW_1315 := hW_1306.up hf_1313 hk_1314 t_2 ⟨v_1072, v_1073, v_1075, v_1077, v_1309, v_1081, v_1083, v_1084, v_1085, v_1086, v_1088, rfl, (by first | omega | (simp only [Int32.lt_iff_toInt_lt, Int32.le_iff_toInt_le, Int32.reduceToInt, ← Int32.toInt_inj, true_and, and_true, or_true, true_or, false_or, or_false, false_and, and_false, not_true_eq_false, not_false_eq_true] <;> omega)), (by first | omega | (simp only [Int32.lt_iff_toInt_lt, Int32.le_iff_toInt_le, Int32.reduceToInt, ← Int32.toInt_inj, true_and, and_true, or_true, true_or, false_or, or_false, false_and, and_false, not_true_eq_false, not_false_eq_true] <;> omega)), (by first | omega | (simp only [Int32.lt_iff_toInt_lt, Int32.le_iff_toInt_le, Int32.reduceToInt, ← Int32.toInt_inj, true_and, and_true, or_true, true_or, false_or, or_false, false_and, and_false, not_true_eq_false, not_false_eq_true] <;> omega)), (by first | omega | (simp only [Int32.lt_iff_toInt_lt, Int32.le_iff_toInt_le, Int32.reduceToInt, ← Int32.toInt_inj, true_and, and_true, or_true, true_or, false_or, or_false, false_and, and_false, not_true_eq_false, not_false_eq_true] <;> omega)), (by first | omega | (simp only [Int32.lt_iff_toInt_lt, Int32.le_iff_toInt_le, Int32.reduceToInt, ← Int32.toInt_inj, true_and, and_true, or_true, true_or, false_or, or_false, false_and, and_false, not_true_eq_false, not_false_eq_true] <;> omega)), (by first | omega | (simp only [Int32.lt_iff_toInt_lt, Int32.le_iff_toInt_le, Int32.reduceToInt, ← Int32.toInt_inj, true_and, and_true, or_true, true_or, false_or, or_false, false_and, and_false, not_true_eq_false, not_false_eq_true] <;> omega)), (by first | omega | (simp only [Int32.lt_iff_toInt_lt, Int32.le_iff_toInt_le, Int32.reduceToInt, ← Int32.toInt_inj, true_and, and_true, or_true, true_or, false_or, or_false, false_and, and_false, not_true_eq_false, not_false_eq_true] <;> omega))⟩
                have hf_1316 := (hk_1314 (q 18) (ne_kd hf_1303 hf_1307 rfl)).trans hf_1303
                have fr_1317 := FR.w hk_1314 hf_1307 (k := 12) rfl
                refine v_goto hC dX12_readWords_106 (tgt := 9) (by decide) ?_
                refine v_pick [1] rfl ?_
                have h_1318 : fld (f_1312 a_0) 9 = (v_1309 : Int32).toInt := by rw [hf_1313]; rfl
                exact ih_1069 f_1312 hW_1315 (((hF_1066.tr fr_1308).tr fr_1317).mono rfl) (by rw [h_1318]; omega)
              · simp only [Int32.lt_iff_toInt_lt, Int32.le_iff_toInt_le, Int32.reduceToInt, ← Int32.toInt_inj] at h_1291
                refine v_iconst hC dX12_readWords_69 (v := (-1)) (by decide) ?_
                exact hR _ _ _ _ _ _ _ dX12_readWords_70 rfl (Nat.le_of_ble_eq_true rfl) (Nat.le_of_ble_eq_true rfl) ⟨rfl, hW_1065, (((hF_49.tr fr_77).tr hF_1066).mono rfl), (by decide)⟩
            · simp only [Int32.lt_iff_toInt_lt, Int32.le_iff_toInt_le, Int32.reduceToInt, ← Int32.toInt_inj] at h_1281
              refine v_aload_n hC dX12_readWords_57 rfl ?_
              refine v_iconst hC dX12_readWords_58 (v := 1) (by decide) ?_
              refine v_vv hC (rest := []) m_1 e_1071 rfl mi_X12_errs ms_X12_errs (p_X12_errs hW_1065 k_0 (by decide)) mx_X12_errs ml_X12_162 (by decide) rfl (cells1 := 0) (slots1 := 0) (by decide) (by decide) (Nat.le_of_ble_eq_true rfl) (Nat.le_of_ble_eq_true rfl) rfl (Nat.le_of_ble_eq_true rfl) dX12_readWords_59 (fun L_1320 f_1321 h_1322 => ?_)
              obtain ⟨rfl, hW_1328, hF_1329, x_1323, x_1324, x_1325, x_1326, x_1327⟩ := h_1322
              have fe_1330 : fld (f_1064 a_0) 8 = (v_1077 : Int32).toInt := by rw [e_1071]; rfl
              have fe_1331 : fld (f_1064 a_0) 9 = (v_1079 : Int32).toInt := by rw [e_1071]; rfl
              have fe_1332 : fld (f_1064 a_0) 10 = (v_1081 : Int32).toInt := by rw [e_1071]; rfl
              have fe_1333 : fld (f_1064 a_0) 20 = (v_1088 : Int32).toInt := by rw [e_1071]; rfl
              obtain ⟨v_1335, v_1336, v_1338, v_1340, v_1342, v_1344, v_1346, v_1347, v_1348, v_1349, v_1351, e_1334, b_1337, b_1339, b_1341, b_1343, b_1345, b_1350, b_1352⟩ := hW_1328.at m_1 t_2
              have fe_1353 : fld (f_1321 a_0) 8 = (v_1340 : Int32).toInt := by rw [e_1334]; rfl
              have fe_1354 : fld (f_1321 a_0) 9 = (v_1342 : Int32).toInt := by rw [e_1334]; rfl
              have fe_1355 : fld (f_1321 a_0) 10 = (v_1344 : Int32).toInt := by rw [e_1334]; rfl
              have fe_1356 : fld (f_1321 a_0) 12 = (v_1347 : Int32).toInt := by rw [e_1334]; rfl
              have fe_1357 : fld (f_1321 a_0) 20 = (v_1351 : Int32).toInt := by rw [e_1334]; rfl
              rw [fe_1356] at x_1323
              rw [fe_1353, fe_1330] at x_1324
              rw [fe_1354, fe_1331] at x_1325
              rw [fe_1355, fe_1332] at x_1326
              rw [fe_1357, fe_1333] at x_1327
              clear fe_1330 fe_1331 fe_1332 fe_1333 fe_1353 fe_1354 fe_1355 fe_1356 fe_1357
              refine v_aload_n hC dX12_readWords_62 rfl ?_
              refine v_vi hC (rest := []) m_1 e_1334 rfl mi_X12_good ms_X12_good (p_X12_good hW_1328 k_0) mx_X12_good ml_X12_139 (by decide) rfl (cells1 := 0) (slots1 := 0) (by decide) (by decide) (Nat.le_of_ble_eq_true rfl) (Nat.le_of_ble_eq_true rfl) rfl (Nat.le_of_ble_eq_true rfl) dX12_readWords_63 (fun r_1358 L_1359 f_1360 h_1361 => ?_)
              obtain ⟨rfl, rfl, b_1362, x_1363⟩ := h_1361
              have fe_1366 : fld (f_1321 a_0) 12 = (v_1347 : Int32).toInt := by rw [e_1334]; rfl
              rw [fe_1366] at x_1363
              clear fe_1366
              try simp only [Int32.reduceToInt, Int64.reduceToInt] at x_1363
              refine v_if_ne hC dX12_readWords_66 (tgt := 71) (by decide) (fun h_1367 => ?_) (fun h_1367 => ?_)
              · simp only [Int32.lt_iff_toInt_lt, Int32.le_iff_toInt_le, Int32.reduceToInt, ← Int32.toInt_inj] at h_1367
                refine v_aload_n hC dX12_readWords_71 rfl ?_
                refine v_get hC fl_X12_43 m_1 e_1334 rfl dX12_readWords_72 ?_
                refine v_aload_n hC dX12_readWords_75 rfl ?_
                refine v_get hC fl_X12_117 m_1 e_1334 rfl dX12_readWords_76 ?_
                refine v_iload_n hC dX12_readWords_79 rfl ?_
                refine v_bipush hC dX12_readWords_80 (v := 32) (by decide) ?_
                refine v_icmp_ne hC dX12_readWords_82 (tgt := 89) (by decide) (fun h_1368 => ?_) (fun h_1368 => ?_)
                · simp only [Int32.lt_iff_toInt_lt, Int32.le_iff_toInt_le, Int32.reduceToInt, ← Int32.toInt_inj] at h_1368
                  refine v_iload_n hC dX12_readWords_89 rfl ?_
                  refine v_bipush hC dX12_readWords_90 (v := 97) (by decide) ?_
                  obtain ⟨v_1369, h_1370⟩ : ∃ v9 : Int32, (sv (f_1064 a_0) (f_1064 (q 4)) v_1079) - 97 = v9 := ⟨_, rfl⟩
                  refine v_isub hC dX12_readWords_92 h_1370 ?_
                  have h_1371 := sub_v h_1370 (by first | omega | (simp only [Int32.lt_iff_toInt_lt, Int32.le_iff_toInt_le, Int32.reduceToInt, ← Int32.toInt_inj, true_and, and_true, or_true, true_or, false_or, or_false, false_and, and_false, not_true_eq_false, not_false_eq_true] <;> omega)) (by first | omega | (simp only [Int32.lt_iff_toInt_lt, Int32.le_iff_toInt_le, Int32.reduceToInt, ← Int32.toInt_inj, true_and, and_true, or_true, true_or, false_or, or_false, false_and, and_false, not_true_eq_false, not_false_eq_true] <;> omega))
                  try simp only [Int32.reduceToInt] at h_1371
                  refine v_iconst hC dX12_readWords_93 (v := 1) (by decide) ?_
                  obtain ⟨v_1372, h_1373⟩ : ∃ v9 : Int32, v_1369 + 1 = v9 := ⟨_, rfl⟩
                  refine v_iadd hC dX12_readWords_94 h_1373 ?_
                  have h_1374 := add_v h_1373 (by first | omega | (simp only [Int32.lt_iff_toInt_lt, Int32.le_iff_toInt_le, Int32.reduceToInt, ← Int32.toInt_inj, true_and, and_true, or_true, true_or, false_or, or_false, false_and, and_false, not_true_eq_false, not_false_eq_true] <;> omega)) (by first | omega | (simp only [Int32.lt_iff_toInt_lt, Int32.le_iff_toInt_le, Int32.reduceToInt, ← Int32.toInt_inj, true_and, and_true, or_true, true_or, false_or, or_false, false_and, and_false, not_true_eq_false, not_false_eq_true] <;> omega))
                  try simp only [Int32.reduceToInt] at h_1374
                  obtain ⟨m_1375, t_1376⟩ := id k_11
                  obtain ⟨g_1378, e_1377⟩ := hW_1328.at m_1375 t_1376
                  refine v_iast hC m_1375 e_1377 (vp_in_iff.mpr (by first | omega | (simp only [Int32.lt_iff_toInt_lt, Int32.le_iff_toInt_le, Int32.reduceToInt, ← Int32.toInt_inj, true_and, and_true, or_true, true_or, false_or, or_false, false_and, and_false, not_true_eq_false, not_false_eq_true] <;> omega))) dX12_readWords_95 (fun f_1379 hf_1380 hk_1381 => ?_)
                  have hW_1383 := hW_1328.up hf_1380 hk_1381 t_1376 ⟨_, rfl⟩
                  obtain ⟨g_1382, hf_1380⟩ : ∃ g9, f_1379 (q 18) = aI E 600 g9 := ⟨_, hf_1380⟩
                  have hf_1384 := (hk_1381 a_0 (ne_kd e_1334 e_1377 rfl)).trans e_1334
                  have fr_1385 := FR.w hk_1381 e_1377 (k := 700) rfl
                  refine v_aload_n hC dX12_readWords_96 rfl ?_
                  refine v_dup hC dX12_readWords_97 rfl ?_
                  refine v_get hC fl_X12_117 m_1 hf_1384 rfl dX12_readWords_98 ?_
                  refine v_iconst hC dX12_readWords_101 (v := 1) (by decide) ?_
                  obtain ⟨v_1386, h_1387⟩ : ∃ v9 : Int32, v_1342 + 1 = v9 := ⟨_, rfl⟩
                  refine v_iadd hC dX12_readWords_102 h_1387 ?_
                  have h_1388 := add_v h_1387 (by first | omega | (simp only [Int32.lt_iff_toInt_lt, Int32.le_iff_toInt_le, Int32.reduceToInt, ← Int32.toInt_inj, true_and, and_true, or_true, true_or, false_or, or_false, false_and, and_false, not_true_eq_false, not_false_eq_true] <;> omega)) (by first | omega | (simp only [Int32.lt_iff_toInt_lt, Int32.le_iff_toInt_le, Int32.reduceToInt, ← Int32.toInt_inj, true_and, and_true, or_true, true_or, false_or, or_false, false_and, and_false, not_true_eq_false, not_false_eq_true] <;> omega))
                  try simp only [Int32.reduceToInt] at h_1388
                  refine v_put hC fl_X12_117 m_1 hf_1384 rfl rfl (Nat.le_of_ble_eq_true rfl) (fs' := [.int v_1335, .ref (q 1), .ref (q 2), .ref (q 3), .ref (q 4), .int v_1336, .ref (q 6), .int v_1338, .int v_1340, .int v_1386, .int v_1344, .int v_1346, .int v_1347, .int v_1348, .ref (q 14), .ref (q 15), .ref (q 16), .int v_1349, .ref (q 18), .ref (q 19), .int v_1351, .ref (q 21), .ref (q 22), .ref (q 23), .ref (q 24), .ref (q 25), .ref (q 26), .ref (q 27), .ref (q 28)]) rfl dX12_readWords_103 (fun f_1389 hf_1390 hk_1391 => ?_)
                  have hW_1392 := hW_1383.up hf_1390 hk_1391 t_2 ⟨v_1335, v_1336, v_1338, v_1340, v_1386, v_1344, v_1346, v_1347, v_1348, v_1349, v_1351, rfl, (by first | omega | (simp only [Int32.lt_iff_toInt_lt, Int32.le_iff_toInt_le, Int32.reduceToInt, ← Int32.toInt_inj, true_and, and_true, or_true, true_or, false_or, or_false, false_and, and_false, not_true_eq_false, not_false_eq_true] <;> omega)), (by first | omega | (simp only [Int32.lt_iff_toInt_lt, Int32.le_iff_toInt_le, Int32.reduceToInt, ← Int32.toInt_inj, true_and, and_true, or_true, true_or, false_or, or_false, false_and, and_false, not_true_eq_false, not_false_eq_true] <;> omega)), (by first | omega | (simp only [Int32.lt_iff_toInt_lt, Int32.le_iff_toInt_le, Int32.reduceToInt, ← Int32.toInt_inj, true_and, and_true, or_true, true_or, false_or, or_false, false_and, and_false, not_true_eq_false, not_false_eq_true] <;> omega)), (by first | omega | (simp only [Int32.lt_iff_toInt_lt, Int32.le_iff_toInt_le, Int32.reduceToInt, ← Int32.toInt_inj, true_and, and_true, or_true, true_or, false_or, or_false, false_and, and_false, not_true_eq_false, not_false_eq_true] <;> omega)), (by first | omega | (simp only [Int32.lt_iff_toInt_lt, Int32.le_iff_toInt_le, Int32.reduceToInt, ← Int32.toInt_inj, true_and, and_true, or_true, true_or, false_or, or_false, false_and, and_false, not_true_eq_false, not_false_eq_true] <;> omega)), (by first | omega | (simp only [Int32.lt_iff_toInt_lt, Int32.le_iff_toInt_le, Int32.reduceToInt, ← Int32.toInt_inj, true_and, and_true, or_true, true_or, false_or, or_false, false_and, and_false, not_true_eq_false, not_false_eq_true] <;> omega)), (by first | omega | (simp only [Int32.lt_iff_toInt_lt, Int32.le_iff_toInt_le, Int32.reduceToInt, ← Int32.toInt_inj, true_and, and_true, or_true, true_or, false_or, or_false, false_and, and_false, not_true_eq_false, not_false_eq_true] <;> omega))⟩
                  have hf_1393 := (hk_1391 (q 18) (ne_kd hf_1380 hf_1384 rfl)).trans hf_1380
                  have fr_1394 := FR.w hk_1391 hf_1384 (k := 12) rfl
                  refine v_goto hC dX12_readWords_106 (tgt := 9) (by decide) ?_
                  refine v_pick [1] rfl ?_
                  have h_1395 : fld (f_1389 a_0) 9 = (v_1386 : Int32).toInt := by rw [hf_1390]; rfl
                  exact ih_1069 f_1389 hW_1392 ((((hF_1066.tr hF_1329).tr fr_1385).tr fr_1394).mono rfl) (by rw [h_1395]; omega)
                · simp only [Int32.lt_iff_toInt_lt, Int32.le_iff_toInt_le, Int32.reduceToInt, ← Int32.toInt_inj] at h_1368
                  refine v_iconst hC dX12_readWords_85 (v := 0) (by decide) ?_
                  refine v_goto hC dX12_readWords_86 (tgt := 95) (by decide) ?_
                  obtain ⟨m_1396, t_1397⟩ := id k_11
                  obtain ⟨g_1399, e_1398⟩ := hW_1328.at m_1396 t_1397
                  refine v_iast hC m_1396 e_1398 (vp_in_iff.mpr (by first | omega | (simp only [Int32.lt_iff_toInt_lt, Int32.le_iff_toInt_le, Int32.reduceToInt, ← Int32.toInt_inj, true_and, and_true, or_true, true_or, false_or, or_false, false_and, and_false, not_true_eq_false, not_false_eq_true] <;> omega))) dX12_readWords_95 (fun f_1400 hf_1401 hk_1402 => ?_)
                  have hW_1404 := hW_1328.up hf_1401 hk_1402 t_1397 ⟨_, rfl⟩
                  obtain ⟨g_1403, hf_1401⟩ : ∃ g9, f_1400 (q 18) = aI E 600 g9 := ⟨_, hf_1401⟩
                  have hf_1405 := (hk_1402 a_0 (ne_kd e_1334 e_1398 rfl)).trans e_1334
                  have fr_1406 := FR.w hk_1402 e_1398 (k := 700) rfl
                  refine v_aload_n hC dX12_readWords_96 rfl ?_
                  refine v_dup hC dX12_readWords_97 rfl ?_
                  refine v_get hC fl_X12_117 m_1 hf_1405 rfl dX12_readWords_98 ?_
                  refine v_iconst hC dX12_readWords_101 (v := 1) (by decide) ?_
                  obtain ⟨v_1407, h_1408⟩ : ∃ v9 : Int32, v_1342 + 1 = v9 := ⟨_, rfl⟩
                  refine v_iadd hC dX12_readWords_102 h_1408 ?_
                  have h_1409 := add_v h_1408 (by first | omega | (simp only [Int32.lt_iff_toInt_lt, Int32.le_iff_toInt_le, Int32.reduceToInt, ← Int32.toInt_inj, true_and, and_true, or_true, true_or, false_or, or_false, false_and, and_false, not_true_eq_false, not_false_eq_true] <;> omega)) (by first | omega | (simp only [Int32.lt_iff_toInt_lt, Int32.le_iff_toInt_le, Int32.reduceToInt, ← Int32.toInt_inj, true_and, and_true, or_true, true_or, false_or, or_false, false_and, and_false, not_true_eq_false, not_false_eq_true] <;> omega))
                  try simp only [Int32.reduceToInt] at h_1409
                  refine v_put hC fl_X12_117 m_1 hf_1405 rfl rfl (Nat.le_of_ble_eq_true rfl) (fs' := [.int v_1335, .ref (q 1), .ref (q 2), .ref (q 3), .ref (q 4), .int v_1336, .ref (q 6), .int v_1338, .int v_1340, .int v_1407, .int v_1344, .int v_1346, .int v_1347, .int v_1348, .ref (q 14), .ref (q 15), .ref (q 16), .int v_1349, .ref (q 18), .ref (q 19), .int v_1351, .ref (q 21), .ref (q 22), .ref (q 23), .ref (q 24), .ref (q 25), .ref (q 26), .ref (q 27), .ref (q 28)]) rfl dX12_readWords_103 (fun f_1410 hf_1411 hk_1412 => ?_)
                  have hW_1413 := hW_1404.up hf_1411 hk_1412 t_2 ⟨v_1335, v_1336, v_1338, v_1340, v_1407, v_1344, v_1346, v_1347, v_1348, v_1349, v_1351, rfl, (by first | omega | (simp only [Int32.lt_iff_toInt_lt, Int32.le_iff_toInt_le, Int32.reduceToInt, ← Int32.toInt_inj, true_and, and_true, or_true, true_or, false_or, or_false, false_and, and_false, not_true_eq_false, not_false_eq_true] <;> omega)), (by first | omega | (simp only [Int32.lt_iff_toInt_lt, Int32.le_iff_toInt_le, Int32.reduceToInt, ← Int32.toInt_inj, true_and, and_true, or_true, true_or, false_or, or_false, false_and, and_false, not_true_eq_false, not_false_eq_true] <;> omega)), (by first | omega | (simp only [Int32.lt_iff_toInt_lt, Int32.le_iff_toInt_le, Int32.reduceToInt, ← Int32.toInt_inj, true_and, and_true, or_true, true_or, false_or, or_false, false_and, and_false, not_true_eq_false, not_false_eq_true] <;> omega)), (by first | omega | (simp only [Int32.lt_iff_toInt_lt, Int32.le_iff_toInt_le, Int32.reduceToInt, ← Int32.toInt_inj, true_and, and_true, or_true, true_or, false_or, or_false, false_and, and_false, not_true_eq_false, not_false_eq_true] <;> omega)), (by first | omega | (simp only [Int32.lt_iff_toInt_lt, Int32.le_iff_toInt_le, Int32.reduceToInt, ← Int32.toInt_inj, true_and, and_true, or_true, true_or, false_or, or_false, false_and, and_false, not_true_eq_false, not_false_eq_true] <;> omega)), (by first | omega | (simp only [Int32.lt_iff_toInt_lt, Int32.le_iff_toInt_le, Int32.reduceToInt, ← Int32.toInt_inj, true_and, and_true, or_true, true_or, false_or, or_false, false_and, and_false, not_true_eq_false, not_false_eq_true] <;> omega)), (by first | omega | (simp only [Int32.lt_iff_toInt_lt, Int32.le_iff_toInt_le, Int32.reduceToInt, ← Int32.toInt_inj, true_and, and_true, or_true, true_or, false_or, or_false, false_and, and_false, not_true_eq_false, not_false_eq_true] <;> omega))⟩
                  have hf_1414 := (hk_1412 (q 18) (ne_kd hf_1401 hf_1405 rfl)).trans hf_1401
                  have fr_1415 := FR.w hk_1412 hf_1405 (k := 12) rfl
                  refine v_goto hC dX12_readWords_106 (tgt := 9) (by decide) ?_
                  refine v_pick [1] rfl ?_
                  have h_1416 : fld (f_1410 a_0) 9 = (v_1407 : Int32).toInt := by rw [hf_1411]; rfl
                  exact ih_1069 f_1410 hW_1413 ((((hF_1066.tr hF_1329).tr fr_1406).tr fr_1415).mono rfl) (by rw [h_1416]; omega)
              · simp only [Int32.lt_iff_toInt_lt, Int32.le_iff_toInt_le, Int32.reduceToInt, ← Int32.toInt_inj] at h_1367
                refine v_iconst hC dX12_readWords_69 (v := (-1)) (by decide) ?_
                exact hR _ _ _ _ _ _ _ dX12_readWords_70 rfl (Nat.le_of_ble_eq_true rfl) (Nat.le_of_ble_eq_true rfl) ⟨rfl, hW_1328, ((((hF_49.tr fr_77).tr hF_1066).tr hF_1329).mono rfl), (by decide)⟩
  refine v_pick [0] rfl ?_
  have h_1417 : fld (f_73 a_0) 9 = (0 : Int32).toInt := by rw [hf_74]; rfl
  exact lp_1067 602 f_73 hW_76 FR.rf (by rw [h_1417]; decide)
set_option maxRecDepth 100000 in
set_option maxHeartbeats 8000000 in
theorem p_X12_isCloth {l : Launch} {E : Ez} {L : List Nat} {f : Nat → va_E} {T : Nat → va_E → Prop} {a_0 : Int32} (hW : WT T L f) : CI l yX12_isCloth cX12_isCloth 1 .boolean 1 0 0 E [.int a_0] L f (fun r L1 f1 => L = L1 ∧ f = f1 ∧ (0 ≤ r.toInt ∧ r.toInt ≤ 1) ∧ (r.toInt = 0 ∨ (0 ≤ a_0.toInt ∧ a_0.toInt ≤ 3))) := by
  refine ci_of (by decide) (Nat.le_of_ble_eq_true rfl) (fun z hz hnm hC hR => ?_)
  have hC : Cx z E cX12_isCloth RX12 1 1 0 0 := hC
  subst hz
  show V z E 1 0 0 L f 0 [(0, .int a_0)] []
  refine v_iload_n hC dX12_isCloth_0 rfl ?_
  obtain ⟨v_1, h_2⟩ : ∃ v9 : Int64, a_0.toInt64 = v9 := ⟨_, rfl⟩
  refine v_i2l hC dX12_isCloth_1 h_2 ?_
  have h_3 : v_1.toInt = a_0.toInt := by rw [← h_2]; exact Int32.toInt_toInt64 _
  refine v_lconst hC dX12_isCloth_2 (v := 0) (by decide) ?_
  refine v_ldc2 hC kl_X12_90 dX12_isCloth_3 ?_
  refine v_si hC (rest := []) mt_X12_in (p_X12_in hW) mx_X12_in ml_X12_79 (by decide) rfl (cells1 := 0) (slots1 := 0) (by decide) (by decide) (Nat.le_of_ble_eq_true rfl) (Nat.le_of_ble_eq_true rfl) rfl (Nat.le_of_ble_eq_true rfl) dX12_isCloth_6 (fun r_4 L_5 f_6 h_7 => ?_)
  obtain ⟨rfl, rfl, b_8, x_9⟩ := h_7
  try simp only [Int32.reduceToInt, Int64.reduceToInt] at x_9
  exact hR _ _ _ _ _ _ _ dX12_isCloth_9 (nar01 (by first | omega | (simp only [Int32.lt_iff_toInt_lt, Int32.le_iff_toInt_le, Int32.reduceToInt, ← Int32.toInt_inj, true_and, and_true, or_true, true_or, false_or, or_false, false_and, and_false, not_true_eq_false, not_false_eq_true] <;> omega))) (Nat.le_of_ble_eq_true rfl) (Nat.le_of_ble_eq_true rfl) ⟨rfl, rfl, (by first | omega | (simp only [Int32.lt_iff_toInt_lt, Int32.le_iff_toInt_le, Int32.reduceToInt, ← Int32.toInt_inj, true_and, and_true, or_true, true_or, false_or, or_false, false_and, and_false, not_true_eq_false, not_false_eq_true] <;> omega)), (by first | omega | (simp only [Int32.lt_iff_toInt_lt, Int32.le_iff_toInt_le, Int32.reduceToInt, ← Int32.toInt_inj, true_and, and_true, or_true, true_or, false_or, or_false, false_and, and_false, not_true_eq_false, not_false_eq_true] <;> omega))⟩
set_option maxRecDepth 100000 in
set_option maxHeartbeats 8000000 in
theorem p_X12_isWay {l : Launch} {E : Ez} {L : List Nat} {f : Nat → va_E} {T : Nat → va_E → Prop} {a_0 : Int32} (hW : WT T L f) : CI l yX12_isWay cX12_isWay 1 .boolean 1 0 0 E [.int a_0] L f (fun r L1 f1 => L = L1 ∧ f = f1 ∧ (0 ≤ r.toInt ∧ r.toInt ≤ 1) ∧ (r.toInt = 0 ∨ (0 ≤ a_0.toInt ∧ a_0.toInt ≤ 5))) := by
  refine ci_of (by decide) (Nat.le_of_ble_eq_true rfl) (fun z hz hnm hC hR => ?_)
  have hC : Cx z E cX12_isWay RX12 1 1 0 0 := hC
  subst hz
  show V z E 1 0 0 L f 0 [(0, .int a_0)] []
  refine v_iload_n hC dX12_isWay_0 rfl ?_
  obtain ⟨v_1, h_2⟩ : ∃ v9 : Int64, a_0.toInt64 = v9 := ⟨_, rfl⟩
  refine v_i2l hC dX12_isWay_1 h_2 ?_
  have h_3 : v_1.toInt = a_0.toInt := by rw [← h_2]; exact Int32.toInt_toInt64 _
  refine v_lconst hC dX12_isWay_2 (v := 0) (by decide) ?_
  refine v_ldc2 hC kl_X12_92 dX12_isWay_3 ?_
  refine v_si hC (rest := []) mt_X12_in (p_X12_in hW) mx_X12_in ml_X12_79 (by decide) rfl (cells1 := 0) (slots1 := 0) (by decide) (by decide) (Nat.le_of_ble_eq_true rfl) (Nat.le_of_ble_eq_true rfl) rfl (Nat.le_of_ble_eq_true rfl) dX12_isWay_6 (fun r_4 L_5 f_6 h_7 => ?_)
  obtain ⟨rfl, rfl, b_8, x_9⟩ := h_7
  try simp only [Int32.reduceToInt, Int64.reduceToInt] at x_9
  exact hR _ _ _ _ _ _ _ dX12_isWay_9 (nar01 (by first | omega | (simp only [Int32.lt_iff_toInt_lt, Int32.le_iff_toInt_le, Int32.reduceToInt, ← Int32.toInt_inj, true_and, and_true, or_true, true_or, false_or, or_false, false_and, and_false, not_true_eq_false, not_false_eq_true] <;> omega))) (Nat.le_of_ble_eq_true rfl) (Nat.le_of_ble_eq_true rfl) ⟨rfl, rfl, (by first | omega | (simp only [Int32.lt_iff_toInt_lt, Int32.le_iff_toInt_le, Int32.reduceToInt, ← Int32.toInt_inj, true_and, and_true, or_true, true_or, false_or, or_false, false_and, and_false, not_true_eq_false, not_false_eq_true] <;> omega)), (by first | omega | (simp only [Int32.lt_iff_toInt_lt, Int32.le_iff_toInt_le, Int32.reduceToInt, ← Int32.toInt_inj, true_and, and_true, or_true, true_or, false_or, or_false, false_and, and_false, not_true_eq_false, not_false_eq_true] <;> omega))⟩
set_option maxRecDepth 100000 in
set_option maxHeartbeats 8000000 in
theorem p_X12_isThere {l : Launch} {E : Ez} {L : List Nat} {f : Nat → va_E} {T : Nat → va_E → Prop} {a_0 : Nat} {a_1 : Int32} {q : Nat → Nat} {g_w : Nat → Int32} (hW : WT T L f) (k_0 : isM T L E a_0 q) (g_1 : (0 ≤ a_1.toInt ∧ a_1.toInt ≤ 3)) (e_w : f (q 1) = aI E 2076 g_w) (o_w : WOK g_w) : CI l yX12_isThere cX12_isThere 2 .boolean 0 0 0 E [.ref a_0, .int a_1] L f (fun r L1 f1 => L = L1 ∧ f = f1 ∧ (0 ≤ r.toInt ∧ r.toInt ≤ 1)) := by
  refine ci_of (by decide) (Nat.le_of_ble_eq_true rfl) (fun z hz hnm hC hR => ?_)
  have hC : Cx z E cX12_isThere RX12 2 0 0 0 := hC
  subst hz
  show V z E 2 0 0 L f 0 [(0, .ref a_0), (1, .int a_1)] []
  obtain ⟨m_1, t_2, nq_21, k_3, k_4, k_5, k_6, k_7, k_8, k_9, k_10, k_11, k_12, k_13, k_14, k_15, k_16, k_17, k_18, k_19, k_20⟩ := id k_0
  obtain ⟨m_22, t_23⟩ := id k_3
  have b_24 := o_w.r0
  have b_25 := o_w.w0
  refine v_aload_n hC dX12_isThere_0 rfl ?_
  obtain ⟨v_27, v_28, v_30, v_32, v_34, v_36, v_38, v_39, v_40, v_41, v_43, e_26, b_29, b_31, b_33, b_35, b_37, b_42, b_44⟩ := hW.at m_1 t_2
  refine v_get hC fl_X12_13 m_1 e_26 rfl dX12_isThere_1 ?_
  refine v_sipush hC dX12_isThere_4 (v := 1048) (by decide) ?_
  refine v_sipush hC dX12_isThere_7 (v := 257) (by decide) ?_
  refine v_iload_n hC dX12_isThere_10 rfl ?_
  obtain ⟨v_45, h_46⟩ : ∃ v9 : Int32, (257 : Int32) * a_1 = v9 := ⟨_, rfl⟩
  refine v_imul hC dX12_isThere_11 h_46 ?_
  have h_47 := mul_v 257 3 771 h_46 (by decide) (by first | omega | (simp only [Int32.lt_iff_toInt_lt, Int32.le_iff_toInt_le, Int32.reduceToInt, ← Int32.toInt_inj, true_and, and_true, or_true, true_or, false_or, or_false, false_and, and_false, not_true_eq_false, not_false_eq_true] <;> omega)) (by decide) (by decide)
  try simp only [Int32.reduceToInt] at h_47
  obtain ⟨v_48, h_49⟩ : ∃ v9 : Int32, (1048 : Int32) + v_45 = v9 := ⟨_, rfl⟩
  refine v_iadd hC dX12_isThere_12 h_49 ?_
  have h_50 := add_v h_49 (by first | omega | (simp only [Int32.lt_iff_toInt_lt, Int32.le_iff_toInt_le, Int32.reduceToInt, ← Int32.toInt_inj, true_and, and_true, or_true, true_or, false_or, or_false, false_and, and_false, not_true_eq_false, not_false_eq_true] <;> omega)) (by first | omega | (simp only [Int32.lt_iff_toInt_lt, Int32.le_iff_toInt_le, Int32.reduceToInt, ← Int32.toInt_inj, true_and, and_true, or_true, true_or, false_or, or_false, false_and, and_false, not_true_eq_false, not_false_eq_true] <;> omega))
  try simp only [Int32.reduceToInt] at h_50
  obtain ⟨v_51, h_52⟩ : ∃ v9 : Int32, g_w (v_48 : Int32).toNatClampNeg = v9 := ⟨_, rfl⟩
  refine v_iald hC m_22 e_w (vp_in_iff.mpr (by first | omega | (simp only [Int32.lt_iff_toInt_lt, Int32.le_iff_toInt_le, Int32.reduceToInt, ← Int32.toInt_inj, true_and, and_true, or_true, true_or, false_or, or_false, false_and, and_false, not_true_eq_false, not_false_eq_true] <;> omega))) h_52 dX12_isThere_13 ?_
  refine v_iconst hC dX12_isThere_14 (v := 1) (by decide) ?_
  refine v_icmp_ne hC dX12_isThere_15 (tgt := 22) (by decide) (fun h_53 => ?_) (fun h_53 => ?_)
  · simp only [Int32.lt_iff_toInt_lt, Int32.le_iff_toInt_le, Int32.reduceToInt, ← Int32.toInt_inj] at h_53
    refine v_iconst hC dX12_isThere_22 (v := 0) (by decide) ?_
    exact hR _ _ _ _ _ _ _ dX12_isThere_23 rfl (Nat.le_of_ble_eq_true rfl) (Nat.le_of_ble_eq_true rfl) ⟨rfl, rfl, (by decide)⟩
  · simp only [Int32.lt_iff_toInt_lt, Int32.le_iff_toInt_le, Int32.reduceToInt, ← Int32.toInt_inj] at h_53
    refine v_iconst hC dX12_isThere_18 (v := 1) (by decide) ?_
    refine v_goto hC dX12_isThere_19 (tgt := 23) (by decide) ?_
    exact hR _ _ _ _ _ _ _ dX12_isThere_23 rfl (Nat.le_of_ble_eq_true rfl) (Nat.le_of_ble_eq_true rfl) ⟨rfl, rfl, (by decide)⟩
set_option maxRecDepth 100000 in
set_option maxHeartbeats 8000000 in
theorem p_X12_ofWay {l : Launch} {E : Ez} {L : List Nat} {f : Nat → va_E} {T : Nat → va_E → Prop} {a_0 : Nat} {a_1 : Int32} {a_2 : Int32} {q : Nat → Nat} {g_w : Nat → Int32} (hW : WT T L f) (k_0 : isM T L E a_0 q) (g_1 : (0 ≤ a_1.toInt ∧ a_1.toInt ≤ 5)) (g_2 : (0 ≤ a_2.toInt ∧ a_2.toInt ≤ 6)) (e_w : f (q 1) = aI E 2076 g_w) (o_w : WOK g_w) : CI l yX12_ofWay cX12_ofWay 3 .int 0 0 0 E [.ref a_0, .int a_1, .int a_2] L f (fun r L1 f1 => L = L1 ∧ f = f1 ∧ r = (wv g_w a_1 a_2)) := by
  refine ci_of (by decide) (Nat.le_of_ble_eq_true rfl) (fun z hz hnm hC hR => ?_)
  have hC : Cx z E cX12_ofWay RX12 3 0 0 0 := hC
  subst hz
  show V z E 3 0 0 L f 0 [(0, .ref a_0), (1, .int a_1), (2, .int a_2)] []
  obtain ⟨m_1, t_2, nq_21, k_3, k_4, k_5, k_6, k_7, k_8, k_9, k_10, k_11, k_12, k_13, k_14, k_15, k_16, k_17, k_18, k_19, k_20⟩ := id k_0
  obtain ⟨m_22, t_23⟩ := id k_3
  have b_24 := o_w.r0
  have b_25 := o_w.w0
  refine v_aload_n hC dX12_ofWay_0 rfl ?_
  obtain ⟨v_27, v_28, v_30, v_32, v_34, v_36, v_38, v_39, v_40, v_41, v_43, e_26, b_29, b_31, b_33, b_35, b_37, b_42, b_44⟩ := hW.at m_1 t_2
  refine v_get hC fl_X12_13 m_1 e_26 rfl dX12_ofWay_1 ?_
  refine v_bipush hC dX12_ofWay_4 (v := 120) (by decide) ?_
  refine v_bipush hC dX12_ofWay_6 (v := 7) (by decide) ?_
  refine v_iload_n hC dX12_ofWay_8 rfl ?_
  obtain ⟨v_45, h_46⟩ : ∃ v9 : Int32, (7 : Int32) * a_1 = v9 := ⟨_, rfl⟩
  refine v_imul hC dX12_ofWay_9 h_46 ?_
  have h_47 := mul_v 7 5 35 h_46 (by decide) (by first | omega | (simp only [Int32.lt_iff_toInt_lt, Int32.le_iff_toInt_le, Int32.reduceToInt, ← Int32.toInt_inj, true_and, and_true, or_true, true_or, false_or, or_false, false_and, and_false, not_true_eq_false, not_false_eq_true] <;> omega)) (by decide) (by decide)
  try simp only [Int32.reduceToInt] at h_47
  obtain ⟨v_48, h_49⟩ : ∃ v9 : Int32, (120 : Int32) + v_45 = v9 := ⟨_, rfl⟩
  refine v_iadd hC dX12_ofWay_10 h_49 ?_
  have h_50 := add_v h_49 (by first | omega | (simp only [Int32.lt_iff_toInt_lt, Int32.le_iff_toInt_le, Int32.reduceToInt, ← Int32.toInt_inj, true_and, and_true, or_true, true_or, false_or, or_false, false_and, and_false, not_true_eq_false, not_false_eq_true] <;> omega)) (by first | omega | (simp only [Int32.lt_iff_toInt_lt, Int32.le_iff_toInt_le, Int32.reduceToInt, ← Int32.toInt_inj, true_and, and_true, or_true, true_or, false_or, or_false, false_and, and_false, not_true_eq_false, not_false_eq_true] <;> omega))
  try simp only [Int32.reduceToInt] at h_50
  refine v_iload_n hC dX12_ofWay_11 rfl ?_
  obtain ⟨v_51, h_52⟩ : ∃ v9 : Int32, v_48 + a_2 = v9 := ⟨_, rfl⟩
  refine v_iadd hC dX12_ofWay_12 h_52 ?_
  have h_53 := add_v h_52 (by first | omega | (simp only [Int32.lt_iff_toInt_lt, Int32.le_iff_toInt_le, Int32.reduceToInt, ← Int32.toInt_inj, true_and, and_true, or_true, true_or, false_or, or_false, false_and, and_false, not_true_eq_false, not_false_eq_true] <;> omega)) (by first | omega | (simp only [Int32.lt_iff_toInt_lt, Int32.le_iff_toInt_le, Int32.reduceToInt, ← Int32.toInt_inj, true_and, and_true, or_true, true_or, false_or, or_false, false_and, and_false, not_true_eq_false, not_false_eq_true] <;> omega))
  obtain ⟨v_54, h_55⟩ : ∃ v9 : Int32, g_w (v_51 : Int32).toNatClampNeg = v9 := ⟨_, rfl⟩
  refine v_iald hC m_22 e_w (vp_in_iff.mpr (by first | omega | (simp only [Int32.lt_iff_toInt_lt, Int32.le_iff_toInt_le, Int32.reduceToInt, ← Int32.toInt_inj, true_and, and_true, or_true, true_or, false_or, or_false, false_and, and_false, not_true_eq_false, not_false_eq_true] <;> omega))) h_55 dX12_ofWay_13 ?_
  exact hR _ _ _ _ _ _ _ dX12_ofWay_14 rfl (Nat.le_of_ble_eq_true rfl) (Nat.le_of_ble_eq_true rfl) ⟨rfl, rfl, (h_55.symm.trans (wv_eq (by omega) (by omega) (by omega)))⟩
set_option maxRecDepth 100000 in
set_option maxHeartbeats 8000000 in
theorem p_X12_isTold {l : Launch} {E : Ez} {L : List Nat} {f : Nat → va_E} {T : Nat → va_E → Prop} {a_0 : Nat} {a_1 : Int32} {q : Nat → Nat} {g_w : Nat → Int32} (hW : WT T L f) (k_0 : isM T L E a_0 q) (g_1 : (0 ≤ a_1.toInt ∧ a_1.toInt ≤ 5)) (e_w : f (q 1) = aI E 2076 g_w) (o_w : WOK g_w) : CI l yX12_isTold cX12_isTold 2 .boolean 1 0 0 E [.ref a_0, .int a_1] L f (fun r L1 f1 => L = L1 ∧ f = f1 ∧ (0 ≤ r.toInt ∧ r.toInt ≤ 1) ∧ (r.toInt = 0 ∨ (wv g_w a_1 0).toInt = 1)) := by
  refine ci_of (by decide) (Nat.le_of_ble_eq_true rfl) (fun z hz hnm hC hR => ?_)
  have hC : Cx z E cX12_isTold RX12 2 1 0 0 := hC
  subst hz
  show V z E 2 0 0 L f 0 [(0, .ref a_0), (1, .int a_1)] []
  obtain ⟨m_1, t_2, nq_21, k_3, k_4, k_5, k_6, k_7, k_8, k_9, k_10, k_11, k_12, k_13, k_14, k_15, k_16, k_17, k_18, k_19, k_20⟩ := id k_0
  obtain ⟨m_22, t_23⟩ := id k_3
  have b_24 := o_w.r0
  have b_25 := o_w.w0
  refine v_aload_n hC dX12_isTold_0 rfl ?_
  refine v_iload_n hC dX12_isTold_1 rfl ?_
  refine v_iconst hC dX12_isTold_2 (v := 0) (by decide) ?_
  obtain ⟨v_27, v_28, v_30, v_32, v_34, v_36, v_38, v_39, v_40, v_41, v_43, e_26, b_29, b_31, b_33, b_35, b_37, b_42, b_44⟩ := hW.at m_1 t_2
  refine v_vi hC (rest := []) m_1 e_26 rfl mi_X12_ofWay ms_X12_ofWay (p_X12_ofWay hW k_0 (by first | omega | (simp only [Int32.lt_iff_toInt_lt, Int32.le_iff_toInt_le, Int32.reduceToInt, ← Int32.toInt_inj, true_and, and_true, or_true, true_or, false_or, or_false, false_and, and_false, not_true_eq_false, not_false_eq_true] <;> omega)) (by decide) e_w o_w) mx_X12_ofWay ml_X12_94 (by decide) rfl (cells1 := 0) (slots1 := 0) (by decide) (by decide) (Nat.le_of_ble_eq_true rfl) (Nat.le_of_ble_eq_true rfl) rfl (Nat.le_of_ble_eq_true rfl) dX12_isTold_3 (fun r_45 L_46 f_47 h_48 => ?_)
  obtain ⟨rfl, rfl, rfl⟩ := h_48
  refine v_iconst hC dX12_isTold_6 (v := 1) (by decide) ?_
  refine v_icmp_ne hC dX12_isTold_7 (tgt := 14) (by decide) (fun h_51 => ?_) (fun h_51 => ?_)
  · simp only [Int32.lt_iff_toInt_lt, Int32.le_iff_toInt_le, Int32.reduceToInt, ← Int32.toInt_inj] at h_51
    refine v_iconst hC dX12_isTold_14 (v := 0) (by decide) ?_
    exact hR _ _ _ _ _ _ _ dX12_isTold_15 rfl (Nat.le_of_ble_eq_true rfl) (Nat.le_of_ble_eq_true rfl) ⟨rfl, rfl, (by decide), (by first | omega | (simp only [Int32.lt_iff_toInt_lt, Int32.le_iff_toInt_le, Int32.reduceToInt, ← Int32.toInt_inj, true_and, and_true, or_true, true_or, false_or, or_false, false_and, and_false, not_true_eq_false, not_false_eq_true] <;> omega))⟩
  · simp only [Int32.lt_iff_toInt_lt, Int32.le_iff_toInt_le, Int32.reduceToInt, ← Int32.toInt_inj] at h_51
    refine v_iconst hC dX12_isTold_10 (v := 1) (by decide) ?_
    refine v_goto hC dX12_isTold_11 (tgt := 15) (by decide) ?_
    exact hR _ _ _ _ _ _ _ dX12_isTold_15 rfl (Nat.le_of_ble_eq_true rfl) (Nat.le_of_ble_eq_true rfl) ⟨rfl, rfl, (by decide), (by first | omega | (simp only [Int32.lt_iff_toInt_lt, Int32.le_iff_toInt_le, Int32.reduceToInt, ← Int32.toInt_inj, true_and, and_true, or_true, true_or, false_or, or_false, false_and, and_false, not_true_eq_false, not_false_eq_true] <;> omega))⟩
set_option maxRecDepth 100000 in
set_option maxHeartbeats 8000000 in
theorem p_X12_asks {l : Launch} {E : Ez} {L : List Nat} {f : Nat → va_E} {T : Nat → va_E → Prop} {a_0 : Nat} {a_1 : Int32} {a_2 : Int32} {q : Nat → Nat} {g_w : Nat → Int32} (hW : WT T L f) (k_0 : isM T L E a_0 q) (e_w : f (q 1) = aI E 2076 g_w) (o_w : WOK g_w) : CI l yX12_asks cX12_asks 3 .int 2 0 0 E [.ref a_0, .int a_1, .int a_2] L f (fun r L1 f1 => L = L1 ∧ f = f1 ∧ ((-6) ≤ r.toInt ∧ r.toInt ≤ 0) ∧ (¬ r.toInt = 0 ∨ (0 ≤ a_1.toInt ∧ a_1.toInt ≤ 3)) ∧ (¬ r.toInt = 0 ∨ (0 ≤ a_2.toInt ∧ a_2.toInt ≤ 5)) ∧ (¬ r.toInt = 0 ∨ (wv g_w a_2 0).toInt = 1)) := by
  refine ci_of (by decide) (Nat.le_of_ble_eq_true rfl) (fun z hz hnm hC hR => ?_)
  have hC : Cx z E cX12_asks RX12 3 2 0 0 := hC
  subst hz
  show V z E 3 0 0 L f 0 [(0, .ref a_0), (1, .int a_1), (2, .int a_2)] []
  obtain ⟨m_1, t_2, nq_21, k_3, k_4, k_5, k_6, k_7, k_8, k_9, k_10, k_11, k_12, k_13, k_14, k_15, k_16, k_17, k_18, k_19, k_20⟩ := id k_0
  obtain ⟨m_22, t_23⟩ := id k_3
  have b_24 := o_w.r0
  have b_25 := o_w.w0
  refine v_iload_n hC dX12_asks_0 rfl ?_
  refine v_si hC (rest := []) mt_X12_isCloth (p_X12_isCloth hW) mx_X12_isCloth ml_X12_319 (by decide) rfl (cells1 := 0) (slots1 := 0) (by decide) (by decide) (Nat.le_of_ble_eq_true rfl) (Nat.le_of_ble_eq_true rfl) rfl (Nat.le_of_ble_eq_true rfl) dX12_asks_1 (fun r_26 L_27 f_28 h_29 => ?_)
  obtain ⟨rfl, rfl, b_30, h_31⟩ := h_29
  refine v_if_eq hC dX12_asks_4 (tgt := 14) (by decide) (fun h_34 => ?_) (fun h_34 => ?_)
  · simp only [Int32.lt_iff_toInt_lt, Int32.le_iff_toInt_le, Int32.reduceToInt, ← Int32.toInt_inj] at h_34
    refine v_bipush hC dX12_asks_14 (v := (-2)) (by decide) ?_
    refine v_goto hC dX12_asks_16 (tgt := 41) (by decide) ?_
    exact hR _ _ _ _ _ _ _ dX12_asks_41 rfl (Nat.le_of_ble_eq_true rfl) (Nat.le_of_ble_eq_true rfl) ⟨rfl, rfl, (by decide), (.inl (by decide)), (.inl (by decide)), (by first | omega | (simp only [Int32.lt_iff_toInt_lt, Int32.le_iff_toInt_le, Int32.reduceToInt, ← Int32.toInt_inj, true_and, and_true, or_true, true_or, false_or, or_false, false_and, and_false, not_true_eq_false, not_false_eq_true] <;> omega))⟩
  · simp only [Int32.lt_iff_toInt_lt, Int32.le_iff_toInt_le, Int32.reduceToInt, ← Int32.toInt_inj] at h_34
    refine v_iload_n hC dX12_asks_7 rfl ?_
    refine v_si hC (rest := []) mt_X12_isWay (p_X12_isWay hW) mx_X12_isWay ml_X12_221 (by decide) rfl (cells1 := 0) (slots1 := 0) (by decide) (by decide) (Nat.le_of_ble_eq_true rfl) (Nat.le_of_ble_eq_true rfl) rfl (Nat.le_of_ble_eq_true rfl) dX12_asks_8 (fun r_35 L_36 f_37 h_38 => ?_)
    obtain ⟨rfl, rfl, b_39, h_40⟩ := h_38
    refine v_if_ne hC dX12_asks_11 (tgt := 19) (by decide) (fun h_43 => ?_) (fun h_43 => ?_)
    · simp only [Int32.lt_iff_toInt_lt, Int32.le_iff_toInt_le, Int32.reduceToInt, ← Int32.toInt_inj] at h_43
      refine v_aload_n hC dX12_asks_19 rfl ?_
      refine v_iload_n hC dX12_asks_20 rfl ?_
      obtain ⟨v_45, v_46, v_48, v_50, v_52, v_54, v_56, v_57, v_58, v_59, v_61, e_44, b_47, b_49, b_51, b_53, b_55, b_60, b_62⟩ := hW.at m_1 t_2
      refine v_vi hC (rest := []) m_1 e_44 rfl mi_X12_isThere ms_X12_isThere (p_X12_isThere hW k_0 (by first | omega | (simp only [Int32.lt_iff_toInt_lt, Int32.le_iff_toInt_le, Int32.reduceToInt, ← Int32.toInt_inj, true_and, and_true, or_true, true_or, false_or, or_false, false_and, and_false, not_true_eq_false, not_false_eq_true] <;> omega)) e_w o_w) mx_X12_isThere ml_X12_351 (by decide) rfl (cells1 := 0) (slots1 := 0) (by decide) (by decide) (Nat.le_of_ble_eq_true rfl) (Nat.le_of_ble_eq_true rfl) rfl (Nat.le_of_ble_eq_true rfl) dX12_asks_21 (fun r_63 L_64 f_65 h_66 => ?_)
      obtain ⟨rfl, rfl, b_67⟩ := h_66
      refine v_if_eq hC dX12_asks_24 (tgt := 35) (by decide) (fun h_70 => ?_) (fun h_70 => ?_)
      · simp only [Int32.lt_iff_toInt_lt, Int32.le_iff_toInt_le, Int32.reduceToInt, ← Int32.toInt_inj] at h_70
        refine v_bipush hC dX12_asks_35 (v := (-6)) (by decide) ?_
        refine v_goto hC dX12_asks_37 (tgt := 41) (by decide) ?_
        exact hR _ _ _ _ _ _ _ dX12_asks_41 rfl (Nat.le_of_ble_eq_true rfl) (Nat.le_of_ble_eq_true rfl) ⟨rfl, rfl, (by decide), (.inl (by decide)), (.inl (by decide)), (by first | omega | (simp only [Int32.lt_iff_toInt_lt, Int32.le_iff_toInt_le, Int32.reduceToInt, ← Int32.toInt_inj, true_and, and_true, or_true, true_or, false_or, or_false, false_and, and_false, not_true_eq_false, not_false_eq_true] <;> omega))⟩
      · simp only [Int32.lt_iff_toInt_lt, Int32.le_iff_toInt_le, Int32.reduceToInt, ← Int32.toInt_inj] at h_70
        refine v_aload_n hC dX12_asks_27 rfl ?_
        refine v_iload_n hC dX12_asks_28 rfl ?_
        refine v_vi hC (rest := []) m_1 e_44 rfl mi_X12_isTold ms_X12_isTold (p_X12_isTold hW k_0 (by first | omega | (simp only [Int32.lt_iff_toInt_lt, Int32.le_iff_toInt_le, Int32.reduceToInt, ← Int32.toInt_inj, true_and, and_true, or_true, true_or, false_or, or_false, false_and, and_false, not_true_eq_false, not_false_eq_true] <;> omega)) e_w o_w) mx_X12_isTold ml_X12_354 (by decide) rfl (cells1 := 0) (slots1 := 0) (by decide) (by decide) (Nat.le_of_ble_eq_true rfl) (Nat.le_of_ble_eq_true rfl) rfl (Nat.le_of_ble_eq_true rfl) dX12_asks_29 (fun r_71 L_72 f_73 h_74 => ?_)
        obtain ⟨rfl, rfl, b_75, x_76⟩ := h_74
        try simp only [Int32.reduceToInt, Int64.reduceToInt] at x_76
        refine v_if_ne hC dX12_asks_32 (tgt := 40) (by decide) (fun h_79 => ?_) (fun h_79 => ?_)
        · simp only [Int32.lt_iff_toInt_lt, Int32.le_iff_toInt_le, Int32.reduceToInt, ← Int32.toInt_inj] at h_79
          refine v_iconst hC dX12_asks_40 (v := 0) (by decide) ?_
          exact hR _ _ _ _ _ _ _ dX12_asks_41 rfl (Nat.le_of_ble_eq_true rfl) (Nat.le_of_ble_eq_true rfl) ⟨rfl, rfl, (by decide), (.inr (by first | omega | (simp only [Int32.lt_iff_toInt_lt, Int32.le_iff_toInt_le, Int32.reduceToInt, ← Int32.toInt_inj, true_and, and_true, or_true, true_or, false_or, or_false, false_and, and_false, not_true_eq_false, not_false_eq_true] <;> omega))), (.inr (by first | omega | (simp only [Int32.lt_iff_toInt_lt, Int32.le_iff_toInt_le, Int32.reduceToInt, ← Int32.toInt_inj, true_and, and_true, or_true, true_or, false_or, or_false, false_and, and_false, not_true_eq_false, not_false_eq_true] <;> omega))), (by first | omega | (simp only [Int32.lt_iff_toInt_lt, Int32.le_iff_toInt_le, Int32.reduceToInt, ← Int32.toInt_inj, true_and, and_true, or_true, true_or, false_or, or_false, false_and, and_false, not_true_eq_false, not_false_eq_true] <;> omega))⟩
        · simp only [Int32.lt_iff_toInt_lt, Int32.le_iff_toInt_le, Int32.reduceToInt, ← Int32.toInt_inj] at h_79
          refine v_bipush hC dX12_asks_35 (v := (-6)) (by decide) ?_
          refine v_goto hC dX12_asks_37 (tgt := 41) (by decide) ?_
          exact hR _ _ _ _ _ _ _ dX12_asks_41 rfl (Nat.le_of_ble_eq_true rfl) (Nat.le_of_ble_eq_true rfl) ⟨rfl, rfl, (by decide), (.inl (by decide)), (.inl (by decide)), (by first | omega | (simp only [Int32.lt_iff_toInt_lt, Int32.le_iff_toInt_le, Int32.reduceToInt, ← Int32.toInt_inj, true_and, and_true, or_true, true_or, false_or, or_false, false_and, and_false, not_true_eq_false, not_false_eq_true] <;> omega))⟩
    · simp only [Int32.lt_iff_toInt_lt, Int32.le_iff_toInt_le, Int32.reduceToInt, ← Int32.toInt_inj] at h_43
      refine v_bipush hC dX12_asks_14 (v := (-2)) (by decide) ?_
      refine v_goto hC dX12_asks_16 (tgt := 41) (by decide) ?_
      exact hR _ _ _ _ _ _ _ dX12_asks_41 rfl (Nat.le_of_ble_eq_true rfl) (Nat.le_of_ble_eq_true rfl) ⟨rfl, rfl, (by decide), (.inl (by decide)), (.inl (by decide)), (by first | omega | (simp only [Int32.lt_iff_toInt_lt, Int32.le_iff_toInt_le, Int32.reduceToInt, ← Int32.toInt_inj, true_and, and_true, or_true, true_or, false_or, or_false, false_and, and_false, not_true_eq_false, not_false_eq_true] <;> omega))⟩
set_option maxRecDepth 100000 in
set_option maxHeartbeats 8000000 in
theorem p_X12_rows {l : Launch} {E : Ez} {L : List Nat} {f : Nat → va_E} {T : Nat → va_E → Prop} {a_0 : Nat} {q : Nat → Nat} {g_w : Nat → Int32} (hW : WT T L f) (k_0 : isM T L E a_0 q) (e_w : f (q 1) = aI E 2076 g_w) (o_w : WOK g_w) : CI l yX12_rows cX12_rows 1 .int 0 0 0 E [.ref a_0] L f (fun r L1 f1 => L = L1 ∧ f = f1 ∧ r = (g_w 0)) := by
  refine ci_of (by decide) (Nat.le_of_ble_eq_true rfl) (fun z hz hnm hC hR => ?_)
  have hC : Cx z E cX12_rows RX12 1 0 0 0 := hC
  subst hz
  show V z E 1 0 0 L f 0 [(0, .ref a_0)] []
  obtain ⟨m_1, t_2, nq_21, k_3, k_4, k_5, k_6, k_7, k_8, k_9, k_10, k_11, k_12, k_13, k_14, k_15, k_16, k_17, k_18, k_19, k_20⟩ := id k_0
  obtain ⟨m_22, t_23⟩ := id k_3
  have b_24 := o_w.r0
  have b_25 := o_w.w0
  refine v_aload_n hC dX12_rows_0 rfl ?_
  obtain ⟨v_27, v_28, v_30, v_32, v_34, v_36, v_38, v_39, v_40, v_41, v_43, e_26, b_29, b_31, b_33, b_35, b_37, b_42, b_44⟩ := hW.at m_1 t_2
  refine v_get hC fl_X12_13 m_1 e_26 rfl dX12_rows_1 ?_
  refine v_iconst hC dX12_rows_4 (v := 0) (by decide) ?_
  refine v_iald hC m_22 e_w (vp_in_iff.mpr (by decide)) (v := g_w 0) rfl dX12_rows_5 ?_
  exact hR _ _ _ _ _ _ _ dX12_rows_6 rfl (Nat.le_of_ble_eq_true rfl) (Nat.le_of_ble_eq_true rfl) ⟨rfl, rfl, rfl⟩
