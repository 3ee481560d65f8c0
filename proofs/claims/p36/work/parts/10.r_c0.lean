set_option maxRecDepth 100000 in
set_option maxHeartbeats 8000000 in
theorem p_X12_keeps {l : Launch} {E : Ez} {L : List Nat} {f : Nat → va_E} {T : Nat → va_E → Prop} {a_0 : Nat} {a_1 a_2 : Int32} {q : Nat → Nat} {g_w g_f : Nat → Int32} {u_0 u_5 u_7 u_8 u_9 u_10 u_11 u_12 u_13 u_17 u_20 : Int32} (k_0 : isM T L E a_0 q) (e_m : f a_0 = ob 12 [.int u_0, .ref (q 1), .ref (q 2), .ref (q 3), .ref (q 4), .int u_5, .ref (q 6), .int u_7, .int u_8, .int u_9, .int u_10, .int u_11, .int u_12, .int u_13, .ref (q 14), .ref (q 15), .ref (q 16), .int u_17, .ref (q 18), .ref (q 19), .int u_20, .ref (q 21), .ref (q 22), .ref (q 23), .ref (q 24), .ref (q 25), .ref (q 26), .ref (q 27), .ref (q 28)]) (e_w : f (q 1) = aI E 2076 g_w) (e_f : f (q 14) = aI E 2076 g_f) (g_1 : 0 ≤ a_1.toInt ∧ a_1.toInt ≤ a_2.toInt ∧ a_2.toInt ≤ 2076) : CV l yX12_keeps cX12_keeps 4 0 0 0 E [.ref a_0, .int a_1, .int a_2] L f (fun L1 f1 => L = L1 ∧ f1 (q 1) = aI E 2076 (va_cpy g_f g_w a_1.toNatClampNeg a_1.toNatClampNeg (a_2.toNatClampNeg - a_1.toNatClampNeg)) ∧ ∀ x9, x9 ≠ (q 1) → f1 x9 = f x9) := by
  refine cv_of (by decide) (Nat.le_of_ble_eq_true rfl) (fun z hz hnm hC hR => ?_)
  have hC : Cx z E cX12_keeps RX12 4 0 0 0 := hC
  subst hz
  show V z E 4 0 0 L f 0 [(0, .ref a_0), (1, .int a_1), (2, .int a_2)] []
  obtain ⟨m_1, t_2, nq_21, k_3, k_4, k_5, k_6, k_7, k_8, k_9, k_10, k_11, k_12, k_13, k_14, k_15, k_16, k_17, k_18, k_19, k_20⟩ := id k_0
  obtain ⟨m_22, t_23⟩ := id k_3
  obtain ⟨m_24, t_25⟩ := id k_8
  refine v_iload_n hC dX12_keeps_0 rfl ?_
  refine v_istore_n hC dX12_keeps_1 (by decide) (lv' := [(3, .int a_1), (0, .ref a_0), (1, .int a_1), (2, .int a_2)]) rfl ?_
  have lp_34 : ∀ (n_27 : Nat) (f_30 : Nat → va_E) (i_26 : Int32) (b_33 : (a_1 : Int32).toInt ≤ i_26.toInt ∧ i_26.toInt ≤ a_2.toInt) (eR_31 : f_30 (q 1) = aI E 2076 (va_cpy g_f g_w a_1.toNatClampNeg a_1.toNatClampNeg (i_26.toNatClampNeg - a_1.toNatClampNeg))) (kR_32 : ∀ x9, x9 ≠ (q 1) → f_30 x9 = f x9) (hm_29 : a_2.toInt - i_26.toInt < (n_27 : Int)), V z E 4 0 0 L f_30 2 [(3, .int i_26), (0, .ref a_0), (2, .int a_2)] [] := by
    intro n_27
    induction n_27 with
    | zero =>
      intro f_30 i_26 b_33 eR_31 kR_32 hm_29
      exfalso; omega
    | succ n_27 ih_28 =>
      intro f_30 i_26 b_33 eR_31 kR_32 hm_29
      have hf_35 := (kR_32 a_0 (ne_kd e_m e_w rfl)).trans e_m
      have hf_36 := (kR_32 (q 14) nq_21.symm).trans e_f
      refine v_iload_n hC dX12_keeps_2 rfl ?_
      refine v_iload_n hC dX12_keeps_3 rfl ?_
      refine v_icmp_ge hC dX12_keeps_4 (tgt := 25) (by decide) (fun h_37 => ?_) (fun h_37 => ?_)
      · simp only [Int32.lt_iff_toInt_lt, Int32.le_iff_toInt_le, Int32.reduceToInt, ← Int32.toInt_inj] at h_37
        exact hR _ _ _ _ _ _ dX12_keeps_25 (Nat.le_of_ble_eq_true rfl) (Nat.le_of_ble_eq_true rfl) ⟨rfl, eR_31.trans (congrArg (aI E 2076) (by rw [show (i_26 : Int32).toNatClampNeg = a_2.toNatClampNeg from by rw [clamp_t, clamp_t]; omega])), kR_32⟩
      · simp only [Int32.lt_iff_toInt_lt, Int32.le_iff_toInt_le, Int32.reduceToInt, ← Int32.toInt_inj] at h_37
        refine v_aload_n hC dX12_keeps_7 rfl ?_
        refine v_get hC fl_X12_13 m_1 hf_35 rfl dX12_keeps_8 ?_
        refine v_iload_n hC dX12_keeps_11 rfl ?_
        refine v_aload_n hC dX12_keeps_12 rfl ?_
        refine v_get hC fl_X12_34 m_1 hf_35 rfl dX12_keeps_13 ?_
        refine v_iload_n hC dX12_keeps_16 rfl ?_
        obtain ⟨v_38, h_39⟩ : ∃ v9 : Int32, g_f (i_26 : Int32).toNatClampNeg = v9 := ⟨_, rfl⟩
        refine v_iald hC m_24 hf_36 (vp_in_iff.mpr (by first | omega | (simp only [Int32.lt_iff_toInt_lt, Int32.le_iff_toInt_le, Int32.reduceToInt, ← Int32.toInt_inj, true_and, and_true, or_true, true_or, false_or, or_false, false_and, and_false, not_true_eq_false, not_false_eq_true] <;> omega))) h_39 dX12_keeps_17 ?_
        refine v_iast hC m_22 eR_31 (vp_in_iff.mpr (by first | omega | (simp only [Int32.lt_iff_toInt_lt, Int32.le_iff_toInt_le, Int32.reduceToInt, ← Int32.toInt_inj, true_and, and_true, or_true, true_or, false_or, or_false, false_and, and_false, not_true_eq_false, not_false_eq_true] <;> omega))) dX12_keeps_18 (fun f_40 hf_41 hk_42 => ?_)
        have hf_43 := (hk_42 a_0 (ne_kd hf_35 eR_31 rfl)).trans hf_35
        have hf_44 := (hk_42 (q 14) nq_21.symm).trans hf_36
        have kr_45 : ∀ x9, x9 ≠ (q 1) → f_40 x9 = f x9 := fun x9 hx9 => (hk_42 x9 hx9).trans (kR_32 x9 hx9)
        obtain ⟨v_46, h_47⟩ : ∃ v9 : Int32, i_26 + Int32.ofInt 1 = v9 := ⟨_, rfl⟩
        have h_48 := add_v (b := 1) h_47 (by first | omega | (simp only [Int32.lt_iff_toInt_lt, Int32.le_iff_toInt_le, Int32.reduceToInt, ← Int32.toInt_inj, true_and, and_true, or_true, true_or, false_or, or_false, false_and, and_false, not_true_eq_false, not_false_eq_true] <;> omega)) (by first | omega | (simp only [Int32.lt_iff_toInt_lt, Int32.le_iff_toInt_le, Int32.reduceToInt, ← Int32.toInt_inj, true_and, and_true, or_true, true_or, false_or, or_false, false_and, and_false, not_true_eq_false, not_false_eq_true] <;> omega))
        simp only [Int32.reduceToInt] at h_48
        refine v_iinc hC dX12_keeps_19 (k := 0) rfl (v := v_46) h_47 (by decide) (lv' := [(3, .int v_46), (0, .ref a_0), (2, .int a_2)]) rfl ?_
        refine v_goto hC dX12_keeps_22 (tgt := 2) (by decide) ?_
        refine v_pick [0, 1, 2] rfl ?_
        have kx_49 : ∀ x9, x9 ≠ (q 1) → f_40 x9 = f x9 := fun x9 hx9 => (hk_42 x9 hx9).trans (kR_32 x9 hx9)
        exact ih_28 f_40 v_46 (by omega) (hf_41.trans (congrArg (aI E 2076) ((cpy_step (by rw [clamp_t, clamp_t]; omega) (by rw [← h_39, show a_1.toNatClampNeg + (i_26.toNatClampNeg - a_1.toNatClampNeg) = i_26.toNatClampNeg from by rw [clamp_t, clamp_t]; omega])).trans (by rw [show i_26.toNatClampNeg - a_1.toNatClampNeg + 1 = v_46.toNatClampNeg - a_1.toNatClampNeg from by rw [clamp_t, clamp_t, clamp_t]; omega])))) kx_49 (by omega)
  refine v_pick [0, 1, 3] rfl ?_
  exact lp_34 7000 f a_1 (by first | omega | decide) (e_w.trans (congrArg (aI E 2076) (by simp only [Nat.sub_self, cpy_nil, clamp_0]))) (fun _ _ => rfl) (by first | omega | (simp only [Int32.reduceToInt]; omega))
set_option maxRecDepth 100000 in
set_option maxHeartbeats 8000000 in
theorem p_X12_clears {l : Launch} {E : Ez} {L : List Nat} {f : Nat → va_E} {T : Nat → va_E → Prop} {a_0 : Nat} {a_1 a_2 : Int32} {q : Nat → Nat} {g_f : Nat → Int32} {u_0 u_5 u_7 u_8 u_9 u_10 u_11 u_12 u_13 u_17 u_20 : Int32} (k_0 : isM T L E a_0 q) (e_m : f a_0 = ob 12 [.int u_0, .ref (q 1), .ref (q 2), .ref (q 3), .ref (q 4), .int u_5, .ref (q 6), .int u_7, .int u_8, .int u_9, .int u_10, .int u_11, .int u_12, .int u_13, .ref (q 14), .ref (q 15), .ref (q 16), .int u_17, .ref (q 18), .ref (q 19), .int u_20, .ref (q 21), .ref (q 22), .ref (q 23), .ref (q 24), .ref (q 25), .ref (q 26), .ref (q 27), .ref (q 28)]) (e_f : f (q 14) = aI E 2076 g_f) (g_1 : 0 ≤ a_1.toInt ∧ a_1.toInt ≤ a_2.toInt ∧ a_2.toInt ≤ 2076) : CV l yX12_clears cX12_clears 4 0 0 0 E [.ref a_0, .int a_1, .int a_2] L f (fun L1 f1 => L = L1 ∧ f1 (q 14) = aI E 2076 (va_cpy (fun _ => 0) g_f a_1.toNatClampNeg a_1.toNatClampNeg (a_2.toNatClampNeg - a_1.toNatClampNeg)) ∧ ∀ x9, x9 ≠ (q 14) → f1 x9 = f x9) := by
  refine cv_of (by decide) (Nat.le_of_ble_eq_true rfl) (fun z hz hnm hC hR => ?_)
  have hC : Cx z E cX12_clears RX12 4 0 0 0 := hC
  subst hz
  show V z E 4 0 0 L f 0 [(0, .ref a_0), (1, .int a_1), (2, .int a_2)] []
  obtain ⟨m_1, t_2, nq_21, k_3, k_4, k_5, k_6, k_7, k_8, k_9, k_10, k_11, k_12, k_13, k_14, k_15, k_16, k_17, k_18, k_19, k_20⟩ := id k_0
  obtain ⟨m_22, t_23⟩ := id k_3
  obtain ⟨m_24, t_25⟩ := id k_8
  refine v_iload_n hC dX12_clears_0 rfl ?_
  refine v_istore_n hC dX12_clears_1 (by decide) (lv' := [(3, .int a_1), (0, .ref a_0), (1, .int a_1), (2, .int a_2)]) rfl ?_
  have lp_34 : ∀ (n_27 : Nat) (f_30 : Nat → va_E) (i_26 : Int32) (b_33 : (a_1 : Int32).toInt ≤ i_26.toInt ∧ i_26.toInt ≤ a_2.toInt) (eR_31 : f_30 (q 14) = aI E 2076 (va_cpy (fun _ => 0) g_f a_1.toNatClampNeg a_1.toNatClampNeg (i_26.toNatClampNeg - a_1.toNatClampNeg))) (kR_32 : ∀ x9, x9 ≠ (q 14) → f_30 x9 = f x9) (hm_29 : a_2.toInt - i_26.toInt < (n_27 : Int)), V z E 4 0 0 L f_30 2 [(3, .int i_26), (0, .ref a_0), (2, .int a_2)] [] := by
    intro n_27
    induction n_27 with
    | zero =>
      intro f_30 i_26 b_33 eR_31 kR_32 hm_29
      exfalso; omega
    | succ n_27 ih_28 =>
      intro f_30 i_26 b_33 eR_31 kR_32 hm_29
      have hf_35 := (kR_32 a_0 (ne_kd e_m e_f rfl)).trans e_m
      refine v_iload_n hC dX12_clears_2 rfl ?_
      refine v_iload_n hC dX12_clears_3 rfl ?_
      refine v_icmp_ge hC dX12_clears_4 (tgt := 20) (by decide) (fun h_36 => ?_) (fun h_36 => ?_)
      · simp only [Int32.lt_iff_toInt_lt, Int32.le_iff_toInt_le, Int32.reduceToInt, ← Int32.toInt_inj] at h_36
        exact hR _ _ _ _ _ _ dX12_clears_20 (Nat.le_of_ble_eq_true rfl) (Nat.le_of_ble_eq_true rfl) ⟨rfl, eR_31.trans (congrArg (aI E 2076) (by rw [show (i_26 : Int32).toNatClampNeg = a_2.toNatClampNeg from by rw [clamp_t, clamp_t]; omega])), kR_32⟩
      · simp only [Int32.lt_iff_toInt_lt, Int32.le_iff_toInt_le, Int32.reduceToInt, ← Int32.toInt_inj] at h_36
        refine v_aload_n hC dX12_clears_7 rfl ?_
        refine v_get hC fl_X12_34 m_1 hf_35 rfl dX12_clears_8 ?_
        refine v_iload_n hC dX12_clears_11 rfl ?_
        refine v_iconst hC dX12_clears_12 (v := 0) (by decide) ?_
        refine v_iast hC m_24 eR_31 (vp_in_iff.mpr (by first | omega | (simp only [Int32.lt_iff_toInt_lt, Int32.le_iff_toInt_le, Int32.reduceToInt, ← Int32.toInt_inj, true_and, and_true, or_true, true_or, false_or, or_false, false_and, and_false, not_true_eq_false, not_false_eq_true] <;> omega))) dX12_clears_13 (fun f_37 hf_38 hk_39 => ?_)
        have hf_40 := (hk_39 a_0 (ne_kd hf_35 eR_31 rfl)).trans hf_35
        have kr_41 : ∀ x9, x9 ≠ (q 14) → f_37 x9 = f x9 := fun x9 hx9 => (hk_39 x9 hx9).trans (kR_32 x9 hx9)
        obtain ⟨v_42, h_43⟩ : ∃ v9 : Int32, i_26 + Int32.ofInt 1 = v9 := ⟨_, rfl⟩
        have h_44 := add_v (b := 1) h_43 (by first | omega | (simp only [Int32.lt_iff_toInt_lt, Int32.le_iff_toInt_le, Int32.reduceToInt, ← Int32.toInt_inj, true_and, and_true, or_true, true_or, false_or, or_false, false_and, and_false, not_true_eq_false, not_false_eq_true] <;> omega)) (by first | omega | (simp only [Int32.lt_iff_toInt_lt, Int32.le_iff_toInt_le, Int32.reduceToInt, ← Int32.toInt_inj, true_and, and_true, or_true, true_or, false_or, or_false, false_and, and_false, not_true_eq_false, not_false_eq_true] <;> omega))
        simp only [Int32.reduceToInt] at h_44
        refine v_iinc hC dX12_clears_14 (k := 0) rfl (v := v_42) h_43 (by decide) (lv' := [(3, .int v_42), (0, .ref a_0), (2, .int a_2)]) rfl ?_
        refine v_goto hC dX12_clears_17 (tgt := 2) (by decide) ?_
        refine v_pick [0, 1, 2] rfl ?_
        have kx_45 : ∀ x9, x9 ≠ (q 14) → f_37 x9 = f x9 := fun x9 hx9 => (hk_39 x9 hx9).trans (kR_32 x9 hx9)
        exact ih_28 f_37 v_42 (by omega) (hf_38.trans (congrArg (aI E 2076) ((cpy_step (by rw [clamp_t, clamp_t]; omega) rfl).trans (by rw [show i_26.toNatClampNeg - a_1.toNatClampNeg + 1 = v_42.toNatClampNeg - a_1.toNatClampNeg from by rw [clamp_t, clamp_t, clamp_t]; omega])))) kx_45 (by omega)
  refine v_pick [0, 1, 3] rfl ?_
  exact lp_34 7000 f a_1 (by first | omega | decide) (e_f.trans (congrArg (aI E 2076) (by simp only [Nat.sub_self, cpy_nil, clamp_0]))) (fun _ _ => rfl) (by first | omega | (simp only [Int32.reduceToInt]; omega))
set_option maxRecDepth 100000 in
set_option maxHeartbeats 8000000 in
theorem p_X12_good {l : Launch} {E : Ez} {L : List Nat} {f : Nat → va_E} {T : Nat → va_E → Prop} {a_0 : Nat} {q : Nat → Nat} (hW : WT T L f) (k_0 : isM T L E a_0 q) : CI l yX12_good cX12_good 1 .boolean 0 0 0 E [.ref a_0] L f (fun r L1 f1 => L = L1 ∧ f = f1 ∧ (0 ≤ r.toInt ∧ r.toInt ≤ 1) ∧ ((r.toInt = 1 ∧ fld (f a_0) 12 = 0) ∨ (r.toInt = 0 ∧ ¬ fld (f a_0) 12 = 0))) := by
  refine ci_of (by decide) (Nat.le_of_ble_eq_true rfl) (fun z hz hnm hC hR => ?_)
  have hC : Cx z E cX12_good RX12 1 0 0 0 := hC
  subst hz
  show V z E 1 0 0 L f 0 [(0, .ref a_0)] []
  obtain ⟨m_1, t_2, nq_21, k_3, k_4, k_5, k_6, k_7, k_8, k_9, k_10, k_11, k_12, k_13, k_14, k_15, k_16, k_17, k_18, k_19, k_20⟩ := id k_0
  obtain ⟨v_23, v_24, v_26, v_28, v_30, v_32, v_34, v_35, v_36, v_37, v_39, e_22, b_25, b_27, b_29, b_31, b_33, b_38, b_40⟩ := hW.at m_1 t_2
  have mz_41 : fld (f a_0) 12 = v_35.toInt := by rw [e_22]; rfl
  refine v_aload_n hC dX12_good_0 rfl ?_
  refine v_get hC fl_X12_111 m_1 e_22 rfl dX12_good_1 ?_
  refine v_if_ne hC dX12_good_4 (tgt := 11) (by decide) (fun h_42 => ?_) (fun h_42 => ?_)
  · simp only [Int32.lt_iff_toInt_lt, Int32.le_iff_toInt_le, Int32.reduceToInt, ← Int32.toInt_inj] at h_42
    refine v_iconst hC dX12_good_11 (v := 0) (by decide) ?_
    exact hR _ _ _ _ _ _ _ dX12_good_12 rfl (Nat.le_of_ble_eq_true rfl) (Nat.le_of_ble_eq_true rfl) ⟨rfl, rfl, (by decide), (by simp only [mz_41, true_and, and_true, or_true, true_or, false_or, or_false, false_and, and_false, not_true_eq_false, not_false_eq_true] <;> first | omega | (simp only [Int32.lt_iff_toInt_lt, Int32.le_iff_toInt_le, Int32.reduceToInt, ← Int32.toInt_inj, true_and, and_true, or_true, true_or, false_or, or_false, false_and, and_false, not_true_eq_false, not_false_eq_true] <;> omega))⟩
  · simp only [Int32.lt_iff_toInt_lt, Int32.le_iff_toInt_le, Int32.reduceToInt, ← Int32.toInt_inj] at h_42
    refine v_iconst hC dX12_good_7 (v := 1) (by decide) ?_
    refine v_goto hC dX12_good_8 (tgt := 12) (by decide) ?_
    exact hR _ _ _ _ _ _ _ dX12_good_12 rfl (Nat.le_of_ble_eq_true rfl) (Nat.le_of_ble_eq_true rfl) ⟨rfl, rfl, (by decide), (by simp only [mz_41, true_and, and_true, or_true, true_or, false_or, or_false, false_and, and_false, not_true_eq_false, not_false_eq_true] <;> first | omega | (simp only [Int32.lt_iff_toInt_lt, Int32.le_iff_toInt_le, Int32.reduceToInt, ← Int32.toInt_inj, true_and, and_true, or_true, true_or, false_or, or_false, false_and, and_false, not_true_eq_false, not_false_eq_true] <;> omega))⟩
set_option maxRecDepth 100000 in
set_option maxHeartbeats 8000000 in
theorem p_J0_coder_7d493 {l : Launch} {E : Ez} {L : List Nat} {f : Nat → va_E} {T : Nat → va_E → Prop} {a_0 : Nat} (hW : WT T L f) (ha_0 : a_0 < 77) : CI l yJ0_coder_7d493 cJ0_coder_7d493 1 .byte 0 0 0 E [.ref (eK E a_0)] L f (fun r L1 f1 => L = L1 ∧ f = f1 ∧ (0 ≤ r.toInt ∧ r.toInt ≤ 0) ∧ narrow .byte (.int r) = .int r) := by
  refine ci_of (by decide) (Nat.le_of_ble_eq_true rfl) (fun z hz hnm hC hR => ?_)
  have hC : Cx z E cJ0_coder_7d493 RJ0 1 0 0 0 := hC
  subst hz
  show V z E 1 0 0 L f 0 [(0, .ref (eK E a_0))] []
  refine v_getCS hC sf_J0_38 dJ0_coder_7d493_0 ?_
  refine v_if_eq_f hC dJ0_coder_7d493_3 (tgt := 13) (by decide) (by decide) ?_
  refine v_aload_n hC dJ0_coder_7d493_6 rfl ?_
  refine v_getSc hC ha_0 sf_J0_15 dJ0_coder_7d493_7 ?_
  refine v_goto hC dJ0_coder_7d493_10 (tgt := 14) (by decide) ?_
  exact hR _ _ _ _ _ _ _ dJ0_coder_7d493_14 rfl (Nat.le_of_ble_eq_true rfl) (Nat.le_of_ble_eq_true rfl) ⟨rfl, rfl, (by decide), rfl⟩
set_option maxRecDepth 100000 in
set_option maxHeartbeats 8000000 in
theorem p_J0_length_8abf5 {l : Launch} {E : Ez} {L : List Nat} {f : Nat → va_E} {T : Nat → va_E → Prop} {a_0 : Nat} (hW : WT T L f) (ha_0 : a_0 < 77) : CI l yJ0_length_8abf5 cJ0_length_8abf5 1 .int 1 0 0 E [.ref (eK E a_0)] L f (fun r L1 f1 => L = L1 ∧ f = f1 ∧ (0 ≤ r.toInt ∧ r.toInt ≤ 40) ∧ r.toInt = ((bytStr.getD a_0 []).length : Int)) := by
  refine ci_of (by decide) (Nat.le_of_ble_eq_true rfl) (fun z hz hnm hC hR => ?_)
  have hC : Cx z E cJ0_length_8abf5 RJ0 1 1 0 0 := hC
  subst hz
  show V z E 1 0 0 L f 0 [(0, .ref (eK E a_0))] []
  refine v_aload_n hC dJ0_length_8abf5_0 rfl ?_
  refine v_getSv hC ha_0 sf_J0_9 dJ0_length_8abf5_1 ?_
  obtain ⟨v_1, h_2⟩ : ∃ v9 : Int32, nI (bytStr.getD a_0 []).length = v9 := ⟨_, rfl⟩
  refine v_alenS hC ha_0 dJ0_length_8abf5_4 ?_
  have b_3 := len_v ha_0
  rw [h_2] at b_3 ⊢
  refine v_aload_n hC dJ0_length_8abf5_5 rfl ?_
  refine v_viS hC (rest := [.int v_1]) ha_0 rfl mi_J0_coder_7d493 ms_J0_coder_7d493 (p_J0_coder_7d493 hW ha_0) mx_J0_coder_7d493 ml_J0_335 (by decide) rfl (cells1 := 0) (slots1 := 0) (by decide) (by decide) (Nat.le_of_ble_eq_true rfl) (Nat.le_of_ble_eq_true rfl) rfl (Nat.le_of_ble_eq_true rfl) dJ0_length_8abf5_6 (fun r_4 L_5 f_6 h_7 => ?_)
  obtain ⟨rfl, rfl, b_8, nr_9⟩ := h_7
  obtain rfl : r_4 = 0 := Int32.toInt_inj.mp (by simp only [Int32.reduceToInt]; omega)
  refine v_ishr hC dJ0_length_8abf5_9 (sb_shr0 _) ?_
  exact hR _ _ _ _ _ _ _ dJ0_length_8abf5_10 rfl (Nat.le_of_ble_eq_true rfl) (Nat.le_of_ble_eq_true rfl) ⟨rfl, rfl, (by first | omega | (simp only [Int32.lt_iff_toInt_lt, Int32.le_iff_toInt_le, Int32.reduceToInt, ← Int32.toInt_inj, true_and, and_true, or_true, true_or, false_or, or_false, false_and, and_false, not_true_eq_false, not_false_eq_true] <;> omega)), (by first | omega | (simp only [Int32.lt_iff_toInt_lt, Int32.le_iff_toInt_le, Int32.reduceToInt, ← Int32.toInt_inj, true_and, and_true, or_true, true_or, false_or, or_false, false_and, and_false, not_true_eq_false, not_false_eq_true] <;> omega))⟩
set_option maxRecDepth 100000 in
set_option maxHeartbeats 8000000 in
theorem p_J0_isLatin1_aae02 {l : Launch} {E : Ez} {L : List Nat} {f : Nat → va_E} {T : Nat → va_E → Prop} {a_0 : Nat} (hW : WT T L f) (ha_0 : a_0 < 77) : CI l yJ0_isLatin1_aae02 cJ0_isLatin1_aae02 1 .boolean 0 0 0 E [.ref (eK E a_0)] L f (fun r L1 f1 => L = L1 ∧ f = f1 ∧ (1 ≤ r.toInt ∧ r.toInt ≤ 1)) := by
  refine ci_of (by decide) (Nat.le_of_ble_eq_true rfl) (fun z hz hnm hC hR => ?_)
  have hC : Cx z E cJ0_isLatin1_aae02 RJ0 1 0 0 0 := hC
  subst hz
  show V z E 1 0 0 L f 0 [(0, .ref (eK E a_0))] []
  refine v_getCS hC sf_J0_38 dJ0_isLatin1_aae02_0 ?_
  refine v_if_eq_f hC dJ0_isLatin1_aae02_3 (tgt := 17) (by decide) (by decide) ?_
  refine v_aload_n hC dJ0_isLatin1_aae02_6 rfl ?_
  refine v_getSc hC ha_0 sf_J0_15 dJ0_isLatin1_aae02_7 ?_
  refine v_if_ne_f hC dJ0_isLatin1_aae02_10 (tgt := 17) (by decide) (by decide) ?_
  refine v_iconst hC dJ0_isLatin1_aae02_13 (v := 1) (by decide) ?_
  refine v_goto hC dJ0_isLatin1_aae02_14 (tgt := 18) (by decide) ?_
  exact hR _ _ _ _ _ _ _ dJ0_isLatin1_aae02_18 rfl (Nat.le_of_ble_eq_true rfl) (Nat.le_of_ble_eq_true rfl) ⟨rfl, rfl, (by decide)⟩
set_option maxRecDepth 100000 in
set_option maxHeartbeats 8000000 in
theorem p_J3_checkIndex_8e157 {l : Launch} {E : Ez} {L : List Nat} {f : Nat → va_E} {T : Nat → va_E → Prop} {a_0 : Int32} {a_1 : Int32} (hW : WT T L f) (hlen : 0 ≤ a_0.toInt ∧ a_0.toInt < a_1.toInt) : CI l yJ3_checkIndex_8e157 cJ3_checkIndex_8e157 3 .int 0 0 0 E [.int a_0, .int a_1, .null] L f (fun r L1 f1 => L = L1 ∧ f = f1) := by
  refine ci_of (by decide) (Nat.le_of_ble_eq_true rfl) (fun z hz hnm hC hR => ?_)
  have hC : Cx z E cJ3_checkIndex_8e157 RJ3 3 0 0 0 := hC
  subst hz
  show V z E 3 0 0 L f 0 [(0, .int a_0), (1, .int a_1), (2, .null)] []
  refine v_iload_n hC dJ3_checkIndex_8e157_0 rfl ?_
  refine v_if_lt_f hC dJ3_checkIndex_8e157_1 (tgt := 9) (by decide) (by first | omega | (simp only [Int32.lt_iff_toInt_lt, Int32.le_iff_toInt_le, Int32.reduceToInt, ← Int32.toInt_inj, true_and, and_true, or_true, true_or, false_or, or_false, false_and, and_false, not_true_eq_false, not_false_eq_true] <;> omega)) ?_
  refine v_iload_n hC dJ3_checkIndex_8e157_4 rfl ?_
  refine v_iload_n hC dJ3_checkIndex_8e157_5 rfl ?_
  refine v_icmp_lt_t hC dJ3_checkIndex_8e157_6 (tgt := 16) (by decide) (by first | omega | (simp only [Int32.lt_iff_toInt_lt, Int32.le_iff_toInt_le, Int32.reduceToInt, ← Int32.toInt_inj, true_and, and_true, or_true, true_or, false_or, or_false, false_and, and_false, not_true_eq_false, not_false_eq_true] <;> omega)) ?_
  refine v_iload_n hC dJ3_checkIndex_8e157_16 rfl ?_
  exact hR _ _ _ _ _ _ _ dJ3_checkIndex_8e157_17 rfl (Nat.le_of_ble_eq_true rfl) (Nat.le_of_ble_eq_true rfl) ⟨rfl, rfl⟩
set_option maxRecDepth 100000 in
set_option maxHeartbeats 8000000 in
theorem p_J3_checkIndex_8e157_7 {l : Launch} {E : Ez} {L : List Nat} {f : Nat → va_E} {T : Nat → va_E → Prop} {a_0 : Int32} {a_1 : Int32} {a_2 : Nat} (hW : WT T L f) (hlen : 0 ≤ a_0.toInt ∧ a_0.toInt < a_1.toInt) : CI l yJ3_checkIndex_8e157 cJ3_checkIndex_8e157 3 .int 0 0 0 E [.int a_0, .int a_1, .ref a_2] L f (fun r L1 f1 => L = L1 ∧ f = f1) := by
  refine ci_of (by decide) (Nat.le_of_ble_eq_true rfl) (fun z hz hnm hC hR => ?_)
  have hC : Cx z E cJ3_checkIndex_8e157 RJ3 3 0 0 0 := hC
  subst hz
  show V z E 3 0 0 L f 0 [(0, .int a_0), (1, .int a_1), (2, .ref a_2)] []
  refine v_iload_n hC dJ3_checkIndex_8e157_0 rfl ?_
  refine v_if_lt_f hC dJ3_checkIndex_8e157_1 (tgt := 9) (by decide) (by first | omega | (simp only [Int32.lt_iff_toInt_lt, Int32.le_iff_toInt_le, Int32.reduceToInt, ← Int32.toInt_inj, true_and, and_true, or_true, true_or, false_or, or_false, false_and, and_false, not_true_eq_false, not_false_eq_true] <;> omega)) ?_
  refine v_iload_n hC dJ3_checkIndex_8e157_4 rfl ?_
  refine v_iload_n hC dJ3_checkIndex_8e157_5 rfl ?_
  refine v_icmp_lt_t hC dJ3_checkIndex_8e157_6 (tgt := 16) (by decide) (by first | omega | (simp only [Int32.lt_iff_toInt_lt, Int32.le_iff_toInt_le, Int32.reduceToInt, ← Int32.toInt_inj, true_and, and_true, or_true, true_or, false_or, or_false, false_and, and_false, not_true_eq_false, not_false_eq_true] <;> omega)) ?_
  refine v_iload_n hC dJ3_checkIndex_8e157_16 rfl ?_
  exact hR _ _ _ _ _ _ _ dJ3_checkIndex_8e157_17 rfl (Nat.le_of_ble_eq_true rfl) (Nat.le_of_ble_eq_true rfl) ⟨rfl, rfl⟩
set_option maxRecDepth 100000 in
set_option maxHeartbeats 8000000 in
theorem p_J0_checkIndex_df160 {l : Launch} {E : Ez} {L : List Nat} {f : Nat → va_E} {T : Nat → va_E → Prop} {a_0 : Int32} {a_1 : Int32} (hW : WT T L f) (hlen : 0 ≤ a_0.toInt ∧ a_0.toInt < a_1.toInt) : CV l yJ0_checkIndex_df160 cJ0_checkIndex_df160 2 1 0 0 E [.int a_0, .int a_1] L f (fun L1 f1 => L = L1 ∧ f = f1) := by
  refine cv_of (by decide) (Nat.le_of_ble_eq_true rfl) (fun z hz hnm hC hR => ?_)
  have hC : Cx z E cJ0_checkIndex_df160 RJ0 2 1 0 0 := hC
  subst hz
  show V z E 2 0 0 L f 0 [(0, .int a_0), (1, .int a_1)] []
  refine v_iload_n hC dJ0_checkIndex_df160_0 rfl ?_
  refine v_iload_n hC dJ0_checkIndex_df160_1 rfl ?_
  refine v_getSF hC sf_J0_1053 dJ0_checkIndex_df160_2 ?_ (fun o_1 => ?_)
  · refine v_si hC (rest := []) mt_J3_checkIndex_8e157 (p_J3_checkIndex_8e157 hW (by first | omega | (simp only [Int32.lt_iff_toInt_lt, Int32.le_iff_toInt_le, Int32.reduceToInt, ← Int32.toInt_inj, true_and, and_true, or_true, true_or, false_or, or_false, false_and, and_false, not_true_eq_false, not_false_eq_true] <;> omega))) mx_J3_checkIndex_8e157 ml_J0_1059 (by decide) rfl (cells1 := 0) (slots1 := 0) (by decide) (by decide) (Nat.le_of_ble_eq_true rfl) (Nat.le_of_ble_eq_true rfl) rfl (Nat.le_of_ble_eq_true rfl) dJ0_checkIndex_df160_5 (fun r_2 L_3 f_4 h_5 => ?_)
    obtain ⟨rfl, rfl⟩ := h_5
    refine v_pop hC dJ0_checkIndex_df160_8 rfl ?_
    exact hR _ _ _ _ _ _ dJ0_checkIndex_df160_9 (Nat.le_of_ble_eq_true rfl) (Nat.le_of_ble_eq_true rfl) ⟨rfl, rfl⟩
  · refine v_si hC (rest := []) mt_J3_checkIndex_8e157 (p_J3_checkIndex_8e157_7 hW (by first | omega | (simp only [Int32.lt_iff_toInt_lt, Int32.le_iff_toInt_le, Int32.reduceToInt, ← Int32.toInt_inj, true_and, and_true, or_true, true_or, false_or, or_false, false_and, and_false, not_true_eq_false, not_false_eq_true] <;> omega))) mx_J3_checkIndex_8e157 ml_J0_1059 (by decide) rfl (cells1 := 0) (slots1 := 0) (by decide) (by decide) (Nat.le_of_ble_eq_true rfl) (Nat.le_of_ble_eq_true rfl) rfl (Nat.le_of_ble_eq_true rfl) dJ0_checkIndex_df160_5 (fun r_8 L_9 f_10 h_11 => ?_)
    obtain ⟨rfl, rfl⟩ := h_11
    refine v_pop hC dJ0_checkIndex_df160_8 rfl ?_
    exact hR _ _ _ _ _ _ dJ0_checkIndex_df160_9 (Nat.le_of_ble_eq_true rfl) (Nat.le_of_ble_eq_true rfl) ⟨rfl, rfl⟩
set_option maxRecDepth 100000 in
set_option maxHeartbeats 8000000 in
theorem p_J1_charAt_3b067 {l : Launch} {E : Ez} {L : List Nat} {f : Nat → va_E} {T : Nat → va_E → Prop} {a_0 : Nat} {a_1 : Int32} (hW : WT T L f) (ha_0 : a_0 < 77) (hlen : 0 ≤ a_1.toInt ∧ a_1.toInt < ((bytStr.getD a_0 []).length : Int)) : CI l yJ1_charAt_3b067 cJ1_charAt_3b067 2 .char 2 0 0 E [.ref (eV E a_0), .int a_1] L f (fun r L1 f1 => L = L1 ∧ f = f1 ∧ r = (chv a_0 a_1) ∧ narrow .char (.int r) = .int r) := by
  refine ci_of (by decide) (Nat.le_of_ble_eq_true rfl) (fun z hz hnm hC hR => ?_)
  have hC : Cx z E cJ1_charAt_3b067 RJ1 2 2 0 0 := hC
  subst hz
  show V z E 2 0 0 L f 0 [(0, .ref (eV E a_0)), (1, .int a_1)] []
  refine v_iload_n hC dJ1_charAt_3b067_0 rfl ?_
  refine v_aload_n hC dJ1_charAt_3b067_1 rfl ?_
  obtain ⟨v_1, h_2⟩ : ∃ v9 : Int32, nI (bytStr.getD a_0 []).length = v9 := ⟨_, rfl⟩
  refine v_alenS hC ha_0 dJ1_charAt_3b067_2 ?_
  have b_3 := len_v ha_0
  rw [h_2] at b_3 ⊢
  refine v_sv hC (rest := []) mt_J0_checkIndex_df160 (p_J0_checkIndex_df160 hW (by first | omega | (simp only [Int32.lt_iff_toInt_lt, Int32.le_iff_toInt_le, Int32.reduceToInt, ← Int32.toInt_inj, true_and, and_true, or_true, true_or, false_or, or_false, false_and, and_false, not_true_eq_false, not_false_eq_true] <;> omega))) mx_J0_checkIndex_df160 ml_J1_9 (by decide) rfl (cells1 := 0) (slots1 := 0) (by decide) (by decide) (Nat.le_of_ble_eq_true rfl) (Nat.le_of_ble_eq_true rfl) rfl (Nat.le_of_ble_eq_true rfl) dJ1_charAt_3b067_3 (fun L_5 f_6 h_7 => ?_)
  obtain ⟨rfl, rfl⟩ := h_7
  refine v_aload_n hC dJ1_charAt_3b067_6 rfl ?_
  refine v_iload_n hC dJ1_charAt_3b067_7 rfl ?_
  obtain ⟨v_10, h_11⟩ : ∃ v9 : Int32, (bytStr.getD a_0 []).getD (a_1 : Int32).toNatClampNeg 0 = v9 := ⟨_, rfl⟩
  refine v_baldS hC ha_0 (vp_in_iff.mpr (by first | omega | (simp only [Int32.lt_iff_toInt_lt, Int32.le_iff_toInt_le, Int32.reduceToInt, ← Int32.toInt_inj, true_and, and_true, or_true, true_or, false_or, or_false, false_and, and_false, not_true_eq_false, not_false_eq_true] <;> omega))) h_11 dJ1_charAt_3b067_8 ?_
  refine v_sipush hC dJ1_charAt_3b067_9 (v := 255) (by decide) ?_
  obtain ⟨v_12, h_13⟩ : ∃ v9 : Int32, v_10 &&& 255 = v9 := ⟨_, rfl⟩
  refine v_iand hC dJ1_charAt_3b067_12 h_13 ?_
  have h_14 := and_v h_13 (by decide)
  try simp only [Int32.reduceToInt] at h_14
  obtain ⟨v_15, h_16⟩ : ∃ v9 : Int32, (v_12.toUInt32 % 65536).toInt32 = v9 := ⟨_, rfl⟩
  refine v_i2c hC dJ1_charAt_3b067_13 h_16 ?_
  exact hR _ _ _ _ _ _ _ dJ1_charAt_3b067_14 (by rw [← h_16]; exact pk_nc _) (Nat.le_of_ble_eq_true rfl) (Nat.le_of_ble_eq_true rfl) ⟨rfl, rfl, (by rw [← h_16, ← h_13, ← h_11]; rfl), (by rw [← h_16]; exact pk_nc _)⟩
set_option maxRecDepth 100000 in
set_option maxHeartbeats 8000000 in
theorem p_J0_charAt_5068e {l : Launch} {E : Ez} {L : List Nat} {f : Nat → va_E} {T : Nat → va_E → Prop} {a_0 : Nat} {a_1 : Int32} (hW : WT T L f) (ha_0 : a_0 < 77) (hlen : 0 ≤ a_1.toInt ∧ a_1.toInt < ((bytStr.getD a_0 []).length : Int)) : CI l yJ0_charAt_5068e cJ0_charAt_5068e 2 .char 3 0 0 E [.ref (eK E a_0), .int a_1] L f (fun r L1 f1 => L = L1 ∧ f = f1 ∧ r = (chv a_0 a_1) ∧ narrow .char (.int r) = .int r) := by
  refine ci_of (by decide) (Nat.le_of_ble_eq_true rfl) (fun z hz hnm hC hR => ?_)
  have hC : Cx z E cJ0_charAt_5068e RJ0 2 3 0 0 := hC
  subst hz
  show V z E 2 0 0 L f 0 [(0, .ref (eK E a_0)), (1, .int a_1)] []
  refine v_aload_n hC dJ0_charAt_5068e_0 rfl ?_
  refine v_viS hC (rest := []) ha_0 rfl mi_J0_isLatin1_aae02 ms_J0_isLatin1_aae02 (p_J0_isLatin1_aae02 hW ha_0) mx_J0_isLatin1_aae02 ml_J0_492 (by decide) rfl (cells1 := 0) (slots1 := 0) (by decide) (by decide) (Nat.le_of_ble_eq_true rfl) (Nat.le_of_ble_eq_true rfl) rfl (Nat.le_of_ble_eq_true rfl) dJ0_charAt_5068e_1 (fun r_1 L_2 f_3 h_4 => ?_)
  obtain ⟨rfl, rfl, b_5⟩ := h_4
  obtain rfl : r_1 = 1 := Int32.toInt_inj.mp (by simp only [Int32.reduceToInt]; omega)
  refine v_if_eq_f hC dJ0_charAt_5068e_4 (tgt := 16) (by decide) (by decide) ?_
  refine v_aload_n hC dJ0_charAt_5068e_7 rfl ?_
  refine v_getSv hC ha_0 sf_J0_9 dJ0_charAt_5068e_8 ?_
  refine v_iload_n hC dJ0_charAt_5068e_11 rfl ?_
  refine v_si hC (rest := []) mt_J1_charAt_3b067 (p_J1_charAt_3b067 hW ha_0 (by first | omega | (simp only [Int32.lt_iff_toInt_lt, Int32.le_iff_toInt_le, Int32.reduceToInt, ← Int32.toInt_inj, true_and, and_true, or_true, true_or, false_or, or_false, false_and, and_false, not_true_eq_false, not_false_eq_true] <;> omega))) mx_J1_charAt_3b067 ml_J0_495 (by decide) rfl (cells1 := 0) (slots1 := 0) (by decide) (by decide) (Nat.le_of_ble_eq_true rfl) (Nat.le_of_ble_eq_true rfl) rfl (Nat.le_of_ble_eq_true rfl) dJ0_charAt_5068e_12 (fun r_8 L_9 f_10 h_11 => ?_)
  obtain ⟨rfl, rfl, rfl, nr_12⟩ := h_11
  exact hR _ _ _ _ _ _ _ dJ0_charAt_5068e_15 nr_12 (Nat.le_of_ble_eq_true rfl) (Nat.le_of_ble_eq_true rfl) ⟨rfl, rfl, rfl, nr_12⟩
set_option maxRecDepth 100000 in
set_option maxHeartbeats 8000000 in
theorem p_X12_is {l : Launch} {E : Ez} {L : List Nat} {f : Nat → va_E} {T : Nat → va_E → Prop} {a_0 : Nat} {a_1 : Nat} {q : Nat → Nat} (hW : WT T L f) (k_0 : isM T L E a_0 q) (ha_1 : a_1 < 77) : CI l yX12_is cX12_is 4 .boolean 4 0 0 E [.ref a_0, .ref (eK E a_1)] L f (fun r L1 f1 => L = L1 ∧ f = f1 ∧ r = (iw (f a_0) (f (q 4)) a_1)) := by
  refine ci_of (by decide) (Nat.le_of_ble_eq_true rfl) (fun z hz hnm hC hR => ?_)
  have hC : Cx z E cX12_is RX12 4 4 0 0 := hC
  subst hz
  show V z E 4 0 0 L f 0 [(0, .ref a_0), (1, .ref (eK E a_1))] []
  obtain ⟨m_1, t_2, nq_21, k_3, k_4, k_5, k_6, k_7, k_8, k_9, k_10, k_11, k_12, k_13, k_14, k_15, k_16, k_17, k_18, k_19, k_20⟩ := id k_0
  refine v_aload_n hC dX12_is_0 rfl ?_
  obtain ⟨v_23, v_24, v_26, v_28, v_30, v_32, v_34, v_35, v_36, v_37, v_39, e_22, b_25, b_27, b_29, b_31, b_33, b_38, b_40⟩ := hW.at m_1 t_2
  refine v_vi hC (rest := []) m_1 e_22 rfl mi_X12_good ms_X12_good (p_X12_good hW k_0) mx_X12_good ml_X12_139 (by decide) rfl (cells1 := 0) (slots1 := 0) (by decide) (by decide) (Nat.le_of_ble_eq_true rfl) (Nat.le_of_ble_eq_true rfl) rfl (Nat.le_of_ble_eq_true rfl) dX12_is_1 (fun r_41 L_42 f_43 h_44 => ?_)
  obtain ⟨rfl, rfl, b_45, x_46⟩ := h_44
  have fe_49 : fld (f a_0) 12 = (v_35 : Int32).toInt := by rw [e_22]; rfl
  rw [fe_49] at x_46
  clear fe_49
  try simp only [Int32.reduceToInt, Int64.reduceToInt] at x_46
  refine v_if_eq hC dX12_is_4 (tgt := 35) (by decide) (fun h_50 => ?_) (fun h_50 => ?_)
  · simp only [Int32.lt_iff_toInt_lt, Int32.le_iff_toInt_le, Int32.reduceToInt, ← Int32.toInt_inj] at h_50
    refine v_iconst hC dX12_is_35 (v := 0) (by decide) ?_
    refine v_istore_n hC dX12_is_36 (by decide) (lv' := [(2, .int 0), (0, .ref a_0), (1, .ref (eK E a_1))]) rfl ?_
    refine v_iconst hC dX12_is_37 (v := 0) (by decide) ?_
    refine v_istore_n hC dX12_is_38 (by decide) (lv' := [(3, .int 0), (2, .int 0), (0, .ref a_0), (1, .ref (eK E a_1))]) rfl ?_
    have lp_193 : ∀ (n_194 : Nat) (i_188 : Int32) (b_190 : (0 ≤ i_188.toInt ∧ i_188.toInt ≤ 40)) (i_189 : Int32) (b_191 : (0 ≤ i_189.toInt ∧ i_189.toInt ≤ 1)) (cv_192 : IWI (f a_0) (f (q 4)) a_1 i_189 i_188) (hm_196 : 40 - i_188.toInt < (n_194 : Int)), V z E 4 0 0 L f 39 [(3, .int i_188), (2, .int i_189), (0, .ref a_0), (1, .ref (eK E a_1))] [] := by
      intro n_194
      induction n_194 with
      | zero =>
        intro i_188 b_190 i_189 b_191 cv_192 hm_196
        have bs_197 := cv_192.bs
        have fe_198 : fld (f a_0) 8 = (v_28 : Int32).toInt := by rw [e_22]; rfl
        have fe_199 : fld (f a_0) 9 = (v_30 : Int32).toInt := by rw [e_22]; rfl
        have fe_200 : fld (f a_0) 10 = (v_32 : Int32).toInt := by rw [e_22]; rfl
        have fe_201 : fld (f a_0) 12 = (v_35 : Int32).toInt := by rw [e_22]; rfl
        rw [fe_198, fe_199, fe_200, fe_201] at bs_197
        exfalso; omega
      | succ n_194 ih_195 =>
        intro i_188 b_190 i_189 b_191 cv_192 hm_196
        have bs_197 := cv_192.bs
        have fe_198 : fld (f a_0) 8 = (v_28 : Int32).toInt := by rw [e_22]; rfl
        have fe_199 : fld (f a_0) 9 = (v_30 : Int32).toInt := by rw [e_22]; rfl
        have fe_200 : fld (f a_0) 10 = (v_32 : Int32).toInt := by rw [e_22]; rfl
        have fe_201 : fld (f a_0) 12 = (v_35 : Int32).toInt := by rw [e_22]; rfl
        rw [fe_198, fe_199, fe_200, fe_201] at bs_197
        refine v_iload_n hC dX12_is_39 rfl ?_
        refine v_aload_n hC dX12_is_40 rfl ?_
        refine v_viS hC (rest := [.int i_188]) ha_1 rfl mi_J0_length_8abf5 ms_J0_length_8abf5 (p_J0_length_8abf5 hW ha_1) mx_J0_length_8abf5 ml_X12_143 (by decide) rfl (cells1 := 0) (slots1 := 0) (by decide) (by decide) (Nat.le_of_ble_eq_true rfl) (Nat.le_of_ble_eq_true rfl) rfl (Nat.le_of_ble_eq_true rfl) dX12_is_41 (fun r_202 L_203 f_204 h_205 => ?_)
        obtain ⟨rfl, rfl, b_206, x_207⟩ := h_205
        try simp only [Int32.reduceToInt, Int64.reduceToInt] at x_207
        refine v_icmp_ge hC dX12_is_44 (tgt := 82) (by decide) (fun h_210 => ?_) (fun h_210 => ?_)
        · simp only [Int32.lt_iff_toInt_lt, Int32.le_iff_toInt_le, Int32.reduceToInt, ← Int32.toInt_inj] at h_210
          refine v_iload_n hC dX12_is_82 rfl ?_
          exact hR _ _ _ _ _ _ _ dX12_is_83 (nar01 (by first | omega | (simp only [Int32.lt_iff_toInt_lt, Int32.le_iff_toInt_le, Int32.reduceToInt, ← Int32.toInt_inj, true_and, and_true, or_true, true_or, false_or, or_false, false_and, and_false, not_true_eq_false, not_false_eq_true] <;> omega))) (Nat.le_of_ble_eq_true rfl) (Nat.le_of_ble_eq_true rfl) ⟨rfl, rfl, (cv_192.fin (by first | (left; omega) | (right; omega)))⟩
        · simp only [Int32.lt_iff_toInt_lt, Int32.le_iff_toInt_le, Int32.reduceToInt, ← Int32.toInt_inj] at h_210
          refine v_iload_n hC dX12_is_47 rfl ?_
          refine v_if_eq hC dX12_is_48 (tgt := 82) (by decide) (fun h_211 => ?_) (fun h_211 => ?_)
          · simp only [Int32.lt_iff_toInt_lt, Int32.le_iff_toInt_le, Int32.reduceToInt, ← Int32.toInt_inj] at h_211
            refine v_iload_n hC dX12_is_82 rfl ?_
            exact hR _ _ _ _ _ _ _ dX12_is_83 (nar01 (by first | omega | (simp only [Int32.lt_iff_toInt_lt, Int32.le_iff_toInt_le, Int32.reduceToInt, ← Int32.toInt_inj, true_and, and_true, or_true, true_or, false_or, or_false, false_and, and_false, not_true_eq_false, not_false_eq_true] <;> omega))) (Nat.le_of_ble_eq_true rfl) (Nat.le_of_ble_eq_true rfl) ⟨rfl, rfl, (cv_192.fin (by first | (left; omega) | (right; omega)))⟩
          · simp only [Int32.lt_iff_toInt_lt, Int32.le_iff_toInt_le, Int32.reduceToInt, ← Int32.toInt_inj] at h_211
            refine v_aload_n hC dX12_is_51 rfl ?_
            refine v_get hC fl_X12_24 m_1 e_22 rfl dX12_is_52 ?_
            refine v_aload_n hC dX12_is_55 rfl ?_
            refine v_get hC fl_X12_117 m_1 e_22 rfl dX12_is_56 ?_
            refine v_iload_n hC dX12_is_59 rfl ?_
            obtain ⟨v_212, h_213⟩ : ∃ v9 : Int32, v_30 + i_188 = v9 := ⟨_, rfl⟩
            refine v_iadd hC dX12_is_60 h_213 ?_
            have h_214 := add_v h_213 (by first | omega | (simp only [Int32.lt_iff_toInt_lt, Int32.le_iff_toInt_le, Int32.reduceToInt, ← Int32.toInt_inj, true_and, and_true, or_true, true_or, false_or, or_false, false_and, and_false, not_true_eq_false, not_false_eq_true] <;> omega)) (by first | omega | (simp only [Int32.lt_iff_toInt_lt, Int32.le_iff_toInt_le, Int32.reduceToInt, ← Int32.toInt_inj, true_and, and_true, or_true, true_or, false_or, or_false, false_and, and_false, not_true_eq_false, not_false_eq_true] <;> omega))
            obtain ⟨m_215, t_216⟩ := id k_6
            obtain ⟨g_218, e_217, fit_219⟩ := hW.at m_215 t_216
            obtain ⟨v_220, h_221⟩ : ∃ v9 : Int32, g_218 (v_212 : Int32).toNatClampNeg = v9 := ⟨_, rfl⟩
            refine v_bald hC m_215 e_217 (vp_in_iff.mpr (by first | omega | (simp only [Int32.lt_iff_toInt_lt, Int32.le_iff_toInt_le, Int32.reduceToInt, ← Int32.toInt_inj, true_and, and_true, or_true, true_or, false_or, or_false, false_and, and_false, not_true_eq_false, not_false_eq_true] <;> omega))) h_221 dX12_is_61 ?_
            refine v_aload_n hC dX12_is_62 rfl ?_
            refine v_iload_n hC dX12_is_63 rfl ?_
            refine v_viS hC (rest := [.int v_220]) ha_1 rfl mi_J0_charAt_5068e ms_J0_charAt_5068e (p_J0_charAt_5068e hW ha_1 (by first | omega | (simp only [Int32.lt_iff_toInt_lt, Int32.le_iff_toInt_le, Int32.reduceToInt, ← Int32.toInt_inj, true_and, and_true, or_true, true_or, false_or, or_false, false_and, and_false, not_true_eq_false, not_false_eq_true] <;> omega))) mx_J0_charAt_5068e ml_X12_148 (by decide) rfl (cells1 := 0) (slots1 := 0) (by decide) (by decide) (Nat.le_of_ble_eq_true rfl) (Nat.le_of_ble_eq_true rfl) rfl (Nat.le_of_ble_eq_true rfl) dX12_is_64 (fun r_222 L_223 f_224 h_225 => ?_)
            obtain ⟨rfl, rfl, rfl, nr_226⟩ := h_225
            refine v_icmp_ne hC dX12_is_67 (tgt := 74) (by decide) (fun h_229 => ?_) (fun h_229 => ?_)
            · simp only [Int32.lt_iff_toInt_lt, Int32.le_iff_toInt_le, Int32.reduceToInt, ← Int32.toInt_inj] at h_229
              refine v_iconst hC dX12_is_74 (v := 0) (by decide) ?_
              refine v_istore_n hC dX12_is_75 (by decide) (lv' := [(2, .int 0), (3, .int i_188), (0, .ref a_0), (1, .ref (eK E a_1))]) rfl ?_
              obtain ⟨v_230, h_231⟩ : ∃ v9 : Int32, i_188 + Int32.ofInt 1 = v9 := ⟨_, rfl⟩
              have h_232 := add_v (b := 1) h_231 (by first | omega | (simp only [Int32.lt_iff_toInt_lt, Int32.le_iff_toInt_le, Int32.reduceToInt, ← Int32.toInt_inj, true_and, and_true, or_true, true_or, false_or, or_false, false_and, and_false, not_true_eq_false, not_false_eq_true] <;> omega)) (by first | omega | (simp only [Int32.lt_iff_toInt_lt, Int32.le_iff_toInt_le, Int32.reduceToInt, ← Int32.toInt_inj, true_and, and_true, or_true, true_or, false_or, or_false, false_and, and_false, not_true_eq_false, not_false_eq_true] <;> omega))
              simp only [Int32.reduceToInt] at h_232
              refine v_iinc hC dX12_is_76 (k := 1) rfl (v := v_230) h_231 (by decide) (lv' := [(3, .int v_230), (2, .int 0), (0, .ref a_0), (1, .ref (eK E a_1))]) rfl ?_
              refine v_goto hC dX12_is_79 (tgt := 39) (by decide) ?_
              refine v_pick [0, 1, 2, 3] rfl ?_
              have fe_233 : fld (f a_0) 9 = (v_30 : Int32).toInt := by rw [e_22]; rfl
              exact ih_195 v_230 (by first | omega | (simp only [Int32.lt_iff_toInt_lt, Int32.le_iff_toInt_le, Int32.reduceToInt, ← Int32.toInt_inj, true_and, and_true, or_true, true_or, false_or, or_false, false_and, and_false, not_true_eq_false, not_false_eq_true] <;> omega)) 0 (by decide) (cv_192.no (by omega) (by omega) (by omega) (fun q9 => h_229 (congrArg Int32.toInt ((bat_at (t := f (q 4)) e_217 h_221 (k := i_188) (F := fld (f a_0) 9) (by rw [fe_233]; omega) (by rw [fe_233]; omega) (by omega)).symm.trans q9)))) (by first | omega | (simp only [Int32.lt_iff_toInt_lt, Int32.le_iff_toInt_le, Int32.reduceToInt, ← Int32.toInt_inj, true_and, and_true, or_true, true_or, false_or, or_false, false_and, and_false, not_true_eq_false, not_false_eq_true] <;> omega))
            · simp only [Int32.lt_iff_toInt_lt, Int32.le_iff_toInt_le, Int32.reduceToInt, ← Int32.toInt_inj] at h_229
              refine v_iconst hC dX12_is_70 (v := 1) (by decide) ?_
              refine v_goto hC dX12_is_71 (tgt := 75) (by decide) ?_
              refine v_istore_n hC dX12_is_75 (by decide) (lv' := [(2, .int 1), (3, .int i_188), (0, .ref a_0), (1, .ref (eK E a_1))]) rfl ?_
              obtain ⟨v_234, h_235⟩ : ∃ v9 : Int32, i_188 + Int32.ofInt 1 = v9 := ⟨_, rfl⟩
              have h_236 := add_v (b := 1) h_235 (by first | omega | (simp only [Int32.lt_iff_toInt_lt, Int32.le_iff_toInt_le, Int32.reduceToInt, ← Int32.toInt_inj, true_and, and_true, or_true, true_or, false_or, or_false, false_and, and_false, not_true_eq_false, not_false_eq_true] <;> omega)) (by first | omega | (simp only [Int32.lt_iff_toInt_lt, Int32.le_iff_toInt_le, Int32.reduceToInt, ← Int32.toInt_inj, true_and, and_true, or_true, true_or, false_or, or_false, false_and, and_false, not_true_eq_false, not_false_eq_true] <;> omega))
              simp only [Int32.reduceToInt] at h_236
              refine v_iinc hC dX12_is_76 (k := 1) rfl (v := v_234) h_235 (by decide) (lv' := [(3, .int v_234), (2, .int 1), (0, .ref a_0), (1, .ref (eK E a_1))]) rfl ?_
              refine v_goto hC dX12_is_79 (tgt := 39) (by decide) ?_
              refine v_pick [0, 1, 2, 3] rfl ?_
              have fe_237 : fld (f a_0) 9 = (v_30 : Int32).toInt := by rw [e_22]; rfl
              exact ih_195 v_234 (by first | omega | (simp only [Int32.lt_iff_toInt_lt, Int32.le_iff_toInt_le, Int32.reduceToInt, ← Int32.toInt_inj, true_and, and_true, or_true, true_or, false_or, or_false, false_and, and_false, not_true_eq_false, not_false_eq_true] <;> omega)) 1 (by decide) (cv_192.yes (by omega) (by omega) (by omega) ((bat_at (t := f (q 4)) e_217 h_221 (k := i_188) (F := fld (f a_0) 9) (by rw [fe_237]; omega) (by rw [fe_237]; omega) (by omega)).trans (Int32.toInt_inj.mp (by omega)))) (by first | omega | (simp only [Int32.lt_iff_toInt_lt, Int32.le_iff_toInt_le, Int32.reduceToInt, ← Int32.toInt_inj, true_and, and_true, or_true, true_or, false_or, or_false, false_and, and_false, not_true_eq_false, not_false_eq_true] <;> omega))
    refine v_pick [0, 1, 2, 3] rfl ?_
    have fe_238 : fld (f a_0) 8 = (v_28 : Int32).toInt := by rw [e_22]; rfl
    have fe_239 : fld (f a_0) 9 = (v_30 : Int32).toInt := by rw [e_22]; rfl
    have fe_240 : fld (f a_0) 10 = (v_32 : Int32).toInt := by rw [e_22]; rfl
    have fe_241 : fld (f a_0) 12 = (v_35 : Int32).toInt := by rw [e_22]; rfl
    exact lp_193 42 0 (by decide) 0 (by decide) (IWI.s0 (by intro q9; rw [fe_238, fe_239, fe_240, fe_241] at q9; omega)) (by decide)
  · simp only [Int32.lt_iff_toInt_lt, Int32.le_iff_toInt_le, Int32.reduceToInt, ← Int32.toInt_inj] at h_50
    refine v_aload_n hC dX12_is_7 rfl ?_
    refine v_get hC fl_X12_120 m_1 e_22 rfl dX12_is_8 ?_
    refine v_iconst hC dX12_is_11 (v := 1) (by decide) ?_
    refine v_icmp_ne hC dX12_is_12 (tgt := 35) (by decide) (fun h_242 => ?_) (fun h_242 => ?_)
    · simp only [Int32.lt_iff_toInt_lt, Int32.le_iff_toInt_le, Int32.reduceToInt, ← Int32.toInt_inj] at h_242
      refine v_iconst hC dX12_is_35 (v := 0) (by decide) ?_
      refine v_istore_n hC dX12_is_36 (by decide) (lv' := [(2, .int 0), (0, .ref a_0), (1, .ref (eK E a_1))]) rfl ?_
      refine v_iconst hC dX12_is_37 (v := 0) (by decide) ?_
      refine v_istore_n hC dX12_is_38 (by decide) (lv' := [(3, .int 0), (2, .int 0), (0, .ref a_0), (1, .ref (eK E a_1))]) rfl ?_
      have lp_385 : ∀ (n_386 : Nat) (i_380 : Int32) (b_382 : (0 ≤ i_380.toInt ∧ i_380.toInt ≤ 40)) (i_381 : Int32) (b_383 : (0 ≤ i_381.toInt ∧ i_381.toInt ≤ 1)) (cv_384 : IWI (f a_0) (f (q 4)) a_1 i_381 i_380) (hm_388 : 40 - i_380.toInt < (n_386 : Int)), V z E 4 0 0 L f 39 [(3, .int i_380), (2, .int i_381), (0, .ref a_0), (1, .ref (eK E a_1))] [] := by
        intro n_386
        induction n_386 with
        | zero =>
          intro i_380 b_382 i_381 b_383 cv_384 hm_388
          have bs_389 := cv_384.bs
          have fe_390 : fld (f a_0) 8 = (v_28 : Int32).toInt := by rw [e_22]; rfl
          have fe_391 : fld (f a_0) 9 = (v_30 : Int32).toInt := by rw [e_22]; rfl
          have fe_392 : fld (f a_0) 10 = (v_32 : Int32).toInt := by rw [e_22]; rfl
          have fe_393 : fld (f a_0) 12 = (v_35 : Int32).toInt := by rw [e_22]; rfl
          rw [fe_390, fe_391, fe_392, fe_393] at bs_389
          exfalso; omega
        | succ n_386 ih_387 =>
          intro i_380 b_382 i_381 b_383 cv_384 hm_388
          have bs_389 := cv_384.bs
          have fe_390 : fld (f a_0) 8 = (v_28 : Int32).toInt := by rw [e_22]; rfl
          have fe_391 : fld (f a_0) 9 = (v_30 : Int32).toInt := by rw [e_22]; rfl
          have fe_392 : fld (f a_0) 10 = (v_32 : Int32).toInt := by rw [e_22]; rfl
          have fe_393 : fld (f a_0) 12 = (v_35 : Int32).toInt := by rw [e_22]; rfl
          rw [fe_390, fe_391, fe_392, fe_393] at bs_389
          refine v_iload_n hC dX12_is_39 rfl ?_
          refine v_aload_n hC dX12_is_40 rfl ?_
          refine v_viS hC (rest := [.int i_380]) ha_1 rfl mi_J0_length_8abf5 ms_J0_length_8abf5 (p_J0_length_8abf5 hW ha_1) mx_J0_length_8abf5 ml_X12_143 (by decide) rfl (cells1 := 0) (slots1 := 0) (by decide) (by decide) (Nat.le_of_ble_eq_true rfl) (Nat.le_of_ble_eq_true rfl) rfl (Nat.le_of_ble_eq_true rfl) dX12_is_41 (fun r_394 L_395 f_396 h_397 => ?_)
          obtain ⟨rfl, rfl, b_398, x_399⟩ := h_397
          try simp only [Int32.reduceToInt, Int64.reduceToInt] at x_399
          refine v_icmp_ge hC dX12_is_44 (tgt := 82) (by decide) (fun h_402 => ?_) (fun h_402 => ?_)
          · simp only [Int32.lt_iff_toInt_lt, Int32.le_iff_toInt_le, Int32.reduceToInt, ← Int32.toInt_inj] at h_402
            refine v_iload_n hC dX12_is_82 rfl ?_
            exact hR _ _ _ _ _ _ _ dX12_is_83 (nar01 (by first | omega | (simp only [Int32.lt_iff_toInt_lt, Int32.le_iff_toInt_le, Int32.reduceToInt, ← Int32.toInt_inj, true_and, and_true, or_true, true_or, false_or, or_false, false_and, and_false, not_true_eq_false, not_false_eq_true] <;> omega))) (Nat.le_of_ble_eq_true rfl) (Nat.le_of_ble_eq_true rfl) ⟨rfl, rfl, (cv_384.fin (by first | (left; omega) | (right; omega)))⟩
          · simp only [Int32.lt_iff_toInt_lt, Int32.le_iff_toInt_le, Int32.reduceToInt, ← Int32.toInt_inj] at h_402
            refine v_iload_n hC dX12_is_47 rfl ?_
            refine v_if_eq hC dX12_is_48 (tgt := 82) (by decide) (fun h_403 => ?_) (fun h_403 => ?_)
            · simp only [Int32.lt_iff_toInt_lt, Int32.le_iff_toInt_le, Int32.reduceToInt, ← Int32.toInt_inj] at h_403
              refine v_iload_n hC dX12_is_82 rfl ?_
              exact hR _ _ _ _ _ _ _ dX12_is_83 (nar01 (by first | omega | (simp only [Int32.lt_iff_toInt_lt, Int32.le_iff_toInt_le, Int32.reduceToInt, ← Int32.toInt_inj, true_and, and_true, or_true, true_or, false_or, or_false, false_and, and_false, not_true_eq_false, not_false_eq_true] <;> omega))) (Nat.le_of_ble_eq_true rfl) (Nat.le_of_ble_eq_true rfl) ⟨rfl, rfl, (cv_384.fin (by first | (left; omega) | (right; omega)))⟩
            · simp only [Int32.lt_iff_toInt_lt, Int32.le_iff_toInt_le, Int32.reduceToInt, ← Int32.toInt_inj] at h_403
              refine v_aload_n hC dX12_is_51 rfl ?_
              refine v_get hC fl_X12_24 m_1 e_22 rfl dX12_is_52 ?_
              refine v_aload_n hC dX12_is_55 rfl ?_
              refine v_get hC fl_X12_117 m_1 e_22 rfl dX12_is_56 ?_
              refine v_iload_n hC dX12_is_59 rfl ?_
              obtain ⟨v_404, h_405⟩ : ∃ v9 : Int32, v_30 + i_380 = v9 := ⟨_, rfl⟩
              refine v_iadd hC dX12_is_60 h_405 ?_
              have h_406 := add_v h_405 (by first | omega | (simp only [Int32.lt_iff_toInt_lt, Int32.le_iff_toInt_le, Int32.reduceToInt, ← Int32.toInt_inj, true_and, and_true, or_true, true_or, false_or, or_false, false_and, and_false, not_true_eq_false, not_false_eq_true] <;> omega)) (by first | omega | (simp only [Int32.lt_iff_toInt_lt, Int32.le_iff_toInt_le, Int32.reduceToInt, ← Int32.toInt_inj, true_and, and_true, or_true, true_or, false_or, or_false, false_and, and_false, not_true_eq_false, not_false_eq_true] <;> omega))
              obtain ⟨m_407, t_408⟩ := id k_6
              obtain ⟨g_410, e_409, fit_411⟩ := hW.at m_407 t_408
              obtain ⟨v_412, h_413⟩ : ∃ v9 : Int32, g_410 (v_404 : Int32).toNatClampNeg = v9 := ⟨_, rfl⟩
              refine v_bald hC m_407 e_409 (vp_in_iff.mpr (by first | omega | (simp only [Int32.lt_iff_toInt_lt, Int32.le_iff_toInt_le, Int32.reduceToInt, ← Int32.toInt_inj, true_and, and_true, or_true, true_or, false_or, or_false, false_and, and_false, not_true_eq_false, not_false_eq_true] <;> omega))) h_413 dX12_is_61 ?_
              refine v_aload_n hC dX12_is_62 rfl ?_
              refine v_iload_n hC dX12_is_63 rfl ?_
              refine v_viS hC (rest := [.int v_412]) ha_1 rfl mi_J0_charAt_5068e ms_J0_charAt_5068e (p_J0_charAt_5068e hW ha_1 (by first | omega | (simp only [Int32.lt_iff_toInt_lt, Int32.le_iff_toInt_le, Int32.reduceToInt, ← Int32.toInt_inj, true_and, and_true, or_true, true_or, false_or, or_false, false_and, and_false, not_true_eq_false, not_false_eq_true] <;> omega))) mx_J0_charAt_5068e ml_X12_148 (by decide) rfl (cells1 := 0) (slots1 := 0) (by decide) (by decide) (Nat.le_of_ble_eq_true rfl) (Nat.le_of_ble_eq_true rfl) rfl (Nat.le_of_ble_eq_true rfl) dX12_is_64 (fun r_414 L_415 f_416 h_417 => ?_)
              obtain ⟨rfl, rfl, rfl, nr_418⟩ := h_417
              refine v_icmp_ne hC dX12_is_67 (tgt := 74) (by decide) (fun h_421 => ?_) (fun h_421 => ?_)
              · simp only [Int32.lt_iff_toInt_lt, Int32.le_iff_toInt_le, Int32.reduceToInt, ← Int32.toInt_inj] at h_421
                refine v_iconst hC dX12_is_74 (v := 0) (by decide) ?_
                refine v_istore_n hC dX12_is_75 (by decide) (lv' := [(2, .int 0), (3, .int i_380), (0, .ref a_0), (1, .ref (eK E a_1))]) rfl ?_
                obtain ⟨v_422, h_423⟩ : ∃ v9 : Int32, i_380 + Int32.ofInt 1 = v9 := ⟨_, rfl⟩
                have h_424 := add_v (b := 1) h_423 (by first | omega | (simp only [Int32.lt_iff_toInt_lt, Int32.le_iff_toInt_le, Int32.reduceToInt, ← Int32.toInt_inj, true_and, and_true, or_true, true_or, false_or, or_false, false_and, and_false, not_true_eq_false, not_false_eq_true] <;> omega)) (by first | omega | (simp only [Int32.lt_iff_toInt_lt, Int32.le_iff_toInt_le, Int32.reduceToInt, ← Int32.toInt_inj, true_and, and_true, or_true, true_or, false_or, or_false, false_and, and_false, not_true_eq_false, not_false_eq_true] <;> omega))
                simp only [Int32.reduceToInt] at h_424
                refine v_iinc hC dX12_is_76 (k := 1) rfl (v := v_422) h_423 (by decide) (lv' := [(3, .int v_422), (2, .int 0), (0, .ref a_0), (1, .ref (eK E a_1))]) rfl ?_
                refine v_goto hC dX12_is_79 (tgt := 39) (by decide) ?_
                refine v_pick [0, 1, 2, 3] rfl ?_
                have fe_425 : fld (f a_0) 9 = (v_30 : Int32).toInt := by rw [e_22]; rfl
                exact ih_387 v_422 (by first | omega | (simp only [Int32.lt_iff_toInt_lt, Int32.le_iff_toInt_le, Int32.reduceToInt, ← Int32.toInt_inj, true_and, and_true, or_true, true_or, false_or, or_false, false_and, and_false, not_true_eq_false, not_false_eq_true] <;> omega)) 0 (by decide) (cv_384.no (by omega) (by omega) (by omega) (fun q9 => h_421 (congrArg Int32.toInt ((bat_at (t := f (q 4)) e_409 h_413 (k := i_380) (F := fld (f a_0) 9) (by rw [fe_425]; omega) (by rw [fe_425]; omega) (by omega)).symm.trans q9)))) (by first | omega | (simp only [Int32.lt_iff_toInt_lt, Int32.le_iff_toInt_le, Int32.reduceToInt, ← Int32.toInt_inj, true_and, and_true, or_true, true_or, false_or, or_false, false_and, and_false, not_true_eq_false, not_false_eq_true] <;> omega))
              · simp only [Int32.lt_iff_toInt_lt, Int32.le_iff_toInt_le, Int32.reduceToInt, ← Int32.toInt_inj] at h_421
                refine v_iconst hC dX12_is_70 (v := 1) (by decide) ?_
                refine v_goto hC dX12_is_71 (tgt := 75) (by decide) ?_
                refine v_istore_n hC dX12_is_75 (by decide) (lv' := [(2, .int 1), (3, .int i_380), (0, .ref a_0), (1, .ref (eK E a_1))]) rfl ?_
                obtain ⟨v_426, h_427⟩ : ∃ v9 : Int32, i_380 + Int32.ofInt 1 = v9 := ⟨_, rfl⟩
                have h_428 := add_v (b := 1) h_427 (by first | omega | (simp only [Int32.lt_iff_toInt_lt, Int32.le_iff_toInt_le, Int32.reduceToInt, ← Int32.toInt_inj, true_and, and_true, or_true, true_or, false_or, or_false, false_and, and_false, not_true_eq_false, not_false_eq_true] <;> omega)) (by first | omega | (simp only [Int32.lt_iff_toInt_lt, Int32.le_iff_toInt_le, Int32.reduceToInt, ← Int32.toInt_inj, true_and, and_true, or_true, true_or, false_or, or_false, false_and, and_false, not_true_eq_false, not_false_eq_true] <;> omega))
                simp only [Int32.reduceToInt] at h_428
                refine v_iinc hC dX12_is_76 (k := 1) rfl (v := v_426) h_427 (by decide) (lv' := [(3, .int v_426), (2, .int 1), (0, .ref a_0), (1, .ref (eK E a_1))]) rfl ?_
                refine v_goto hC dX12_is_79 (tgt := 39) (by decide) ?_
                refine v_pick [0, 1, 2, 3] rfl ?_
                have fe_429 : fld (f a_0) 9 = (v_30 : Int32).toInt := by rw [e_22]; rfl
                exact ih_387 v_426 (by first | omega | (simp only [Int32.lt_iff_toInt_lt, Int32.le_iff_toInt_le, Int32.reduceToInt, ← Int32.toInt_inj, true_and, and_true, or_true, true_or, false_or, or_false, false_and, and_false, not_true_eq_false, not_false_eq_true] <;> omega)) 1 (by decide) (cv_384.yes (by omega) (by omega) (by omega) ((bat_at (t := f (q 4)) e_409 h_413 (k := i_380) (F := fld (f a_0) 9) (by rw [fe_429]; omega) (by rw [fe_429]; omega) (by omega)).trans (Int32.toInt_inj.mp (by omega)))) (by first | omega | (simp only [Int32.lt_iff_toInt_lt, Int32.le_iff_toInt_le, Int32.reduceToInt, ← Int32.toInt_inj, true_and, and_true, or_true, true_or, false_or, or_false, false_and, and_false, not_true_eq_false, not_false_eq_true] <;> omega))
      refine v_pick [0, 1, 2, 3] rfl ?_
      have fe_430 : fld (f a_0) 8 = (v_28 : Int32).toInt := by rw [e_22]; rfl
      have fe_431 : fld (f a_0) 9 = (v_30 : Int32).toInt := by rw [e_22]; rfl
      have fe_432 : fld (f a_0) 10 = (v_32 : Int32).toInt := by rw [e_22]; rfl
      have fe_433 : fld (f a_0) 12 = (v_35 : Int32).toInt := by rw [e_22]; rfl
      exact lp_385 42 0 (by decide) 0 (by decide) (IWI.s0 (by intro q9; rw [fe_430, fe_431, fe_432, fe_433] at q9; omega)) (by decide)
    · simp only [Int32.lt_iff_toInt_lt, Int32.le_iff_toInt_le, Int32.reduceToInt, ← Int32.toInt_inj] at h_242
      refine v_aload_n hC dX12_is_15 rfl ?_
      refine v_get hC fl_X12_108 m_1 e_22 rfl dX12_is_16 ?_
      refine v_aload_n hC dX12_is_19 rfl ?_
      refine v_get hC fl_X12_117 m_1 e_22 rfl dX12_is_20 ?_
      obtain ⟨v_434, h_435⟩ : ∃ v9 : Int32, v_28 - v_30 = v9 := ⟨_, rfl⟩
      refine v_isub hC dX12_is_23 h_435 ?_
      have h_436 := sub_v h_435 (by first | omega | (simp only [Int32.lt_iff_toInt_lt, Int32.le_iff_toInt_le, Int32.reduceToInt, ← Int32.toInt_inj, true_and, and_true, or_true, true_or, false_or, or_false, false_and, and_false, not_true_eq_false, not_false_eq_true] <;> omega)) (by first | omega | (simp only [Int32.lt_iff_toInt_lt, Int32.le_iff_toInt_le, Int32.reduceToInt, ← Int32.toInt_inj, true_and, and_true, or_true, true_or, false_or, or_false, false_and, and_false, not_true_eq_false, not_false_eq_true] <;> omega))
      refine v_aload_n hC dX12_is_24 rfl ?_
      refine v_viS hC (rest := [.int v_434]) ha_1 rfl mi_J0_length_8abf5 ms_J0_length_8abf5 (p_J0_length_8abf5 hW ha_1) mx_J0_length_8abf5 ml_X12_143 (by decide) rfl (cells1 := 0) (slots1 := 0) (by decide) (by decide) (Nat.le_of_ble_eq_true rfl) (Nat.le_of_ble_eq_true rfl) rfl (Nat.le_of_ble_eq_true rfl) dX12_is_25 (fun r_437 L_438 f_439 h_440 => ?_)
      obtain ⟨rfl, rfl, b_441, x_442⟩ := h_440
      try simp only [Int32.reduceToInt, Int64.reduceToInt] at x_442
      refine v_icmp_ne hC dX12_is_28 (tgt := 35) (by decide) (fun h_445 => ?_) (fun h_445 => ?_)
      · simp only [Int32.lt_iff_toInt_lt, Int32.le_iff_toInt_le, Int32.reduceToInt, ← Int32.toInt_inj] at h_445
        refine v_iconst hC dX12_is_35 (v := 0) (by decide) ?_
        refine v_istore_n hC dX12_is_36 (by decide) (lv' := [(2, .int 0), (0, .ref a_0), (1, .ref (eK E a_1))]) rfl ?_
        refine v_iconst hC dX12_is_37 (v := 0) (by decide) ?_
        refine v_istore_n hC dX12_is_38 (by decide) (lv' := [(3, .int 0), (2, .int 0), (0, .ref a_0), (1, .ref (eK E a_1))]) rfl ?_
        have lp_588 : ∀ (n_589 : Nat) (i_583 : Int32) (b_585 : (0 ≤ i_583.toInt ∧ i_583.toInt ≤ 40)) (i_584 : Int32) (b_586 : (0 ≤ i_584.toInt ∧ i_584.toInt ≤ 1)) (cv_587 : IWI (f a_0) (f (q 4)) a_1 i_584 i_583) (hm_591 : 40 - i_583.toInt < (n_589 : Int)), V z E 4 0 0 L f 39 [(3, .int i_583), (2, .int i_584), (0, .ref a_0), (1, .ref (eK E a_1))] [] := by
          intro n_589
          induction n_589 with
          | zero =>
            intro i_583 b_585 i_584 b_586 cv_587 hm_591
            have bs_592 := cv_587.bs
            have fe_593 : fld (f a_0) 8 = (v_28 : Int32).toInt := by rw [e_22]; rfl
            have fe_594 : fld (f a_0) 9 = (v_30 : Int32).toInt := by rw [e_22]; rfl
            have fe_595 : fld (f a_0) 10 = (v_32 : Int32).toInt := by rw [e_22]; rfl
            have fe_596 : fld (f a_0) 12 = (v_35 : Int32).toInt := by rw [e_22]; rfl
            rw [fe_593, fe_594, fe_595, fe_596] at bs_592
            exfalso; omega
          | succ n_589 ih_590 =>
            intro i_583 b_585 i_584 b_586 cv_587 hm_591
            have bs_592 := cv_587.bs
            have fe_593 : fld (f a_0) 8 = (v_28 : Int32).toInt := by rw [e_22]; rfl
            have fe_594 : fld (f a_0) 9 = (v_30 : Int32).toInt := by rw [e_22]; rfl
            have fe_595 : fld (f a_0) 10 = (v_32 : Int32).toInt := by rw [e_22]; rfl
            have fe_596 : fld (f a_0) 12 = (v_35 : Int32).toInt := by rw [e_22]; rfl
            rw [fe_593, fe_594, fe_595, fe_596] at bs_592
            refine v_iload_n hC dX12_is_39 rfl ?_
            refine v_aload_n hC dX12_is_40 rfl ?_
            refine v_viS hC (rest := [.int i_583]) ha_1 rfl mi_J0_length_8abf5 ms_J0_length_8abf5 (p_J0_length_8abf5 hW ha_1) mx_J0_length_8abf5 ml_X12_143 (by decide) rfl (cells1 := 0) (slots1 := 0) (by decide) (by decide) (Nat.le_of_ble_eq_true rfl) (Nat.le_of_ble_eq_true rfl) rfl (Nat.le_of_ble_eq_true rfl) dX12_is_41 (fun r_597 L_598 f_599 h_600 => ?_)
            obtain ⟨rfl, rfl, b_601, x_602⟩ := h_600
            try simp only [Int32.reduceToInt, Int64.reduceToInt] at x_602
            refine v_icmp_ge hC dX12_is_44 (tgt := 82) (by decide) (fun h_605 => ?_) (fun h_605 => ?_)
            · simp only [Int32.lt_iff_toInt_lt, Int32.le_iff_toInt_le, Int32.reduceToInt, ← Int32.toInt_inj] at h_605
              refine v_iload_n hC dX12_is_82 rfl ?_
              exact hR _ _ _ _ _ _ _ dX12_is_83 (nar01 (by first | omega | (simp only [Int32.lt_iff_toInt_lt, Int32.le_iff_toInt_le, Int32.reduceToInt, ← Int32.toInt_inj, true_and, and_true, or_true, true_or, false_or, or_false, false_and, and_false, not_true_eq_false, not_false_eq_true] <;> omega))) (Nat.le_of_ble_eq_true rfl) (Nat.le_of_ble_eq_true rfl) ⟨rfl, rfl, (cv_587.fin (by first | (left; omega) | (right; omega)))⟩
            · simp only [Int32.lt_iff_toInt_lt, Int32.le_iff_toInt_le, Int32.reduceToInt, ← Int32.toInt_inj] at h_605
              refine v_iload_n hC dX12_is_47 rfl ?_
              refine v_if_eq hC dX12_is_48 (tgt := 82) (by decide) (fun h_606 => ?_) (fun h_606 => ?_)
              · simp only [Int32.lt_iff_toInt_lt, Int32.le_iff_toInt_le, Int32.reduceToInt, ← Int32.toInt_inj] at h_606
                refine v_iload_n hC dX12_is_82 rfl ?_
                exact hR _ _ _ _ _ _ _ dX12_is_83 (nar01 (by first | omega | (simp only [Int32.lt_iff_toInt_lt, Int32.le_iff_toInt_le, Int32.reduceToInt, ← Int32.toInt_inj, true_and, and_true, or_true, true_or, false_or, or_false, false_and, and_false, not_true_eq_false, not_false_eq_true] <;> omega))) (Nat.le_of_ble_eq_true rfl) (Nat.le_of_ble_eq_true rfl) ⟨rfl, rfl, (cv_587.fin (by first | (left; omega) | (right; omega)))⟩
              · simp only [Int32.lt_iff_toInt_lt, Int32.le_iff_toInt_le, Int32.reduceToInt, ← Int32.toInt_inj] at h_606
                refine v_aload_n hC dX12_is_51 rfl ?_
                refine v_get hC fl_X12_24 m_1 e_22 rfl dX12_is_52 ?_
                refine v_aload_n hC dX12_is_55 rfl ?_
                refine v_get hC fl_X12_117 m_1 e_22 rfl dX12_is_56 ?_
                refine v_iload_n hC dX12_is_59 rfl ?_
                obtain ⟨v_607, h_608⟩ : ∃ v9 : Int32, v_30 + i_583 = v9 := ⟨_, rfl⟩
                refine v_iadd hC dX12_is_60 h_608 ?_
                have h_609 := add_v h_608 (by first | omega | (simp only [Int32.lt_iff_toInt_lt, Int32.le_iff_toInt_le, Int32.reduceToInt, ← Int32.toInt_inj, true_and, and_true, or_true, true_or, false_or, or_false, false_and, and_false, not_true_eq_false, not_false_eq_true] <;> omega)) (by first | omega | (simp only [Int32.lt_iff_toInt_lt, Int32.le_iff_toInt_le, Int32.reduceToInt, ← Int32.toInt_inj, true_and, and_true, or_true, true_or, false_or, or_false, false_and, and_false, not_true_eq_false, not_false_eq_true] <;> omega))
                obtain ⟨m_610, t_611⟩ := id k_6
                obtain ⟨g_613, e_612, fit_614⟩ := hW.at m_610 t_611
                obtain ⟨v_615, h_616⟩ : ∃ v9 : Int32, g_613 (v_607 : Int32).toNatClampNeg = v9 := ⟨_, rfl⟩
                refine v_bald hC m_610 e_612 (vp_in_iff.mpr (by first | omega | (simp only [Int32.lt_iff_toInt_lt, Int32.le_iff_toInt_le, Int32.reduceToInt, ← Int32.toInt_inj, true_and, and_true, or_true, true_or, false_or, or_false, false_and, and_false, not_true_eq_false, not_false_eq_true] <;> omega))) h_616 dX12_is_61 ?_
                refine v_aload_n hC dX12_is_62 rfl ?_
                refine v_iload_n hC dX12_is_63 rfl ?_
                refine v_viS hC (rest := [.int v_615]) ha_1 rfl mi_J0_charAt_5068e ms_J0_charAt_5068e (p_J0_charAt_5068e hW ha_1 (by first | omega | (simp only [Int32.lt_iff_toInt_lt, Int32.le_iff_toInt_le, Int32.reduceToInt, ← Int32.toInt_inj, true_and, and_true, or_true, true_or, false_or, or_false, false_and, and_false, not_true_eq_false, not_false_eq_true] <;> omega))) mx_J0_charAt_5068e ml_X12_148 (by decide) rfl (cells1 := 0) (slots1 := 0) (by decide) (by decide) (Nat.le_of_ble_eq_true rfl) (Nat.le_of_ble_eq_true rfl) rfl (Nat.le_of_ble_eq_true rfl) dX12_is_64 (fun r_617 L_618 f_619 h_620 => ?_)
                obtain ⟨rfl, rfl, rfl, nr_621⟩ := h_620
                refine v_icmp_ne hC dX12_is_67 (tgt := 74) (by decide) (fun h_624 => ?_) (fun h_624 => ?_)
                · simp only [Int32.lt_iff_toInt_lt, Int32.le_iff_toInt_le, Int32.reduceToInt, ← Int32.toInt_inj] at h_624
                  refine v_iconst hC dX12_is_74 (v := 0) (by decide) ?_
                  refine v_istore_n hC dX12_is_75 (by decide) (lv' := [(2, .int 0), (3, .int i_583), (0, .ref a_0), (1, .ref (eK E a_1))]) rfl ?_
                  obtain ⟨v_625, h_626⟩ : ∃ v9 : Int32, i_583 + Int32.ofInt 1 = v9 := ⟨_, rfl⟩
                  have h_627 := add_v (b := 1) h_626 (by first | omega | (simp only [Int32.lt_iff_toInt_lt, Int32.le_iff_toInt_le, Int32.reduceToInt, ← Int32.toInt_inj, true_and, and_true, or_true, true_or, false_or, or_false, false_and, and_false, not_true_eq_false, not_false_eq_true] <;> omega)) (by first | omega | (simp only [Int32.lt_iff_toInt_lt, Int32.le_iff_toInt_le, Int32.reduceToInt, ← Int32.toInt_inj, true_and, and_true, or_true, true_or, false_or, or_false, false_and, and_false, not_true_eq_false, not_false_eq_true] <;> omega))
                  simp only [Int32.reduceToInt] at h_627
                  refine v_iinc hC dX12_is_76 (k := 1) rfl (v := v_625) h_626 (by decide) (lv' := [(3, .int v_625), (2, .int 0), (0, .ref a_0), (1, .ref (eK E a_1))]) rfl ?_
                  refine v_goto hC dX12_is_79 (tgt := 39) (by decide) ?_
                  refine v_pick [0, 1, 2, 3] rfl ?_
                  have fe_628 : fld (f a_0) 9 = (v_30 : Int32).toInt := by rw [e_22]; rfl
                  exact ih_590 v_625 (by first | omega | (simp only [Int32.lt_iff_toInt_lt, Int32.le_iff_toInt_le, Int32.reduceToInt, ← Int32.toInt_inj, true_and, and_true, or_true, true_or, false_or, or_false, false_and, and_false, not_true_eq_false, not_false_eq_true] <;> omega)) 0 (by decide) (cv_587.no (by omega) (by omega) (by omega) (fun q9 => h_624 (congrArg Int32.toInt ((bat_at (t := f (q 4)) e_612 h_616 (k := i_583) (F := fld (f a_0) 9) (by rw [fe_628]; omega) (by rw [fe_628]; omega) (by omega)).symm.trans q9)))) (by first | omega | (simp only [Int32.lt_iff_toInt_lt, Int32.le_iff_toInt_le, Int32.reduceToInt, ← Int32.toInt_inj, true_and, and_true, or_true, true_or, false_or, or_false, false_and, and_false, not_true_eq_false, not_false_eq_true] <;> omega))
                · simp only [Int32.lt_iff_toInt_lt, Int32.le_iff_toInt_le, Int32.reduceToInt, ← Int32.toInt_inj] at h_624
                  refine v_iconst hC dX12_is_70 (v := 1) (by decide) ?_
                  refine v_goto hC dX12_is_71 (tgt := 75) (by decide) ?_
                  refine v_istore_n hC dX12_is_75 (by decide) (lv' := [(2, .int 1), (3, .int i_583), (0, .ref a_0), (1, .ref (eK E a_1))]) rfl ?_
                  obtain ⟨v_629, h_630⟩ : ∃ v9 : Int32, i_583 + Int32.ofInt 1 = v9 := ⟨_, rfl⟩
                  have h_631 := add_v (b := 1) h_630 (by first | omega | (simp only [Int32.lt_iff_toInt_lt, Int32.le_iff_toInt_le, Int32.reduceToInt, ← Int32.toInt_inj, true_and, and_true, or_true, true_or, false_or, or_false, false_and, and_false, not_true_eq_false, not_false_eq_true] <;> omega)) (by first | omega | (simp only [Int32.lt_iff_toInt_lt, Int32.le_iff_toInt_le, Int32.reduceToInt, ← Int32.toInt_inj, true_and, and_true, or_true, true_or, false_or, or_false, false_and, and_false, not_true_eq_false, not_false_eq_true] <;> omega))
                  simp only [Int32.reduceToInt] at h_631
                  refine v_iinc hC dX12_is_76 (k := 1) rfl (v := v_629) h_630 (by decide) (lv' := [(3, .int v_629), (2, .int 1), (0, .ref a_0), (1, .ref (eK E a_1))]) rfl ?_
                  refine v_goto hC dX12_is_79 (tgt := 39) (by decide) ?_
                  refine v_pick [0, 1, 2, 3] rfl ?_
                  have fe_632 : fld (f a_0) 9 = (v_30 : Int32).toInt := by rw [e_22]; rfl
                  exact ih_590 v_629 (by first | omega | (simp only [Int32.lt_iff_toInt_lt, Int32.le_iff_toInt_le, Int32.reduceToInt, ← Int32.toInt_inj, true_and, and_true, or_true, true_or, false_or, or_false, false_and, and_false, not_true_eq_false, not_false_eq_true] <;> omega)) 1 (by decide) (cv_587.yes (by omega) (by omega) (by omega) ((bat_at (t := f (q 4)) e_612 h_616 (k := i_583) (F := fld (f a_0) 9) (by rw [fe_632]; omega) (by rw [fe_632]; omega) (by omega)).trans (Int32.toInt_inj.mp (by omega)))) (by first | omega | (simp only [Int32.lt_iff_toInt_lt, Int32.le_iff_toInt_le, Int32.reduceToInt, ← Int32.toInt_inj, true_and, and_true, or_true, true_or, false_or, or_false, false_and, and_false, not_true_eq_false, not_false_eq_true] <;> omega))
        refine v_pick [0, 1, 2, 3] rfl ?_
        have fe_633 : fld (f a_0) 8 = (v_28 : Int32).toInt := by rw [e_22]; rfl
        have fe_634 : fld (f a_0) 9 = (v_30 : Int32).toInt := by rw [e_22]; rfl
        have fe_635 : fld (f a_0) 10 = (v_32 : Int32).toInt := by rw [e_22]; rfl
        have fe_636 : fld (f a_0) 12 = (v_35 : Int32).toInt := by rw [e_22]; rfl
        exact lp_588 42 0 (by decide) 0 (by decide) (IWI.s0 (by intro q9; rw [fe_633, fe_634, fe_635, fe_636] at q9; omega)) (by decide)
      · simp only [Int32.lt_iff_toInt_lt, Int32.le_iff_toInt_le, Int32.reduceToInt, ← Int32.toInt_inj] at h_445
        refine v_iconst hC dX12_is_31 (v := 1) (by decide) ?_
        refine v_goto hC dX12_is_32 (tgt := 36) (by decide) ?_
        refine v_istore_n hC dX12_is_36 (by decide) (lv' := [(2, .int 1), (0, .ref a_0), (1, .ref (eK E a_1))]) rfl ?_
        refine v_iconst hC dX12_is_37 (v := 0) (by decide) ?_
        refine v_istore_n hC dX12_is_38 (by decide) (lv' := [(3, .int 0), (2, .int 1), (0, .ref a_0), (1, .ref (eK E a_1))]) rfl ?_
        have lp_779 : ∀ (n_780 : Nat) (i_774 : Int32) (b_776 : (0 ≤ i_774.toInt ∧ i_774.toInt ≤ 40)) (i_775 : Int32) (b_777 : (0 ≤ i_775.toInt ∧ i_775.toInt ≤ 1)) (cv_778 : IWI (f a_0) (f (q 4)) a_1 i_775 i_774) (hm_782 : 40 - i_774.toInt < (n_780 : Int)), V z E 4 0 0 L f 39 [(3, .int i_774), (2, .int i_775), (0, .ref a_0), (1, .ref (eK E a_1))] [] := by
          intro n_780
          induction n_780 with
          | zero =>
            intro i_774 b_776 i_775 b_777 cv_778 hm_782
            have bs_783 := cv_778.bs
            have fe_784 : fld (f a_0) 8 = (v_28 : Int32).toInt := by rw [e_22]; rfl
            have fe_785 : fld (f a_0) 9 = (v_30 : Int32).toInt := by rw [e_22]; rfl
            have fe_786 : fld (f a_0) 10 = (v_32 : Int32).toInt := by rw [e_22]; rfl
            have fe_787 : fld (f a_0) 12 = (v_35 : Int32).toInt := by rw [e_22]; rfl
            rw [fe_784, fe_785, fe_786, fe_787] at bs_783
            exfalso; omega
          | succ n_780 ih_781 =>
            intro i_774 b_776 i_775 b_777 cv_778 hm_782
            have bs_783 := cv_778.bs
            have fe_784 : fld (f a_0) 8 = (v_28 : Int32).toInt := by rw [e_22]; rfl
            have fe_785 : fld (f a_0) 9 = (v_30 : Int32).toInt := by rw [e_22]; rfl
            have fe_786 : fld (f a_0) 10 = (v_32 : Int32).toInt := by rw [e_22]; rfl
            have fe_787 : fld (f a_0) 12 = (v_35 : Int32).toInt := by rw [e_22]; rfl
            rw [fe_784, fe_785, fe_786, fe_787] at bs_783
            refine v_iload_n hC dX12_is_39 rfl ?_
            refine v_aload_n hC dX12_is_40 rfl ?_
            refine v_viS hC (rest := [.int i_774]) ha_1 rfl mi_J0_length_8abf5 ms_J0_length_8abf5 (p_J0_length_8abf5 hW ha_1) mx_J0_length_8abf5 ml_X12_143 (by decide) rfl (cells1 := 0) (slots1 := 0) (by decide) (by decide) (Nat.le_of_ble_eq_true rfl) (Nat.le_of_ble_eq_true rfl) rfl (Nat.le_of_ble_eq_true rfl) dX12_is_41 (fun r_788 L_789 f_790 h_791 => ?_)
            obtain ⟨rfl, rfl, b_792, x_793⟩ := h_791
            try simp only [Int32.reduceToInt, Int64.reduceToInt] at x_793
            refine v_icmp_ge hC dX12_is_44 (tgt := 82) (by decide) (fun h_796 => ?_) (fun h_796 => ?_)
            · simp only [Int32.lt_iff_toInt_lt, Int32.le_iff_toInt_le, Int32.reduceToInt, ← Int32.toInt_inj] at h_796
              refine v_iload_n hC dX12_is_82 rfl ?_
              exact hR _ _ _ _ _ _ _ dX12_is_83 (nar01 (by first | omega | (simp only [Int32.lt_iff_toInt_lt, Int32.le_iff_toInt_le, Int32.reduceToInt, ← Int32.toInt_inj, true_and, and_true, or_true, true_or, false_or, or_false, false_and, and_false, not_true_eq_false, not_false_eq_true] <;> omega))) (Nat.le_of_ble_eq_true rfl) (Nat.le_of_ble_eq_true rfl) ⟨rfl, rfl, (cv_778.fin (by first | (left; omega) | (right; omega)))⟩
            · simp only [Int32.lt_iff_toInt_lt, Int32.le_iff_toInt_le, Int32.reduceToInt, ← Int32.toInt_inj] at h_796
              refine v_iload_n hC dX12_is_47 rfl ?_
              refine v_if_eq hC dX12_is_48 (tgt := 82) (by decide) (fun h_797 => ?_) (fun h_797 => ?_)
              · simp only [Int32.lt_iff_toInt_lt, Int32.le_iff_toInt_le, Int32.reduceToInt, ← Int32.toInt_inj] at h_797
                refine v_iload_n hC dX12_is_82 rfl ?_
                exact hR _ _ _ _ _ _ _ dX12_is_83 (nar01 (by first | omega | (simp only [Int32.lt_iff_toInt_lt, Int32.le_iff_toInt_le, Int32.reduceToInt, ← Int32.toInt_inj, true_and, and_true, or_true, true_or, false_or, or_false, false_and, and_false, not_true_eq_false, not_false_eq_true] <;> omega))) (Nat.le_of_ble_eq_true rfl) (Nat.le_of_ble_eq_true rfl) ⟨rfl, rfl, (cv_778.fin (by first | (left; omega) | (right; omega)))⟩
              · simp only [Int32.lt_iff_toInt_lt, Int32.le_iff_toInt_le, Int32.reduceToInt, ← Int32.toInt_inj] at h_797
                refine v_aload_n hC dX12_is_51 rfl ?_
                refine v_get hC fl_X12_24 m_1 e_22 rfl dX12_is_52 ?_
                refine v_aload_n hC dX12_is_55 rfl ?_
                refine v_get hC fl_X12_117 m_1 e_22 rfl dX12_is_56 ?_
                refine v_iload_n hC dX12_is_59 rfl ?_
                obtain ⟨v_798, h_799⟩ : ∃ v9 : Int32, v_30 + i_774 = v9 := ⟨_, rfl⟩
                refine v_iadd hC dX12_is_60 h_799 ?_
                have h_800 := add_v h_799 (by first | omega | (simp only [Int32.lt_iff_toInt_lt, Int32.le_iff_toInt_le, Int32.reduceToInt, ← Int32.toInt_inj, true_and, and_true, or_true, true_or, false_or, or_false, false_and, and_false, not_true_eq_false, not_false_eq_true] <;> omega)) (by first | omega | (simp only [Int32.lt_iff_toInt_lt, Int32.le_iff_toInt_le, Int32.reduceToInt, ← Int32.toInt_inj, true_and, and_true, or_true, true_or, false_or, or_false, false_and, and_false, not_true_eq_false, not_false_eq_true] <;> omega))
                obtain ⟨m_801, t_802⟩ := id k_6
                obtain ⟨g_804, e_803, fit_805⟩ := hW.at m_801 t_802
                obtain ⟨v_806, h_807⟩ : ∃ v9 : Int32, g_804 (v_798 : Int32).toNatClampNeg = v9 := ⟨_, rfl⟩
                refine v_bald hC m_801 e_803 (vp_in_iff.mpr (by first | omega | (simp only [Int32.lt_iff_toInt_lt, Int32.le_iff_toInt_le, Int32.reduceToInt, ← Int32.toInt_inj, true_and, and_true, or_true, true_or, false_or, or_false, false_and, and_false, not_true_eq_false, not_false_eq_true] <;> omega))) h_807 dX12_is_61 ?_
                refine v_aload_n hC dX12_is_62 rfl ?_
                refine v_iload_n hC dX12_is_63 rfl ?_
                refine v_viS hC (rest := [.int v_806]) ha_1 rfl mi_J0_charAt_5068e ms_J0_charAt_5068e (p_J0_charAt_5068e hW ha_1 (by first | omega | (simp only [Int32.lt_iff_toInt_lt, Int32.le_iff_toInt_le, Int32.reduceToInt, ← Int32.toInt_inj, true_and, and_true, or_true, true_or, false_or, or_false, false_and, and_false, not_true_eq_false, not_false_eq_true] <;> omega))) mx_J0_charAt_5068e ml_X12_148 (by decide) rfl (cells1 := 0) (slots1 := 0) (by decide) (by decide) (Nat.le_of_ble_eq_true rfl) (Nat.le_of_ble_eq_true rfl) rfl (Nat.le_of_ble_eq_true rfl) dX12_is_64 (fun r_808 L_809 f_810 h_811 => ?_)
                obtain ⟨rfl, rfl, rfl, nr_812⟩ := h_811
                refine v_icmp_ne hC dX12_is_67 (tgt := 74) (by decide) (fun h_815 => ?_) (fun h_815 => ?_)
                · simp only [Int32.lt_iff_toInt_lt, Int32.le_iff_toInt_le, Int32.reduceToInt, ← Int32.toInt_inj] at h_815
                  refine v_iconst hC dX12_is_74 (v := 0) (by decide) ?_
                  refine v_istore_n hC dX12_is_75 (by decide) (lv' := [(2, .int 0), (3, .int i_774), (0, .ref a_0), (1, .ref (eK E a_1))]) rfl ?_
                  obtain ⟨v_816, h_817⟩ : ∃ v9 : Int32, i_774 + Int32.ofInt 1 = v9 := ⟨_, rfl⟩
                  have h_818 := add_v (b := 1) h_817 (by first | omega | (simp only [Int32.lt_iff_toInt_lt, Int32.le_iff_toInt_le, Int32.reduceToInt, ← Int32.toInt_inj, true_and, and_true, or_true, true_or, false_or, or_false, false_and, and_false, not_true_eq_false, not_false_eq_true] <;> omega)) (by first | omega | (simp only [Int32.lt_iff_toInt_lt, Int32.le_iff_toInt_le, Int32.reduceToInt, ← Int32.toInt_inj, true_and, and_true, or_true, true_or, false_or, or_false, false_and, and_false, not_true_eq_false, not_false_eq_true] <;> omega))
                  simp only [Int32.reduceToInt] at h_818
                  refine v_iinc hC dX12_is_76 (k := 1) rfl (v := v_816) h_817 (by decide) (lv' := [(3, .int v_816), (2, .int 0), (0, .ref a_0), (1, .ref (eK E a_1))]) rfl ?_
                  refine v_goto hC dX12_is_79 (tgt := 39) (by decide) ?_
                  refine v_pick [0, 1, 2, 3] rfl ?_
                  have fe_819 : fld (f a_0) 9 = (v_30 : Int32).toInt := by rw [e_22]; rfl
                  exact ih_781 v_816 (by first | omega | (simp only [Int32.lt_iff_toInt_lt, Int32.le_iff_toInt_le, Int32.reduceToInt, ← Int32.toInt_inj, true_and, and_true, or_true, true_or, false_or, or_false, false_and, and_false, not_true_eq_false, not_false_eq_true] <;> omega)) 0 (by decide) (cv_778.no (by omega) (by omega) (by omega) (fun q9 => h_815 (congrArg Int32.toInt ((bat_at (t := f (q 4)) e_803 h_807 (k := i_774) (F := fld (f a_0) 9) (by rw [fe_819]; omega) (by rw [fe_819]; omega) (by omega)).symm.trans q9)))) (by first | omega | (simp only [Int32.lt_iff_toInt_lt, Int32.le_iff_toInt_le, Int32.reduceToInt, ← Int32.toInt_inj, true_and, and_true, or_true, true_or, false_or, or_false, false_and, and_false, not_true_eq_false, not_false_eq_true] <;> omega))
                · simp only [Int32.lt_iff_toInt_lt, Int32.le_iff_toInt_le, Int32.reduceToInt, ← Int32.toInt_inj] at h_815
                  refine v_iconst hC dX12_is_70 (v := 1) (by decide) ?_
                  refine v_goto hC dX12_is_71 (tgt := 75) (by decide) ?_
                  refine v_istore_n hC dX12_is_75 (by decide) (lv' := [(2, .int 1), (3, .int i_774), (0, .ref a_0), (1, .ref (eK E a_1))]) rfl ?_
                  obtain ⟨v_820, h_821⟩ : ∃ v9 : Int32, i_774 + Int32.ofInt 1 = v9 := ⟨_, rfl⟩
                  have h_822 := add_v (b := 1) h_821 (by first | omega | (simp only [Int32.lt_iff_toInt_lt, Int32.le_iff_toInt_le, Int32.reduceToInt, ← Int32.toInt_inj, true_and, and_true, or_true, true_or, false_or, or_false, false_and, and_false, not_true_eq_false, not_false_eq_true] <;> omega)) (by first | omega | (simp only [Int32.lt_iff_toInt_lt, Int32.le_iff_toInt_le, Int32.reduceToInt, ← Int32.toInt_inj, true_and, and_true, or_true, true_or, false_or, or_false, false_and, and_false, not_true_eq_false, not_false_eq_true] <;> omega))
                  simp only [Int32.reduceToInt] at h_822
                  refine v_iinc hC dX12_is_76 (k := 1) rfl (v := v_820) h_821 (by decide) (lv' := [(3, .int v_820), (2, .int 1), (0, .ref a_0), (1, .ref (eK E a_1))]) rfl ?_
                  refine v_goto hC dX12_is_79 (tgt := 39) (by decide) ?_
                  refine v_pick [0, 1, 2, 3] rfl ?_
                  have fe_823 : fld (f a_0) 9 = (v_30 : Int32).toInt := by rw [e_22]; rfl
                  exact ih_781 v_820 (by first | omega | (simp only [Int32.lt_iff_toInt_lt, Int32.le_iff_toInt_le, Int32.reduceToInt, ← Int32.toInt_inj, true_and, and_true, or_true, true_or, false_or, or_false, false_and, and_false, not_true_eq_false, not_false_eq_true] <;> omega)) 1 (by decide) (cv_778.yes (by omega) (by omega) (by omega) ((bat_at (t := f (q 4)) e_803 h_807 (k := i_774) (F := fld (f a_0) 9) (by rw [fe_823]; omega) (by rw [fe_823]; omega) (by omega)).trans (Int32.toInt_inj.mp (by omega)))) (by first | omega | (simp only [Int32.lt_iff_toInt_lt, Int32.le_iff_toInt_le, Int32.reduceToInt, ← Int32.toInt_inj, true_and, and_true, or_true, true_or, false_or, or_false, false_and, and_false, not_true_eq_false, not_false_eq_true] <;> omega))
        refine v_pick [0, 1, 2, 3] rfl ?_
        have fe_824 : fld (f a_0) 8 = (v_28 : Int32).toInt := by rw [e_22]; rfl
        have fe_825 : fld (f a_0) 9 = (v_30 : Int32).toInt := by rw [e_22]; rfl
        have fe_826 : fld (f a_0) 10 = (v_32 : Int32).toInt := by rw [e_22]; rfl
        have fe_827 : fld (f a_0) 12 = (v_35 : Int32).toInt := by rw [e_22]; rfl
        exact lp_779 42 0 (by decide) 1 (by decide) (IWI.s1 (by rw [fe_827]; omega) (by rw [fe_826]; omega) (by rw [fe_824, fe_825]; omega)) (by decide)
set_option maxRecDepth 100000 in
set_option maxHeartbeats 8000000 in
theorem p_X12_see {l : Launch} {E : Ez} {L : List Nat} {f : Nat → va_E} {T : Nat → va_E → Prop} {a_0 : Nat} {a_1 : Int32} {q : Nat → Nat} (hW : WT T L f) (k_0 : isM T L E a_0 q) (g_1 : (0 ≤ a_1.toInt ∧ a_1.toInt ≤ 600)) : CI l yX12_see cX12_see 2 .int 0 0 0 E [.ref a_0, .int a_1] L f (fun r L1 f1 => L = L1 ∧ f = f1 ∧ r = (sv (f a_0) (f (q 4)) a_1)) := by
  refine ci_of (by decide) (Nat.le_of_ble_eq_true rfl) (fun z hz hnm hC hR => ?_)
  have hC : Cx z E cX12_see RX12 2 0 0 0 := hC
  subst hz
  show V z E 2 0 0 L f 0 [(0, .ref a_0), (1, .int a_1)] []
  obtain ⟨m_1, t_2, nq_21, k_3, k_4, k_5, k_6, k_7, k_8, k_9, k_10, k_11, k_12, k_13, k_14, k_15, k_16, k_17, k_18, k_19, k_20⟩ := id k_0
  refine v_iload_n hC dX12_see_0 rfl ?_
  refine v_aload_n hC dX12_see_1 rfl ?_
  obtain ⟨v_23, v_24, v_26, v_28, v_30, v_32, v_34, v_35, v_36, v_37, v_39, e_22, b_25, b_27, b_29, b_31, b_33, b_38, b_40⟩ := hW.at m_1 t_2
  refine v_get hC fl_X12_105 m_1 e_22 rfl dX12_see_2 ?_
  refine v_icmp_ge hC dX12_see_5 (tgt := 21) (by decide) (fun h_41 => ?_) (fun h_41 => ?_)
  · simp only [Int32.lt_iff_toInt_lt, Int32.le_iff_toInt_le, Int32.reduceToInt, ← Int32.toInt_inj] at h_41
    refine v_iconst hC dX12_see_21 (v := (-1)) (by decide) ?_
    have fe_42 : fld (f a_0) 7 = (v_26 : Int32).toInt := by rw [e_22]; rfl
    exact hR _ _ _ _ _ _ _ dX12_see_22 rfl (Nat.le_of_ble_eq_true rfl) (Nat.le_of_ble_eq_true rfl) ⟨rfl, rfl, (sv_out (by rw [fe_42]; omega))⟩
  · simp only [Int32.lt_iff_toInt_lt, Int32.le_iff_toInt_le, Int32.reduceToInt, ← Int32.toInt_inj] at h_41
    refine v_aload_n hC dX12_see_8 rfl ?_
    refine v_get hC fl_X12_24 m_1 e_22 rfl dX12_see_9 ?_
    refine v_iload_n hC dX12_see_12 rfl ?_
    obtain ⟨m_43, t_44⟩ := id k_6
    obtain ⟨g_46, e_45, fit_47⟩ := hW.at m_43 t_44
    obtain ⟨v_48, h_49⟩ : ∃ v9 : Int32, g_46 (a_1 : Int32).toNatClampNeg = v9 := ⟨_, rfl⟩
    refine v_bald hC m_43 e_45 (vp_in_iff.mpr (by first | omega | (simp only [Int32.lt_iff_toInt_lt, Int32.le_iff_toInt_le, Int32.reduceToInt, ← Int32.toInt_inj, true_and, and_true, or_true, true_or, false_or, or_false, false_and, and_false, not_true_eq_false, not_false_eq_true] <;> omega))) h_49 dX12_see_13 ?_
    refine v_sipush hC dX12_see_14 (v := 255) (by decide) ?_
    obtain ⟨v_50, h_51⟩ : ∃ v9 : Int32, v_48 &&& 255 = v9 := ⟨_, rfl⟩
    refine v_iand hC dX12_see_17 h_51 ?_
    have h_52 := and_v h_51 (by decide)
    try simp only [Int32.reduceToInt] at h_52
    refine v_goto hC dX12_see_18 (tgt := 22) (by decide) ?_
    have fe_53 : fld (f a_0) 7 = (v_26 : Int32).toInt := by rw [e_22]; rfl
    exact hR _ _ _ _ _ _ _ dX12_see_22 rfl (Nat.le_of_ble_eq_true rfl) (Nat.le_of_ble_eq_true rfl) ⟨rfl, rfl, (sv_in (by rw [fe_53]; omega) e_45 h_49 h_51)⟩
set_option maxRecDepth 100000 in
set_option maxHeartbeats 8000000 in
theorem p_X12_in {l : Launch} {E : Ez} {L : List Nat} {f : Nat → va_E} {T : Nat → va_E → Prop} {a_0 : Int64} {a_1 : Int64} {a_2 : Int64} (hW : WT T L f) : CI l yX12_in cX12_in 6 .boolean 0 0 0 E [.long a_0, .long a_1, .long a_2] L f (fun r L1 f1 => L = L1 ∧ f = f1 ∧ (0 ≤ r.toInt ∧ r.toInt ≤ 1) ∧ ((r.toInt = 1 ∧ a_1.toInt ≤ a_0.toInt ∧ a_0.toInt ≤ a_2.toInt) ∨ (r.toInt = 0 ∧ (a_0.toInt < a_1.toInt ∨ a_2.toInt < a_0.toInt)))) := by
  refine ci_of (by decide) (Nat.le_of_ble_eq_true rfl) (fun z hz hnm hC hR => ?_)
  have hC : Cx z E cX12_in RX12 6 0 0 0 := hC
  subst hz
  show V z E 6 0 0 L f 0 [(0, .long a_0), (2, .long a_1), (4, .long a_2)] []
  refine v_lload_n hC dX12_in_0 rfl ?_
  refine v_lload_n hC dX12_in_1 rfl ?_
  obtain ⟨v_1, h_2⟩ : ∃ v9 : Int32, lg_cmp (a_0 : Int64) a_1 = v9 := ⟨_, rfl⟩
  refine v_lcmp hC dX12_in_2 h_2 ?_
  refine v_if_lt hC dX12_in_3 (tgt := 17) (by decide) (fun h_3 => ?_) (fun h_3 => ?_)
  · rw [← h_2] at h_3
    have h_4 := (lgc_lt.mp h_3)
    simp only [Int64.lt_iff_toInt_lt, Int64.le_iff_toInt_le] at h_4
    refine v_iconst hC dX12_in_17 (v := 0) (by decide) ?_
    exact hR _ _ _ _ _ _ _ dX12_in_18 rfl (Nat.le_of_ble_eq_true rfl) (Nat.le_of_ble_eq_true rfl) ⟨rfl, rfl, (by decide), (by first | omega | (simp only [Int32.lt_iff_toInt_lt, Int32.le_iff_toInt_le, Int32.reduceToInt, ← Int32.toInt_inj, true_and, and_true, or_true, true_or, false_or, or_false, false_and, and_false, not_true_eq_false, not_false_eq_true] <;> omega))⟩
  · rw [← h_2] at h_3
    have h_5 := (mt lgc_lt.mpr h_3)
    simp only [Int64.lt_iff_toInt_lt, Int64.le_iff_toInt_le] at h_5
    refine v_lload_n hC dX12_in_6 rfl ?_
    refine v_lload hC dX12_in_7 rfl ?_
    obtain ⟨v_6, h_7⟩ : ∃ v9 : Int32, lg_cmp (a_0 : Int64) a_2 = v9 := ⟨_, rfl⟩
    refine v_lcmp hC dX12_in_9 h_7 ?_
    refine v_if_gt hC dX12_in_10 (tgt := 17) (by decide) (fun h_8 => ?_) (fun h_8 => ?_)
    · rw [← h_7] at h_8
      have h_9 := (lgc_gt.mp h_8)
      simp only [Int64.lt_iff_toInt_lt, Int64.le_iff_toInt_le] at h_9
      refine v_iconst hC dX12_in_17 (v := 0) (by decide) ?_
      exact hR _ _ _ _ _ _ _ dX12_in_18 rfl (Nat.le_of_ble_eq_true rfl) (Nat.le_of_ble_eq_true rfl) ⟨rfl, rfl, (by decide), (by first | omega | (simp only [Int32.lt_iff_toInt_lt, Int32.le_iff_toInt_le, Int32.reduceToInt, ← Int32.toInt_inj, true_and, and_true, or_true, true_or, false_or, or_false, false_and, and_false, not_true_eq_false, not_false_eq_true] <;> omega))⟩
    · rw [← h_7] at h_8
      have h_10 := (mt lgc_gt.mpr h_8)
      simp only [Int64.lt_iff_toInt_lt, Int64.le_iff_toInt_le] at h_10
      refine v_iconst hC dX12_in_13 (v := 1) (by decide) ?_
      refine v_goto hC dX12_in_14 (tgt := 18) (by decide) ?_
      exact hR _ _ _ _ _ _ _ dX12_in_18 rfl (Nat.le_of_ble_eq_true rfl) (Nat.le_of_ble_eq_true rfl) ⟨rfl, rfl, (by decide), (by first | omega | (simp only [Int32.lt_iff_toInt_lt, Int32.le_iff_toInt_le, Int32.reduceToInt, ← Int32.toInt_inj, true_and, and_true, or_true, true_or, false_or, or_false, false_and, and_false, not_true_eq_false, not_false_eq_true] <;> omega))⟩
set_option maxRecDepth 100000 in
set_option maxHeartbeats 8000000 in
theorem p_X12_advance {l : Launch} {E : Ez} {L : List Nat} {f : Nat → va_E} {T : Nat → va_E → Prop} {a_0 : Nat} {q : Nat → Nat} (hW : WT T L f) (k_0 : isM T L E a_0 q) : CV l yX12_advance cX12_advance 2 1 0 0 E [.ref a_0] L f (fun L1 f1 => L = L1 ∧ WT T L f1 ∧ FR [12] f f1 ∧ (fld (f a_0) 8 ≤ fld (f1 a_0) 9 ∧ fld (f1 a_0) 9 ≤ fld (f1 a_0) 8) ∧ (fld (f1 a_0) 10 = 0 ∨ fld (f1 a_0) 9 < fld (f1 a_0) 8) ∧ fld (f1 a_0) 12 = fld (f a_0) 12 ∧ fld (f1 a_0) 20 = fld (f a_0) 20) := by
  refine cv_of (by decide) (Nat.le_of_ble_eq_true rfl) (fun z hz hnm hC hR => ?_)
  have hC : Cx z E cX12_advance RX12 2 1 0 0 := hC
  subst hz
  show V z E 2 0 0 L f 0 [(0, .ref a_0)] []
  obtain ⟨m_1, t_2, nq_21, k_3, k_4, k_5, k_6, k_7, k_8, k_9, k_10, k_11, k_12, k_13, k_14, k_15, k_16, k_17, k_18, k_19, k_20⟩ := id k_0
  obtain ⟨v_23, v_24, v_26, v_28, v_30, v_32, v_34, v_35, v_36, v_37, v_39, e_22, b_25, b_27, b_29, b_31, b_33, b_38, b_40⟩ := hW.at m_1 t_2
  have mz_41 : fld (f a_0) 8 = v_28.toInt := by rw [e_22]; rfl
  have mz_42 : fld (f a_0) 12 = v_35.toInt := by rw [e_22]; rfl
  have mz_43 : fld (f a_0) 20 = v_39.toInt := by rw [e_22]; rfl
  have lp_2816 : ∀ (n_2817 : Nat) (f_2810 : Nat → va_E) (hW_2811 : WT T L f_2810) (hF_2812 : FR [12] f f_2810)  (nv_2813 : v_28.toInt ≤ fld (f_2810 a_0) 8) (nv_2814 : fld (f_2810 a_0) 12 = v_35.toInt) (nv_2815 : fld (f_2810 a_0) 20 = v_39.toInt) (hm_2819 : 600 - fld (f_2810 a_0) 8 < (n_2817 : Int)), V z E 2 0 0 L f_2810 0 [(0, .ref a_0)] [] := by
    intro n_2817
    induction n_2817 with
    | zero =>
      intro f_2810 hW_2811 hF_2812 nv_2813 nv_2814 nv_2815 hm_2819
      obtain ⟨v_2821, v_2822, v_2824, v_2826, v_2828, v_2830, v_2832, v_2833, v_2834, v_2835, v_2837, e_2820, b_2823, b_2825, b_2827, b_2829, b_2831, b_2836, b_2838⟩ := hW_2811.at m_1 t_2
      have fe_2839 : fld (f_2810 a_0) 8 = (v_2826 : Int32).toInt := by rw [e_2820]; rfl
      rw [fe_2839] at nv_2813
      have fe_2840 : fld (f_2810 a_0) 12 = (v_2833 : Int32).toInt := by rw [e_2820]; rfl
      rw [fe_2840] at nv_2814
      have fe_2841 : fld (f_2810 a_0) 20 = (v_2837 : Int32).toInt := by rw [e_2820]; rfl
      rw [fe_2841] at nv_2815
      have h_2842 : fld (f_2810 a_0) 8 = (v_2826 : Int32).toInt := by rw [e_2820]; rfl
      rw [h_2842] at hm_2819
      exfalso; omega
    | succ n_2817 ih_2818 =>
      intro f_2810 hW_2811 hF_2812 nv_2813 nv_2814 nv_2815 hm_2819
      obtain ⟨v_2821, v_2822, v_2824, v_2826, v_2828, v_2830, v_2832, v_2833, v_2834, v_2835, v_2837, e_2820, b_2823, b_2825, b_2827, b_2829, b_2831, b_2836, b_2838⟩ := hW_2811.at m_1 t_2
      have fe_2839 : fld (f_2810 a_0) 8 = (v_2826 : Int32).toInt := by rw [e_2820]; rfl
      rw [fe_2839] at nv_2813
      have fe_2840 : fld (f_2810 a_0) 12 = (v_2833 : Int32).toInt := by rw [e_2820]; rfl
      rw [fe_2840] at nv_2814
      have fe_2841 : fld (f_2810 a_0) 20 = (v_2837 : Int32).toInt := by rw [e_2820]; rfl
      rw [fe_2841] at nv_2815
      have h_2842 : fld (f_2810 a_0) 8 = (v_2826 : Int32).toInt := by rw [e_2820]; rfl
      rw [h_2842] at hm_2819
      refine v_aload_n hC dX12_advance_0 rfl ?_
      refine v_aload_n hC dX12_advance_1 rfl ?_
      refine v_get hC fl_X12_108 m_1 e_2820 rfl dX12_advance_2 ?_
      refine v_vi hC (rest := []) m_1 e_2820 rfl mi_X12_see ms_X12_see (p_X12_see hW_2811 k_0 (by first | omega | (simp only [Int32.lt_iff_toInt_lt, Int32.le_iff_toInt_le, Int32.reduceToInt, ← Int32.toInt_inj, true_and, and_true, or_true, true_or, false_or, or_false, false_and, and_false, not_true_eq_false, not_false_eq_true] <;> omega))) mx_X12_see ml_X12_114 (by decide) rfl (cells1 := 0) (slots1 := 0) (by decide) (by decide) (Nat.le_of_ble_eq_true rfl) (Nat.le_of_ble_eq_true rfl) rfl (Nat.le_of_ble_eq_true rfl) dX12_advance_5 (fun r_2843 L_2844 f_2845 h_2846 => ?_)
      obtain ⟨rfl, rfl, rfl⟩ := h_2846
      have sb_2849 := sv_b (f_2810 a_0) (f_2810 (q 4)) v_2826
      have fe_2850 : fld (f_2810 a_0) 7 = (v_2824 : Int32).toInt := by rw [e_2820]; rfl
      rw [fe_2850] at sb_2849
      refine v_bipush hC dX12_advance_8 (v := 32) (by decide) ?_
      refine v_icmp_eq hC dX12_advance_10 (tgt := 26) (by decide) (fun h_2851 => ?_) (fun h_2851 => ?_)
      · simp only [Int32.lt_iff_toInt_lt, Int32.le_iff_toInt_le, Int32.reduceToInt, ← Int32.toInt_inj] at h_2851
        refine v_aload_n hC dX12_advance_26 rfl ?_
        refine v_dup hC dX12_advance_27 rfl ?_
        refine v_get hC fl_X12_108 m_1 e_2820 rfl dX12_advance_28 ?_
        refine v_iconst hC dX12_advance_31 (v := 1) (by decide) ?_
        obtain ⟨v_2864, h_2865⟩ : ∃ v9 : Int32, v_2826 + 1 = v9 := ⟨_, rfl⟩
        refine v_iadd hC dX12_advance_32 h_2865 ?_
        have h_2866 := add_v h_2865 (by first | omega | (simp only [Int32.lt_iff_toInt_lt, Int32.le_iff_toInt_le, Int32.reduceToInt, ← Int32.toInt_inj, true_and, and_true, or_true, true_or, false_or, or_false, false_and, and_false, not_true_eq_false, not_false_eq_true] <;> omega)) (by first | omega | (simp only [Int32.lt_iff_toInt_lt, Int32.le_iff_toInt_le, Int32.reduceToInt, ← Int32.toInt_inj, true_and, and_true, or_true, true_or, false_or, or_false, false_and, and_false, not_true_eq_false, not_false_eq_true] <;> omega))
        try simp only [Int32.reduceToInt] at h_2866
        refine v_put hC fl_X12_108 m_1 e_2820 rfl rfl (Nat.le_of_ble_eq_true rfl) (fs' := [.int v_2821, .ref (q 1), .ref (q 2), .ref (q 3), .ref (q 4), .int v_2822, .ref (q 6), .int v_2824, .int v_2864, .int v_2828, .int v_2830, .int v_2832, .int v_2833, .int v_2834, .ref (q 14), .ref (q 15), .ref (q 16), .int v_2835, .ref (q 18), .ref (q 19), .int v_2837, .ref (q 21), .ref (q 22), .ref (q 23), .ref (q 24), .ref (q 25), .ref (q 26), .ref (q 27), .ref (q 28)]) rfl dX12_advance_33 (fun f_2867 hf_2868 hk_2869 => ?_)
        have hW_2870 := hW_2811.up hf_2868 hk_2869 t_2 ⟨v_2821, v_2822, v_2824, v_2864, v_2828, v_2830, v_2832, v_2833, v_2834, v_2835, v_2837, rfl, (by first | omega | (simp only [Int32.lt_iff_toInt_lt, Int32.le_iff_toInt_le, Int32.reduceToInt, ← Int32.toInt_inj, true_and, and_true, or_true, true_or, false_or, or_false, false_and, and_false, not_true_eq_false, not_false_eq_true] <;> omega)), (by first | omega | (simp only [Int32.lt_iff_toInt_lt, Int32.le_iff_toInt_le, Int32.reduceToInt, ← Int32.toInt_inj, true_and, and_true, or_true, true_or, false_or, or_false, false_and, and_false, not_true_eq_false, not_false_eq_true] <;> omega)), (by first | omega | (simp only [Int32.lt_iff_toInt_lt, Int32.le_iff_toInt_le, Int32.reduceToInt, ← Int32.toInt_inj, true_and, and_true, or_true, true_or, false_or, or_false, false_and, and_false, not_true_eq_false, not_false_eq_true] <;> omega)), (by first | omega | (simp only [Int32.lt_iff_toInt_lt, Int32.le_iff_toInt_le, Int32.reduceToInt, ← Int32.toInt_inj, true_and, and_true, or_true, true_or, false_or, or_false, false_and, and_false, not_true_eq_false, not_false_eq_true] <;> omega)), (by first | omega | (simp only [Int32.lt_iff_toInt_lt, Int32.le_iff_toInt_le, Int32.reduceToInt, ← Int32.toInt_inj, true_and, and_true, or_true, true_or, false_or, or_false, false_and, and_false, not_true_eq_false, not_false_eq_true] <;> omega)), (by first | omega | (simp only [Int32.lt_iff_toInt_lt, Int32.le_iff_toInt_le, Int32.reduceToInt, ← Int32.toInt_inj, true_and, and_true, or_true, true_or, false_or, or_false, false_and, and_false, not_true_eq_false, not_false_eq_true] <;> omega)), (by first | omega | (simp only [Int32.lt_iff_toInt_lt, Int32.le_iff_toInt_le, Int32.reduceToInt, ← Int32.toInt_inj, true_and, and_true, or_true, true_or, false_or, or_false, false_and, and_false, not_true_eq_false, not_false_eq_true] <;> omega))⟩
        have fr_2871 := FR.w hk_2869 e_2820 (k := 12) rfl
        refine v_goto hC dX12_advance_36 (tgt := 0) (by decide) ?_
        refine v_pick [0] rfl ?_
        have fe_2872 : fld (f_2867 a_0) 8 = (v_2864 : Int32).toInt := by rw [hf_2868]; rfl
        have fe_2873 : fld (f_2867 a_0) 12 = (v_2833 : Int32).toInt := by rw [hf_2868]; rfl
        have fe_2874 : fld (f_2867 a_0) 20 = (v_2837 : Int32).toInt := by rw [hf_2868]; rfl
        have h_2875 : fld (f_2867 a_0) 8 = (v_2864 : Int32).toInt := by rw [hf_2868]; rfl
        exact ih_2818 f_2867 hW_2870 ((hF_2812.tr fr_2871).mono rfl) (by rw [fe_2872] <;> first | omega | (simp only [Int32.lt_iff_toInt_lt, Int32.le_iff_toInt_le, Int32.reduceToInt, ← Int32.toInt_inj, true_and, and_true, or_true, true_or, false_or, or_false, false_and, and_false, not_true_eq_false, not_false_eq_true] <;> omega)) (by rw [fe_2873] <;> first | omega | (simp only [Int32.lt_iff_toInt_lt, Int32.le_iff_toInt_le, Int32.reduceToInt, ← Int32.toInt_inj, true_and, and_true, or_true, true_or, false_or, or_false, false_and, and_false, not_true_eq_false, not_false_eq_true] <;> omega)) (by rw [fe_2874] <;> first | omega | (simp only [Int32.lt_iff_toInt_lt, Int32.le_iff_toInt_le, Int32.reduceToInt, ← Int32.toInt_inj, true_and, and_true, or_true, true_or, false_or, or_false, false_and, and_false, not_true_eq_false, not_false_eq_true] <;> omega)) (by rw [h_2875]; omega)
      · simp only [Int32.lt_iff_toInt_lt, Int32.le_iff_toInt_le, Int32.reduceToInt, ← Int32.toInt_inj] at h_2851
        refine v_aload_n hC dX12_advance_13 rfl ?_
        refine v_aload_n hC dX12_advance_14 rfl ?_
        refine v_get hC fl_X12_108 m_1 e_2820 rfl dX12_advance_15 ?_
        refine v_vi hC (rest := []) m_1 e_2820 rfl mi_X12_see ms_X12_see (p_X12_see hW_2811 k_0 (by first | omega | (simp only [Int32.lt_iff_toInt_lt, Int32.le_iff_toInt_le, Int32.reduceToInt, ← Int32.toInt_inj, true_and, and_true, or_true, true_or, false_or, or_false, false_and, and_false, not_true_eq_false, not_false_eq_true] <;> omega))) mx_X12_see ml_X12_114 (by decide) rfl (cells1 := 0) (slots1 := 0) (by decide) (by decide) (Nat.le_of_ble_eq_true rfl) (Nat.le_of_ble_eq_true rfl) rfl (Nat.le_of_ble_eq_true rfl) dX12_advance_18 (fun r_2876 L_2877 f_2878 h_2879 => ?_)
        obtain ⟨rfl, rfl, rfl⟩ := h_2879
        have sb_2882 := sv_b (f_2810 a_0) (f_2810 (q 4)) v_2826
        have fe_2883 : fld (f_2810 a_0) 7 = (v_2824 : Int32).toInt := by rw [e_2820]; rfl
        rw [fe_2883] at sb_2882
        refine v_bipush hC dX12_advance_21 (v := 10) (by decide) ?_
        refine v_icmp_ne hC dX12_advance_23 (tgt := 39) (by decide) (fun h_2884 => ?_) (fun h_2884 => ?_)
        · simp only [Int32.lt_iff_toInt_lt, Int32.le_iff_toInt_le, Int32.reduceToInt, ← Int32.toInt_inj] at h_2884
          refine v_aload_n hC dX12_advance_39 rfl ?_
          refine v_aload_n hC dX12_advance_40 rfl ?_
          refine v_get hC fl_X12_108 m_1 e_2820 rfl dX12_advance_41 ?_
          refine v_put hC fl_X12_117 m_1 e_2820 rfl rfl (Nat.le_of_ble_eq_true rfl) (fs' := [.int v_2821, .ref (q 1), .ref (q 2), .ref (q 3), .ref (q 4), .int v_2822, .ref (q 6), .int v_2824, .int v_2826, .int v_2826, .int v_2830, .int v_2832, .int v_2833, .int v_2834, .ref (q 14), .ref (q 15), .ref (q 16), .int v_2835, .ref (q 18), .ref (q 19), .int v_2837, .ref (q 21), .ref (q 22), .ref (q 23), .ref (q 24), .ref (q 25), .ref (q 26), .ref (q 27), .ref (q 28)]) rfl dX12_advance_44 (fun f_2897 hf_2898 hk_2899 => ?_)
          have hW_2900 := hW_2811.up hf_2898 hk_2899 t_2 ⟨v_2821, v_2822, v_2824, v_2826, v_2826, v_2830, v_2832, v_2833, v_2834, v_2835, v_2837, rfl, (by first | omega | (simp only [Int32.lt_iff_toInt_lt, Int32.le_iff_toInt_le, Int32.reduceToInt, ← Int32.toInt_inj, true_and, and_true, or_true, true_or, false_or, or_false, false_and, and_false, not_true_eq_false, not_false_eq_true] <;> omega)), (by first | omega | (simp only [Int32.lt_iff_toInt_lt, Int32.le_iff_toInt_le, Int32.reduceToInt, ← Int32.toInt_inj, true_and, and_true, or_true, true_or, false_or, or_false, false_and, and_false, not_true_eq_false, not_false_eq_true] <;> omega)), (by first | omega | (simp only [Int32.lt_iff_toInt_lt, Int32.le_iff_toInt_le, Int32.reduceToInt, ← Int32.toInt_inj, true_and, and_true, or_true, true_or, false_or, or_false, false_and, and_false, not_true_eq_false, not_false_eq_true] <;> omega)), (by first | omega | (simp only [Int32.lt_iff_toInt_lt, Int32.le_iff_toInt_le, Int32.reduceToInt, ← Int32.toInt_inj, true_and, and_true, or_true, true_or, false_or, or_false, false_and, and_false, not_true_eq_false, not_false_eq_true] <;> omega)), (by first | omega | (simp only [Int32.lt_iff_toInt_lt, Int32.le_iff_toInt_le, Int32.reduceToInt, ← Int32.toInt_inj, true_and, and_true, or_true, true_or, false_or, or_false, false_and, and_false, not_true_eq_false, not_false_eq_true] <;> omega)), (by first | omega | (simp only [Int32.lt_iff_toInt_lt, Int32.le_iff_toInt_le, Int32.reduceToInt, ← Int32.toInt_inj, true_and, and_true, or_true, true_or, false_or, or_false, false_and, and_false, not_true_eq_false, not_false_eq_true] <;> omega)), (by first | omega | (simp only [Int32.lt_iff_toInt_lt, Int32.le_iff_toInt_le, Int32.reduceToInt, ← Int32.toInt_inj, true_and, and_true, or_true, true_or, false_or, or_false, false_and, and_false, not_true_eq_false, not_false_eq_true] <;> omega))⟩
          have fr_2901 := FR.w hk_2899 e_2820 (k := 12) rfl
          refine v_aload_n hC dX12_advance_47 rfl ?_
          refine v_aload_n hC dX12_advance_48 rfl ?_
          refine v_get hC fl_X12_108 m_1 hf_2898 rfl dX12_advance_49 ?_
          refine v_vi hC (rest := []) m_1 hf_2898 rfl mi_X12_see ms_X12_see (p_X12_see hW_2900 k_0 (by first | omega | (simp only [Int32.lt_iff_toInt_lt, Int32.le_iff_toInt_le, Int32.reduceToInt, ← Int32.toInt_inj, true_and, and_true, or_true, true_or, false_or, or_false, false_and, and_false, not_true_eq_false, not_false_eq_true] <;> omega))) mx_X12_see ml_X12_114 (by decide) rfl (cells1 := 0) (slots1 := 0) (by decide) (by decide) (Nat.le_of_ble_eq_true rfl) (Nat.le_of_ble_eq_true rfl) rfl (Nat.le_of_ble_eq_true rfl) dX12_advance_52 (fun r_2902 L_2903 f_2904 h_2905 => ?_)
          obtain ⟨rfl, rfl, rfl⟩ := h_2905
          have sb_2908 := sv_b (f_2897 a_0) (f_2897 (q 4)) v_2826
          have fe_2909 : fld (f_2897 a_0) 7 = (v_2824 : Int32).toInt := by rw [hf_2898]; rfl
          rw [fe_2909] at sb_2908
          obtain ⟨m_2910, t_2911⟩ := id k_6
          obtain ⟨g_2913, e_2912, fit_2914⟩ := hW_2900.at m_2910 t_2911
          have fe_2915 : fld (f_2897 a_0) 7 = (v_2824 : Int32).toInt := by rw [hf_2898]; rfl
          refine v_istore_n hC dX12_advance_55 (by decide) (lv' := [(1, .int (sv (f_2897 a_0) (f_2897 (q 4)) v_2826)), (0, .ref a_0)]) rfl ?_
          refine v_iload_n hC dX12_advance_56 rfl ?_
          refine v_iconst hC dX12_advance_57 (v := (-1)) (by decide) ?_
          refine v_icmp_ne hC dX12_advance_58 (tgt := 69) (by decide) (fun h_2916 => ?_) (fun h_2916 => ?_)
          · simp only [Int32.lt_iff_toInt_lt, Int32.le_iff_toInt_le, Int32.reduceToInt, ← Int32.toInt_inj] at h_2916
            refine v_iload_n hC dX12_advance_69 rfl ?_
            obtain ⟨v_2917, h_2918⟩ : ∃ v9 : Int64, (sv (f_2897 a_0) (f_2897 (q 4)) v_2826).toInt64 = v9 := ⟨_, rfl⟩
            refine v_i2l hC dX12_advance_70 h_2918 ?_
            have h_2919 : v_2917.toInt = (sv (f_2897 a_0) (f_2897 (q 4)) v_2826).toInt := by rw [← h_2918]; exact Int32.toInt_toInt64 _
            refine v_ldc2 hC kl_X12_123 dX12_advance_71 ?_
            refine v_ldc2 hC kl_X12_125 dX12_advance_74 ?_
            refine v_si hC (rest := []) mt_X12_in (p_X12_in hW_2900) mx_X12_in ml_X12_79 (by decide) rfl (cells1 := 0) (slots1 := 0) (by decide) (by decide) (Nat.le_of_ble_eq_true rfl) (Nat.le_of_ble_eq_true rfl) rfl (Nat.le_of_ble_eq_true rfl) dX12_advance_77 (fun r_2920 L_2921 f_2922 h_2923 => ?_)
            obtain ⟨rfl, rfl, b_2924, x_2925⟩ := h_2923
            try simp only [Int32.reduceToInt, Int64.reduceToInt] at x_2925
            refine v_if_eq hC dX12_advance_80 (tgt := 125) (by decide) (fun h_2928 => ?_) (fun h_2928 => ?_)
            · simp only [Int32.lt_iff_toInt_lt, Int32.le_iff_toInt_le, Int32.reduceToInt, ← Int32.toInt_inj] at h_2928
              refine v_iload_n hC dX12_advance_125 rfl ?_
              obtain ⟨v_2929, h_2930⟩ : ∃ v9 : Int64, (sv (f_2897 a_0) (f_2897 (q 4)) v_2826).toInt64 = v9 := ⟨_, rfl⟩
              refine v_i2l hC dX12_advance_126 h_2930 ?_
              have h_2931 : v_2929.toInt = (sv (f_2897 a_0) (f_2897 (q 4)) v_2826).toInt := by rw [← h_2930]; exact Int32.toInt_toInt64 _
              refine v_ldc2 hC kl_X12_127 dX12_advance_127 ?_
              refine v_ldc2 hC kl_X12_129 dX12_advance_130 ?_
              refine v_si hC (rest := []) mt_X12_in (p_X12_in hW_2900) mx_X12_in ml_X12_79 (by decide) rfl (cells1 := 0) (slots1 := 0) (by decide) (by decide) (Nat.le_of_ble_eq_true rfl) (Nat.le_of_ble_eq_true rfl) rfl (Nat.le_of_ble_eq_true rfl) dX12_advance_133 (fun r_2932 L_2933 f_2934 h_2935 => ?_)
              obtain ⟨rfl, rfl, b_2936, x_2937⟩ := h_2935
              try simp only [Int32.reduceToInt, Int64.reduceToInt] at x_2937
              refine v_if_eq hC dX12_advance_136 (tgt := 215) (by decide) (fun h_2940 => ?_) (fun h_2940 => ?_)
              · simp only [Int32.lt_iff_toInt_lt, Int32.le_iff_toInt_le, Int32.reduceToInt, ← Int32.toInt_inj] at h_2940
                refine v_aload_n hC dX12_advance_215 rfl ?_
                refine v_iload_n hC dX12_advance_216 rfl ?_
                refine v_bipush hC dX12_advance_217 (v := 59) (by decide) ?_
                refine v_icmp_ne hC dX12_advance_219 (tgt := 226) (by decide) (fun h_2941 => ?_) (fun h_2941 => ?_)
                · simp only [Int32.lt_iff_toInt_lt, Int32.le_iff_toInt_le, Int32.reduceToInt, ← Int32.toInt_inj] at h_2941
                  refine v_iconst hC dX12_advance_226 (v := 4) (by decide) ?_
                  refine v_put hC fl_X12_120 m_1 hf_2898 rfl rfl (Nat.le_of_ble_eq_true rfl) (fs' := [.int v_2821, .ref (q 1), .ref (q 2), .ref (q 3), .ref (q 4), .int v_2822, .ref (q 6), .int v_2824, .int v_2826, .int v_2826, .int 4, .int v_2832, .int v_2833, .int v_2834, .ref (q 14), .ref (q 15), .ref (q 16), .int v_2835, .ref (q 18), .ref (q 19), .int v_2837, .ref (q 21), .ref (q 22), .ref (q 23), .ref (q 24), .ref (q 25), .ref (q 26), .ref (q 27), .ref (q 28)]) rfl dX12_advance_227 (fun f_2942 hf_2943 hk_2944 => ?_)
                  have hW_2945 := hW_2900.up hf_2943 hk_2944 t_2 ⟨v_2821, v_2822, v_2824, v_2826, v_2826, 4, v_2832, v_2833, v_2834, v_2835, v_2837, rfl, (by first | omega | (simp only [Int32.lt_iff_toInt_lt, Int32.le_iff_toInt_le, Int32.reduceToInt, ← Int32.toInt_inj, true_and, and_true, or_true, true_or, false_or, or_false, false_and, and_false, not_true_eq_false, not_false_eq_true] <;> omega)), (by first | omega | (simp only [Int32.lt_iff_toInt_lt, Int32.le_iff_toInt_le, Int32.reduceToInt, ← Int32.toInt_inj, true_and, and_true, or_true, true_or, false_or, or_false, false_and, and_false, not_true_eq_false, not_false_eq_true] <;> omega)), (by first | omega | (simp only [Int32.lt_iff_toInt_lt, Int32.le_iff_toInt_le, Int32.reduceToInt, ← Int32.toInt_inj, true_and, and_true, or_true, true_or, false_or, or_false, false_and, and_false, not_true_eq_false, not_false_eq_true] <;> omega)), (by first | omega | (simp only [Int32.lt_iff_toInt_lt, Int32.le_iff_toInt_le, Int32.reduceToInt, ← Int32.toInt_inj, true_and, and_true, or_true, true_or, false_or, or_false, false_and, and_false, not_true_eq_false, not_false_eq_true] <;> omega)), (by decide), (by first | omega | (simp only [Int32.lt_iff_toInt_lt, Int32.le_iff_toInt_le, Int32.reduceToInt, ← Int32.toInt_inj, true_and, and_true, or_true, true_or, false_or, or_false, false_and, and_false, not_true_eq_false, not_false_eq_true] <;> omega)), (by first | omega | (simp only [Int32.lt_iff_toInt_lt, Int32.le_iff_toInt_le, Int32.reduceToInt, ← Int32.toInt_inj, true_and, and_true, or_true, true_or, false_or, or_false, false_and, and_false, not_true_eq_false, not_false_eq_true] <;> omega))⟩
                  have hf_2946 := (hk_2944 (q 4) (ne_kd e_2912 hf_2898 rfl)).trans e_2912
                  have fr_2947 := FR.w hk_2944 hf_2898 (k := 12) rfl
                  refine v_aload_n hC dX12_advance_230 rfl ?_
                  refine v_dup hC dX12_advance_231 rfl ?_
                  refine v_get hC fl_X12_108 m_1 hf_2943 rfl dX12_advance_232 ?_
                  refine v_iconst hC dX12_advance_235 (v := 1) (by decide) ?_
                  obtain ⟨v_2948, h_2949⟩ : ∃ v9 : Int32, v_2826 + 1 = v9 := ⟨_, rfl⟩
                  refine v_iadd hC dX12_advance_236 h_2949 ?_
                  have h_2950 := add_v h_2949 (by first | omega | (simp only [Int32.lt_iff_toInt_lt, Int32.le_iff_toInt_le, Int32.reduceToInt, ← Int32.toInt_inj, true_and, and_true, or_true, true_or, false_or, or_false, false_and, and_false, not_true_eq_false, not_false_eq_true] <;> omega)) (by first | omega | (simp only [Int32.lt_iff_toInt_lt, Int32.le_iff_toInt_le, Int32.reduceToInt, ← Int32.toInt_inj, true_and, and_true, or_true, true_or, false_or, or_false, false_and, and_false, not_true_eq_false, not_false_eq_true] <;> omega))
                  try simp only [Int32.reduceToInt] at h_2950
                  refine v_put hC fl_X12_108 m_1 hf_2943 rfl rfl (Nat.le_of_ble_eq_true rfl) (fs' := [.int v_2821, .ref (q 1), .ref (q 2), .ref (q 3), .ref (q 4), .int v_2822, .ref (q 6), .int v_2824, .int v_2948, .int v_2826, .int 4, .int v_2832, .int v_2833, .int v_2834, .ref (q 14), .ref (q 15), .ref (q 16), .int v_2835, .ref (q 18), .ref (q 19), .int v_2837, .ref (q 21), .ref (q 22), .ref (q 23), .ref (q 24), .ref (q 25), .ref (q 26), .ref (q 27), .ref (q 28)]) rfl dX12_advance_237 (fun f_2951 hf_2952 hk_2953 => ?_)
                  have hW_2954 := hW_2945.up hf_2952 hk_2953 t_2 ⟨v_2821, v_2822, v_2824, v_2948, v_2826, 4, v_2832, v_2833, v_2834, v_2835, v_2837, rfl, (by first | omega | (simp only [Int32.lt_iff_toInt_lt, Int32.le_iff_toInt_le, Int32.reduceToInt, ← Int32.toInt_inj, true_and, and_true, or_true, true_or, false_or, or_false, false_and, and_false, not_true_eq_false, not_false_eq_true] <;> omega)), (by first | omega | (simp only [Int32.lt_iff_toInt_lt, Int32.le_iff_toInt_le, Int32.reduceToInt, ← Int32.toInt_inj, true_and, and_true, or_true, true_or, false_or, or_false, false_and, and_false, not_true_eq_false, not_false_eq_true] <;> omega)), (by first | omega | (simp only [Int32.lt_iff_toInt_lt, Int32.le_iff_toInt_le, Int32.reduceToInt, ← Int32.toInt_inj, true_and, and_true, or_true, true_or, false_or, or_false, false_and, and_false, not_true_eq_false, not_false_eq_true] <;> omega)), (by first | omega | (simp only [Int32.lt_iff_toInt_lt, Int32.le_iff_toInt_le, Int32.reduceToInt, ← Int32.toInt_inj, true_and, and_true, or_true, true_or, false_or, or_false, false_and, and_false, not_true_eq_false, not_false_eq_true] <;> omega)), (by decide), (by first | omega | (simp only [Int32.lt_iff_toInt_lt, Int32.le_iff_toInt_le, Int32.reduceToInt, ← Int32.toInt_inj, true_and, and_true, or_true, true_or, false_or, or_false, false_and, and_false, not_true_eq_false, not_false_eq_true] <;> omega)), (by first | omega | (simp only [Int32.lt_iff_toInt_lt, Int32.le_iff_toInt_le, Int32.reduceToInt, ← Int32.toInt_inj, true_and, and_true, or_true, true_or, false_or, or_false, false_and, and_false, not_true_eq_false, not_false_eq_true] <;> omega))⟩
                  have hf_2955 := (hk_2953 (q 4) (ne_kd hf_2946 hf_2943 rfl)).trans hf_2946
                  have fr_2956 := FR.w hk_2953 hf_2943 (k := 12) rfl
                  have fe_2957 : fld (f_2951 a_0) 8 = (v_2948 : Int32).toInt := by rw [hf_2952]; rfl
                  have fe_2958 : fld (f_2951 a_0) 9 = (v_2826 : Int32).toInt := by rw [hf_2952]; rfl
                  have fe_2959 : fld (f_2951 a_0) 8 = (v_2948 : Int32).toInt := by rw [hf_2952]; rfl
                  have fe_2960 : fld (f_2951 a_0) 9 = (v_2826 : Int32).toInt := by rw [hf_2952]; rfl
                  have fe_2961 : fld (f_2951 a_0) 10 = (4 : Int32).toInt := by rw [hf_2952]; rfl
                  simp only [Int32.reduceToInt] at fe_2961
                  have fe_2962 : fld (f_2951 a_0) 12 = (v_2833 : Int32).toInt := by rw [hf_2952]; rfl
                  have fe_2963 : fld (f_2951 a_0) 20 = (v_2837 : Int32).toInt := by rw [hf_2952]; rfl
                  exact hR _ _ _ _ _ _ dX12_advance_240 (Nat.le_of_ble_eq_true rfl) (Nat.le_of_ble_eq_true rfl) ⟨rfl, hW_2954, ((((hF_2812.tr fr_2901).tr fr_2947).tr fr_2956).mono rfl), (by simp only [fe_2957, fe_2958, mz_41, true_and, and_true, or_true, true_or, false_or, or_false, false_and, and_false, not_true_eq_false, not_false_eq_true] <;> first | omega | (simp only [Int32.lt_iff_toInt_lt, Int32.le_iff_toInt_le, Int32.reduceToInt, ← Int32.toInt_inj, true_and, and_true, or_true, true_or, false_or, or_false, false_and, and_false, not_true_eq_false, not_false_eq_true] <;> omega)), (by simp only [fe_2959, fe_2960, fe_2961, true_and, and_true, or_true, true_or, false_or, or_false, false_and, and_false, not_true_eq_false, not_false_eq_true] <;> first | omega | (simp only [Int32.lt_iff_toInt_lt, Int32.le_iff_toInt_le, Int32.reduceToInt, ← Int32.toInt_inj, true_and, and_true, or_true, true_or, false_or, or_false, false_and, and_false, not_true_eq_false, not_false_eq_true] <;> omega)), (by simp only [fe_2962, mz_42, true_and, and_true, or_true, true_or, false_or, or_false, false_and, and_false, not_true_eq_false, not_false_eq_true] <;> first | omega | (simp only [Int32.lt_iff_toInt_lt, Int32.le_iff_toInt_le, Int32.reduceToInt, ← Int32.toInt_inj, true_and, and_true, or_true, true_or, false_or, or_false, false_and, and_false, not_true_eq_false, not_false_eq_true] <;> omega)), (by simp only [fe_2963, mz_43, true_and, and_true, or_true, true_or, false_or, or_false, false_and, and_false, not_true_eq_false, not_false_eq_true] <;> first | omega | (simp only [Int32.lt_iff_toInt_lt, Int32.le_iff_toInt_le, Int32.reduceToInt, ← Int32.toInt_inj, true_and, and_true, or_true, true_or, false_or, or_false, false_and, and_false, not_true_eq_false, not_false_eq_true] <;> omega))⟩
                · simp only [Int32.lt_iff_toInt_lt, Int32.le_iff_toInt_le, Int32.reduceToInt, ← Int32.toInt_inj] at h_2941
                  refine v_iconst hC dX12_advance_222 (v := 3) (by decide) ?_
                  refine v_goto hC dX12_advance_223 (tgt := 227) (by decide) ?_
                  refine v_put hC fl_X12_120 m_1 hf_2898 rfl rfl (Nat.le_of_ble_eq_true rfl) (fs' := [.int v_2821, .ref (q 1), .ref (q 2), .ref (q 3), .ref (q 4), .int v_2822, .ref (q 6), .int v_2824, .int v_2826, .int v_2826, .int 3, .int v_2832, .int v_2833, .int v_2834, .ref (q 14), .ref (q 15), .ref (q 16), .int v_2835, .ref (q 18), .ref (q 19), .int v_2837, .ref (q 21), .ref (q 22), .ref (q 23), .ref (q 24), .ref (q 25), .ref (q 26), .ref (q 27), .ref (q 28)]) rfl dX12_advance_227 (fun f_2964 hf_2965 hk_2966 => ?_)
                  have hW_2967 := hW_2900.up hf_2965 hk_2966 t_2 ⟨v_2821, v_2822, v_2824, v_2826, v_2826, 3, v_2832, v_2833, v_2834, v_2835, v_2837, rfl, (by first | omega | (simp only [Int32.lt_iff_toInt_lt, Int32.le_iff_toInt_le, Int32.reduceToInt, ← Int32.toInt_inj, true_and, and_true, or_true, true_or, false_or, or_false, false_and, and_false, not_true_eq_false, not_false_eq_true] <;> omega)), (by first | omega | (simp only [Int32.lt_iff_toInt_lt, Int32.le_iff_toInt_le, Int32.reduceToInt, ← Int32.toInt_inj, true_and, and_true, or_true, true_or, false_or, or_false, false_and, and_false, not_true_eq_false, not_false_eq_true] <;> omega)), (by first | omega | (simp only [Int32.lt_iff_toInt_lt, Int32.le_iff_toInt_le, Int32.reduceToInt, ← Int32.toInt_inj, true_and, and_true, or_true, true_or, false_or, or_false, false_and, and_false, not_true_eq_false, not_false_eq_true] <;> omega)), (by first | omega | (simp only [Int32.lt_iff_toInt_lt, Int32.le_iff_toInt_le, Int32.reduceToInt, ← Int32.toInt_inj, true_and, and_true, or_true, true_or, false_or, or_false, false_and, and_false, not_true_eq_false, not_false_eq_true] <;> omega)), (by decide), (by first | omega | (simp only [Int32.lt_iff_toInt_lt, Int32.le_iff_toInt_le, Int32.reduceToInt, ← Int32.toInt_inj, true_and, and_true, or_true, true_or, false_or, or_false, false_and, and_false, not_true_eq_false, not_false_eq_true] <;> omega)), (by first | omega | (simp only [Int32.lt_iff_toInt_lt, Int32.le_iff_toInt_le, Int32.reduceToInt, ← Int32.toInt_inj, true_and, and_true, or_true, true_or, false_or, or_false, false_and, and_false, not_true_eq_false, not_false_eq_true] <;> omega))⟩
                  have hf_2968 := (hk_2966 (q 4) (ne_kd e_2912 hf_2898 rfl)).trans e_2912
                  have fr_2969 := FR.w hk_2966 hf_2898 (k := 12) rfl
                  refine v_aload_n hC dX12_advance_230 rfl ?_
                  refine v_dup hC dX12_advance_231 rfl ?_
                  refine v_get hC fl_X12_108 m_1 hf_2965 rfl dX12_advance_232 ?_
                  refine v_iconst hC dX12_advance_235 (v := 1) (by decide) ?_
                  obtain ⟨v_2970, h_2971⟩ : ∃ v9 : Int32, v_2826 + 1 = v9 := ⟨_, rfl⟩
                  refine v_iadd hC dX12_advance_236 h_2971 ?_
                  have h_2972 := add_v h_2971 (by first | omega | (simp only [Int32.lt_iff_toInt_lt, Int32.le_iff_toInt_le, Int32.reduceToInt, ← Int32.toInt_inj, true_and, and_true, or_true, true_or, false_or, or_false, false_and, and_false, not_true_eq_false, not_false_eq_true] <;> omega)) (by first | omega | (simp only [Int32.lt_iff_toInt_lt, Int32.le_iff_toInt_le, Int32.reduceToInt, ← Int32.toInt_inj, true_and, and_true, or_true, true_or, false_or, or_false, false_and, and_false, not_true_eq_false, not_false_eq_true] <;> omega))
                  try simp only [Int32.reduceToInt] at h_2972
                  refine v_put hC fl_X12_108 m_1 hf_2965 rfl rfl (Nat.le_of_ble_eq_true rfl) (fs' := [.int v_2821, .ref (q 1), .ref (q 2), .ref (q 3), .ref (q 4), .int v_2822, .ref (q 6), .int v_2824, .int v_2970, .int v_2826, .int 3, .int v_2832, .int v_2833, .int v_2834, .ref (q 14), .ref (q 15), .ref (q 16), .int v_2835, .ref (q 18), .ref (q 19), .int v_2837, .ref (q 21), .ref (q 22), .ref (q 23), .ref (q 24), .ref (q 25), .ref (q 26), .ref (q 27), .ref (q 28)]) rfl dX12_advance_237 (fun f_2973 hf_2974 hk_2975 => ?_)
                  have hW_2976 := hW_2967.up hf_2974 hk_2975 t_2 ⟨v_2821, v_2822, v_2824, v_2970, v_2826, 3, v_2832, v_2833, v_2834, v_2835, v_2837, rfl, (by first | omega | (simp only [Int32.lt_iff_toInt_lt, Int32.le_iff_toInt_le, Int32.reduceToInt, ← Int32.toInt_inj, true_and, and_true, or_true, true_or, false_or, or_false, false_and, and_false, not_true_eq_false, not_false_eq_true] <;> omega)), (by first | omega | (simp only [Int32.lt_iff_toInt_lt, Int32.le_iff_toInt_le, Int32.reduceToInt, ← Int32.toInt_inj, true_and, and_true, or_true, true_or, false_or, or_false, false_and, and_false, not_true_eq_false, not_false_eq_true] <;> omega)), (by first | omega | (simp only [Int32.lt_iff_toInt_lt, Int32.le_iff_toInt_le, Int32.reduceToInt, ← Int32.toInt_inj, true_and, and_true, or_true, true_or, false_or, or_false, false_and, and_false, not_true_eq_false, not_false_eq_true] <;> omega)), (by first | omega | (simp only [Int32.lt_iff_toInt_lt, Int32.le_iff_toInt_le, Int32.reduceToInt, ← Int32.toInt_inj, true_and, and_true, or_true, true_or, false_or, or_false, false_and, and_false, not_true_eq_false, not_false_eq_true] <;> omega)), (by decide), (by first | omega | (simp only [Int32.lt_iff_toInt_lt, Int32.le_iff_toInt_le, Int32.reduceToInt, ← Int32.toInt_inj, true_and, and_true, or_true, true_or, false_or, or_false, false_and, and_false, not_true_eq_false, not_false_eq_true] <;> omega)), (by first | omega | (simp only [Int32.lt_iff_toInt_lt, Int32.le_iff_toInt_le, Int32.reduceToInt, ← Int32.toInt_inj, true_and, and_true, or_true, true_or, false_or, or_false, false_and, and_false, not_true_eq_false, not_false_eq_true] <;> omega))⟩
                  have hf_2977 := (hk_2975 (q 4) (ne_kd hf_2968 hf_2965 rfl)).trans hf_2968
                  have fr_2978 := FR.w hk_2975 hf_2965 (k := 12) rfl
                  have fe_2979 : fld (f_2973 a_0) 8 = (v_2970 : Int32).toInt := by rw [hf_2974]; rfl
                  have fe_2980 : fld (f_2973 a_0) 9 = (v_2826 : Int32).toInt := by rw [hf_2974]; rfl
                  have fe_2981 : fld (f_2973 a_0) 8 = (v_2970 : Int32).toInt := by rw [hf_2974]; rfl
                  have fe_2982 : fld (f_2973 a_0) 9 = (v_2826 : Int32).toInt := by rw [hf_2974]; rfl
                  have fe_2983 : fld (f_2973 a_0) 10 = (3 : Int32).toInt := by rw [hf_2974]; rfl
                  simp only [Int32.reduceToInt] at fe_2983
                  have fe_2984 : fld (f_2973 a_0) 12 = (v_2833 : Int32).toInt := by rw [hf_2974]; rfl
                  have fe_2985 : fld (f_2973 a_0) 20 = (v_2837 : Int32).toInt := by rw [hf_2974]; rfl
                  exact hR _ _ _ _ _ _ dX12_advance_240 (Nat.le_of_ble_eq_true rfl) (Nat.le_of_ble_eq_true rfl) ⟨rfl, hW_2976, ((((hF_2812.tr fr_2901).tr fr_2969).tr fr_2978).mono rfl), (by simp only [fe_2979, fe_2980, mz_41, true_and, and_true, or_true, true_or, false_or, or_false, false_and, and_false, not_true_eq_false, not_false_eq_true] <;> first | omega | (simp only [Int32.lt_iff_toInt_lt, Int32.le_iff_toInt_le, Int32.reduceToInt, ← Int32.toInt_inj, true_and, and_true, or_true, true_or, false_or, or_false, false_and, and_false, not_true_eq_false, not_false_eq_true] <;> omega)), (by simp only [fe_2981, fe_2982, fe_2983, true_and, and_true, or_true, true_or, false_or, or_false, false_and, and_false, not_true_eq_false, not_false_eq_true] <;> first | omega | (simp only [Int32.lt_iff_toInt_lt, Int32.le_iff_toInt_le, Int32.reduceToInt, ← Int32.toInt_inj, true_and, and_true, or_true, true_or, false_or, or_false, false_and, and_false, not_true_eq_false, not_false_eq_true] <;> omega)), (by simp only [fe_2984, mz_42, true_and, and_true, or_true, true_or, false_or, or_false, false_and, and_false, not_true_eq_false, not_false_eq_true] <;> first | omega | (simp only [Int32.lt_iff_toInt_lt, Int32.le_iff_toInt_le, Int32.reduceToInt, ← Int32.toInt_inj, true_and, and_true, or_true, true_or, false_or, or_false, false_and, and_false, not_true_eq_false, not_false_eq_true] <;> omega)), (by simp only [fe_2985, mz_43, true_and, and_true, or_true, true_or, false_or, or_false, false_and, and_false, not_true_eq_false, not_false_eq_true] <;> first | omega | (simp only [Int32.lt_iff_toInt_lt, Int32.le_iff_toInt_le, Int32.reduceToInt, ← Int32.toInt_inj, true_and, and_true, or_true, true_or, false_or, or_false, false_and, and_false, not_true_eq_false, not_false_eq_true] <;> omega))⟩
              · simp only [Int32.lt_iff_toInt_lt, Int32.le_iff_toInt_le, Int32.reduceToInt, ← Int32.toInt_inj] at h_2940
                refine v_aload_n hC dX12_advance_139 rfl ?_
                refine v_iconst hC dX12_advance_140 (v := 0) (by decide) ?_
                refine v_put hC fl_X12_131 m_1 hf_2898 rfl rfl (Nat.le_of_ble_eq_true rfl) (fs' := [.int v_2821, .ref (q 1), .ref (q 2), .ref (q 3), .ref (q 4), .int v_2822, .ref (q 6), .int v_2824, .int v_2826, .int v_2826, .int v_2830, .int 0, .int v_2833, .int v_2834, .ref (q 14), .ref (q 15), .ref (q 16), .int v_2835, .ref (q 18), .ref (q 19), .int v_2837, .ref (q 21), .ref (q 22), .ref (q 23), .ref (q 24), .ref (q 25), .ref (q 26), .ref (q 27), .ref (q 28)]) rfl dX12_advance_141 (fun f_2986 hf_2987 hk_2988 => ?_)
                have hW_2989 := hW_2900.up hf_2987 hk_2988 t_2 ⟨v_2821, v_2822, v_2824, v_2826, v_2826, v_2830, 0, v_2833, v_2834, v_2835, v_2837, rfl, (by first | omega | (simp only [Int32.lt_iff_toInt_lt, Int32.le_iff_toInt_le, Int32.reduceToInt, ← Int32.toInt_inj, true_and, and_true, or_true, true_or, false_or, or_false, false_and, and_false, not_true_eq_false, not_false_eq_true] <;> omega)), (by first | omega | (simp only [Int32.lt_iff_toInt_lt, Int32.le_iff_toInt_le, Int32.reduceToInt, ← Int32.toInt_inj, true_and, and_true, or_true, true_or, false_or, or_false, false_and, and_false, not_true_eq_false, not_false_eq_true] <;> omega)), (by first | omega | (simp only [Int32.lt_iff_toInt_lt, Int32.le_iff_toInt_le, Int32.reduceToInt, ← Int32.toInt_inj, true_and, and_true, or_true, true_or, false_or, or_false, false_and, and_false, not_true_eq_false, not_false_eq_true] <;> omega)), (by first | omega | (simp only [Int32.lt_iff_toInt_lt, Int32.le_iff_toInt_le, Int32.reduceToInt, ← Int32.toInt_inj, true_and, and_true, or_true, true_or, false_or, or_false, false_and, and_false, not_true_eq_false, not_false_eq_true] <;> omega)), (by first | omega | (simp only [Int32.lt_iff_toInt_lt, Int32.le_iff_toInt_le, Int32.reduceToInt, ← Int32.toInt_inj, true_and, and_true, or_true, true_or, false_or, or_false, false_and, and_false, not_true_eq_false, not_false_eq_true] <;> omega)), (by first | omega | (simp only [Int32.lt_iff_toInt_lt, Int32.le_iff_toInt_le, Int32.reduceToInt, ← Int32.toInt_inj, true_and, and_true, or_true, true_or, false_or, or_false, false_and, and_false, not_true_eq_false, not_false_eq_true] <;> omega)), (by first | omega | (simp only [Int32.lt_iff_toInt_lt, Int32.le_iff_toInt_le, Int32.reduceToInt, ← Int32.toInt_inj, true_and, and_true, or_true, true_or, false_or, or_false, false_and, and_false, not_true_eq_false, not_false_eq_true] <;> omega))⟩
                have hf_2990 := (hk_2988 (q 4) (ne_kd e_2912 hf_2898 rfl)).trans e_2912
                have fr_2991 := FR.w hk_2988 hf_2898 (k := 12) rfl
                refine v_aload_n hC dX12_advance_144 rfl ?_
                refine v_aload_n hC dX12_advance_145 rfl ?_
                refine v_get hC fl_X12_108 m_1 hf_2987 rfl dX12_advance_146 ?_
                refine v_vi hC (rest := []) m_1 hf_2987 rfl mi_X12_see ms_X12_see (p_X12_see hW_2989 k_0 (by first | omega | (simp only [Int32.lt_iff_toInt_lt, Int32.le_iff_toInt_le, Int32.reduceToInt, ← Int32.toInt_inj, true_and, and_true, or_true, true_or, false_or, or_false, false_and, and_false, not_true_eq_false, not_false_eq_true] <;> omega))) mx_X12_see ml_X12_114 (by decide) rfl (cells1 := 0) (slots1 := 0) (by decide) (by decide) (Nat.le_of_ble_eq_true rfl) (Nat.le_of_ble_eq_true rfl) rfl (Nat.le_of_ble_eq_true rfl) dX12_advance_149 (fun r_2992 L_2993 f_2994 h_2995 => ?_)
                obtain ⟨rfl, rfl, rfl⟩ := h_2995
                have sb_2998 := sv_b (f_2986 a_0) (f_2986 (q 4)) v_2826
                have fe_2999 : fld (f_2986 a_0) 7 = (v_2824 : Int32).toInt := by rw [hf_2987]; rfl
                rw [fe_2999] at sb_2998
                have fe_3000 : fld (f_2986 a_0) 7 = (v_2824 : Int32).toInt := by rw [hf_2987]; rfl
                have sc_3001 : ((sv (f_2986 a_0) (f_2986 (q 4)) v_2826)).toInt = ((sv (f_2897 a_0) (f_2897 (q 4)) v_2826)).toInt := congrArg Int32.toInt (sv_congr (fe_3000.trans fe_2915.symm) (hf_2990.trans e_2912.symm))
                obtain ⟨v_3002, h_3003⟩ : ∃ v9 : Int64, (sv (f_2986 a_0) (f_2986 (q 4)) v_2826).toInt64 = v9 := ⟨_, rfl⟩
                refine v_i2l hC dX12_advance_152 h_3003 ?_
                have h_3004 : v_3002.toInt = (sv (f_2986 a_0) (f_2986 (q 4)) v_2826).toInt := by rw [← h_3003]; exact Int32.toInt_toInt64 _
                refine v_ldc2 hC kl_X12_127 dX12_advance_153 ?_
                refine v_ldc2 hC kl_X12_129 dX12_advance_156 ?_
                refine v_si hC (rest := []) mt_X12_in (p_X12_in hW_2989) mx_X12_in ml_X12_79 (by decide) rfl (cells1 := 0) (slots1 := 0) (by decide) (by decide) (Nat.le_of_ble_eq_true rfl) (Nat.le_of_ble_eq_true rfl) rfl (Nat.le_of_ble_eq_true rfl) dX12_advance_159 (fun r_3005 L_3006 f_3007 h_3008 => ?_)
                obtain ⟨rfl, rfl, b_3009, x_3010⟩ := h_3008
                try simp only [Int32.reduceToInt, Int64.reduceToInt] at x_3010
                refine v_if_eq_f hC dX12_advance_162 (tgt := 207) (by decide) (by first | omega | (simp only [Int32.lt_iff_toInt_lt, Int32.le_iff_toInt_le, Int32.reduceToInt, ← Int32.toInt_inj, true_and, and_true, or_true, true_or, false_or, or_false, false_and, and_false, not_true_eq_false, not_false_eq_true] <;> omega)) ?_
                refine v_aload_n hC dX12_advance_165 rfl ?_
                refine v_sipush hC dX12_advance_166 (v := 9999) (by decide) ?_
                refine v_bipush hC dX12_advance_169 (v := 10) (by decide) ?_
                refine v_aload_n hC dX12_advance_171 rfl ?_
                refine v_get hC fl_X12_131 m_1 hf_2987 rfl dX12_advance_172 ?_
                refine v_imul hC dX12_advance_175 (v := 0) (by decide) ?_
                refine v_aload_n hC dX12_advance_176 rfl ?_
                refine v_aload_n hC dX12_advance_177 rfl ?_
                refine v_get hC fl_X12_108 m_1 hf_2987 rfl dX12_advance_178 ?_
                refine v_vi hC (rest := [.int 0, .int 9999, .ref a_0]) m_1 hf_2987 rfl mi_X12_see ms_X12_see (p_X12_see hW_2989 k_0 (by first | omega | (simp only [Int32.lt_iff_toInt_lt, Int32.le_iff_toInt_le, Int32.reduceToInt, ← Int32.toInt_inj, true_and, and_true, or_true, true_or, false_or, or_false, false_and, and_false, not_true_eq_false, not_false_eq_true] <;> omega))) mx_X12_see ml_X12_114 (by decide) rfl (cells1 := 0) (slots1 := 0) (by decide) (by decide) (Nat.le_of_ble_eq_true rfl) (Nat.le_of_ble_eq_true rfl) rfl (Nat.le_of_ble_eq_true rfl) dX12_advance_181 (fun r_3013 L_3014 f_3015 h_3016 => ?_)
                obtain ⟨rfl, rfl, rfl⟩ := h_3016
                have sb_3019 := sv_b (f_2986 a_0) (f_2986 (q 4)) v_2826
                have fe_3020 : fld (f_2986 a_0) 7 = (v_2824 : Int32).toInt := by rw [hf_2987]; rfl
                rw [fe_3020] at sb_3019
                obtain ⟨v_3021, h_3022⟩ : ∃ v9 : Int32, (0 : Int32) + (sv (f_2986 a_0) (f_2986 (q 4)) v_2826) = v9 := ⟨_, rfl⟩
                refine v_iadd hC dX12_advance_184 h_3022 ?_
                have h_3023 := add_v h_3022 (by first | omega | (simp only [Int32.lt_iff_toInt_lt, Int32.le_iff_toInt_le, Int32.reduceToInt, ← Int32.toInt_inj, true_and, and_true, or_true, true_or, false_or, or_false, false_and, and_false, not_true_eq_false, not_false_eq_true] <;> omega)) (by first | omega | (simp only [Int32.lt_iff_toInt_lt, Int32.le_iff_toInt_le, Int32.reduceToInt, ← Int32.toInt_inj, true_and, and_true, or_true, true_or, false_or, or_false, false_and, and_false, not_true_eq_false, not_false_eq_true] <;> omega))
                try simp only [Int32.reduceToInt] at h_3023
                refine v_bipush hC dX12_advance_185 (v := 48) (by decide) ?_
                obtain ⟨v_3024, h_3025⟩ : ∃ v9 : Int32, v_3021 - 48 = v9 := ⟨_, rfl⟩
                refine v_isub hC dX12_advance_187 h_3025 ?_
                have h_3026 := sub_v h_3025 (by first | omega | (simp only [Int32.lt_iff_toInt_lt, Int32.le_iff_toInt_le, Int32.reduceToInt, ← Int32.toInt_inj, true_and, and_true, or_true, true_or, false_or, or_false, false_and, and_false, not_true_eq_false, not_false_eq_true] <;> omega)) (by first | omega | (simp only [Int32.lt_iff_toInt_lt, Int32.le_iff_toInt_le, Int32.reduceToInt, ← Int32.toInt_inj, true_and, and_true, or_true, true_or, false_or, or_false, false_and, and_false, not_true_eq_false, not_false_eq_true] <;> omega))
                try simp only [Int32.reduceToInt] at h_3026
                obtain ⟨v_3027, h_3028⟩ : ∃ v9 : Int32, (if v_3024 < (9999 : Int32) then v_3024 else (9999 : Int32)) = v9 := ⟨_, rfl⟩
                refine v_mmin hC mm_X12_134 mm_smin mm_i mm_cmin (by decide) (Nat.le_of_ble_eq_true rfl) (Nat.le_of_ble_eq_true rfl) (Nat.le_of_ble_eq_true rfl) h_3028 dX12_advance_188 ?_
                have b_3029 := min_v h_3028
                try simp only [Int32.reduceToInt] at b_3029
                refine v_put hC fl_X12_131 m_1 hf_2987 rfl rfl (Nat.le_of_ble_eq_true rfl) (fs' := [.int v_2821, .ref (q 1), .ref (q 2), .ref (q 3), .ref (q 4), .int v_2822, .ref (q 6), .int v_2824, .int v_2826, .int v_2826, .int v_2830, .int v_3027, .int v_2833, .int v_2834, .ref (q 14), .ref (q 15), .ref (q 16), .int v_2835, .ref (q 18), .ref (q 19), .int v_2837, .ref (q 21), .ref (q 22), .ref (q 23), .ref (q 24), .ref (q 25), .ref (q 26), .ref (q 27), .ref (q 28)]) rfl dX12_advance_191 (fun f_3030 hf_3031 hk_3032 => ?_)
                have hW_3033 := hW_2989.up hf_3031 hk_3032 t_2 ⟨v_2821, v_2822, v_2824, v_2826, v_2826, v_2830, v_3027, v_2833, v_2834, v_2835, v_2837, rfl, (by first | omega | (simp only [Int32.lt_iff_toInt_lt, Int32.le_iff_toInt_le, Int32.reduceToInt, ← Int32.toInt_inj, true_and, and_true, or_true, true_or, false_or, or_false, false_and, and_false, not_true_eq_false, not_false_eq_true] <;> omega)), (by first | omega | (simp only [Int32.lt_iff_toInt_lt, Int32.le_iff_toInt_le, Int32.reduceToInt, ← Int32.toInt_inj, true_and, and_true, or_true, true_or, false_or, or_false, false_and, and_false, not_true_eq_false, not_false_eq_true] <;> omega)), (by first | omega | (simp only [Int32.lt_iff_toInt_lt, Int32.le_iff_toInt_le, Int32.reduceToInt, ← Int32.toInt_inj, true_and, and_true, or_true, true_or, false_or, or_false, false_and, and_false, not_true_eq_false, not_false_eq_true] <;> omega)), (by first | omega | (simp only [Int32.lt_iff_toInt_lt, Int32.le_iff_toInt_le, Int32.reduceToInt, ← Int32.toInt_inj, true_and, and_true, or_true, true_or, false_or, or_false, false_and, and_false, not_true_eq_false, not_false_eq_true] <;> omega)), (by first | omega | (simp only [Int32.lt_iff_toInt_lt, Int32.le_iff_toInt_le, Int32.reduceToInt, ← Int32.toInt_inj, true_and, and_true, or_true, true_or, false_or, or_false, false_and, and_false, not_true_eq_false, not_false_eq_true] <;> omega)), (by first | omega | (simp only [Int32.lt_iff_toInt_lt, Int32.le_iff_toInt_le, Int32.reduceToInt, ← Int32.toInt_inj, true_and, and_true, or_true, true_or, false_or, or_false, false_and, and_false, not_true_eq_false, not_false_eq_true] <;> omega)), (by first | omega | (simp only [Int32.lt_iff_toInt_lt, Int32.le_iff_toInt_le, Int32.reduceToInt, ← Int32.toInt_inj, true_and, and_true, or_true, true_or, false_or, or_false, false_and, and_false, not_true_eq_false, not_false_eq_true] <;> omega))⟩
                have hf_3034 := (hk_3032 (q 4) (ne_kd hf_2990 hf_2987 rfl)).trans hf_2990
                have fr_3035 := FR.w hk_3032 hf_2987 (k := 12) rfl
                refine v_aload_n hC dX12_advance_194 rfl ?_
                refine v_dup hC dX12_advance_195 rfl ?_
                refine v_get hC fl_X12_108 m_1 hf_3031 rfl dX12_advance_196 ?_
                refine v_iconst hC dX12_advance_199 (v := 1) (by decide) ?_
                obtain ⟨v_3036, h_3037⟩ : ∃ v9 : Int32, v_2826 + 1 = v9 := ⟨_, rfl⟩
                refine v_iadd hC dX12_advance_200 h_3037 ?_
                have h_3038 := add_v h_3037 (by first | omega | (simp only [Int32.lt_iff_toInt_lt, Int32.le_iff_toInt_le, Int32.reduceToInt, ← Int32.toInt_inj, true_and, and_true, or_true, true_or, false_or, or_false, false_and, and_false, not_true_eq_false, not_false_eq_true] <;> omega)) (by first | omega | (simp only [Int32.lt_iff_toInt_lt, Int32.le_iff_toInt_le, Int32.reduceToInt, ← Int32.toInt_inj, true_and, and_true, or_true, true_or, false_or, or_false, false_and, and_false, not_true_eq_false, not_false_eq_true] <;> omega))
                try simp only [Int32.reduceToInt] at h_3038
                refine v_put hC fl_X12_108 m_1 hf_3031 rfl rfl (Nat.le_of_ble_eq_true rfl) (fs' := [.int v_2821, .ref (q 1), .ref (q 2), .ref (q 3), .ref (q 4), .int v_2822, .ref (q 6), .int v_2824, .int v_3036, .int v_2826, .int v_2830, .int v_3027, .int v_2833, .int v_2834, .ref (q 14), .ref (q 15), .ref (q 16), .int v_2835, .ref (q 18), .ref (q 19), .int v_2837, .ref (q 21), .ref (q 22), .ref (q 23), .ref (q 24), .ref (q 25), .ref (q 26), .ref (q 27), .ref (q 28)]) rfl dX12_advance_201 (fun f_3039 hf_3040 hk_3041 => ?_)
                have hW_3042 := hW_3033.up hf_3040 hk_3041 t_2 ⟨v_2821, v_2822, v_2824, v_3036, v_2826, v_2830, v_3027, v_2833, v_2834, v_2835, v_2837, rfl, (by first | omega | (simp only [Int32.lt_iff_toInt_lt, Int32.le_iff_toInt_le, Int32.reduceToInt, ← Int32.toInt_inj, true_and, and_true, or_true, true_or, false_or, or_false, false_and, and_false, not_true_eq_false, not_false_eq_true] <;> omega)), (by first | omega | (simp only [Int32.lt_iff_toInt_lt, Int32.le_iff_toInt_le, Int32.reduceToInt, ← Int32.toInt_inj, true_and, and_true, or_true, true_or, false_or, or_false, false_and, and_false, not_true_eq_false, not_false_eq_true] <;> omega)), (by first | omega | (simp only [Int32.lt_iff_toInt_lt, Int32.le_iff_toInt_le, Int32.reduceToInt, ← Int32.toInt_inj, true_and, and_true, or_true, true_or, false_or, or_false, false_and, and_false, not_true_eq_false, not_false_eq_true] <;> omega)), (by first | omega | (simp only [Int32.lt_iff_toInt_lt, Int32.le_iff_toInt_le, Int32.reduceToInt, ← Int32.toInt_inj, true_and, and_true, or_true, true_or, false_or, or_false, false_and, and_false, not_true_eq_false, not_false_eq_true] <;> omega)), (by first | omega | (simp only [Int32.lt_iff_toInt_lt, Int32.le_iff_toInt_le, Int32.reduceToInt, ← Int32.toInt_inj, true_and, and_true, or_true, true_or, false_or, or_false, false_and, and_false, not_true_eq_false, not_false_eq_true] <;> omega)), (by first | omega | (simp only [Int32.lt_iff_toInt_lt, Int32.le_iff_toInt_le, Int32.reduceToInt, ← Int32.toInt_inj, true_and, and_true, or_true, true_or, false_or, or_false, false_and, and_false, not_true_eq_false, not_false_eq_true] <;> omega)), (by first | omega | (simp only [Int32.lt_iff_toInt_lt, Int32.le_iff_toInt_le, Int32.reduceToInt, ← Int32.toInt_inj, true_and, and_true, or_true, true_or, false_or, or_false, false_and, and_false, not_true_eq_false, not_false_eq_true] <;> omega))⟩
                have hf_3043 := (hk_3041 (q 4) (ne_kd hf_3034 hf_3031 rfl)).trans hf_3034
                have fr_3044 := FR.w hk_3041 hf_3031 (k := 12) rfl
                refine v_goto hC dX12_advance_204 (tgt := 144) (by decide) ?_
                have lp_3320 : ∀ (n_3321 : Nat) (f_3312 : Nat → va_E) (hW_3313 : WT T L f_3312) (hF_3314 : FR [12] f_3039 f_3312)  (nv_3316 : v_28.toInt ≤ fld (f_3312 a_0) 9) (nv_3317 : fld (f_3312 a_0) 9 < fld (f_3312 a_0) 8) (nv_3318 : fld (f_3312 a_0) 12 = v_35.toInt) (nv_3319 : fld (f_3312 a_0) 20 = v_39.toInt) (hm_3323 : 600 - fld (f_3312 a_0) 8 < (n_3321 : Int)), V z E 2 0 0 L f_3312 144 [(0, .ref a_0)] [] := by
                  intro n_3321
                  induction n_3321 with
                  | zero =>
                    intro f_3312 hW_3313 hF_3314 nv_3316 nv_3317 nv_3318 nv_3319 hm_3323
                    have hf_3315 := hF_3314.at hf_3043 rfl
                    obtain ⟨v_3325, v_3326, v_3328, v_3330, v_3332, v_3334, v_3336, v_3337, v_3338, v_3339, v_3341, e_3324, b_3327, b_3329, b_3331, b_3333, b_3335, b_3340, b_3342⟩ := hW_3313.at m_1 t_2
                    have fe_3343 : fld (f_3312 a_0) 9 = (v_3332 : Int32).toInt := by rw [e_3324]; rfl
                    rw [fe_3343] at nv_3316
                    have fe_3344 : fld (f_3312 a_0) 8 = (v_3330 : Int32).toInt := by rw [e_3324]; rfl
                    have fe_3345 : fld (f_3312 a_0) 9 = (v_3332 : Int32).toInt := by rw [e_3324]; rfl
                    rw [fe_3344, fe_3345] at nv_3317
                    have fe_3346 : fld (f_3312 a_0) 12 = (v_3337 : Int32).toInt := by rw [e_3324]; rfl
                    rw [fe_3346] at nv_3318
                    have fe_3347 : fld (f_3312 a_0) 20 = (v_3341 : Int32).toInt := by rw [e_3324]; rfl
                    rw [fe_3347] at nv_3319
                    have h_3348 : fld (f_3312 a_0) 8 = (v_3330 : Int32).toInt := by rw [e_3324]; rfl
                    rw [h_3348] at hm_3323
                    exfalso; omega
                  | succ n_3321 ih_3322 =>
                    intro f_3312 hW_3313 hF_3314 nv_3316 nv_3317 nv_3318 nv_3319 hm_3323
                    have hf_3315 := hF_3314.at hf_3043 rfl
                    obtain ⟨v_3325, v_3326, v_3328, v_3330, v_3332, v_3334, v_3336, v_3337, v_3338, v_3339, v_3341, e_3324, b_3327, b_3329, b_3331, b_3333, b_3335, b_3340, b_3342⟩ := hW_3313.at m_1 t_2
                    have fe_3343 : fld (f_3312 a_0) 9 = (v_3332 : Int32).toInt := by rw [e_3324]; rfl
                    rw [fe_3343] at nv_3316
                    have fe_3344 : fld (f_3312 a_0) 8 = (v_3330 : Int32).toInt := by rw [e_3324]; rfl
                    have fe_3345 : fld (f_3312 a_0) 9 = (v_3332 : Int32).toInt := by rw [e_3324]; rfl
                    rw [fe_3344, fe_3345] at nv_3317
                    have fe_3346 : fld (f_3312 a_0) 12 = (v_3337 : Int32).toInt := by rw [e_3324]; rfl
                    rw [fe_3346] at nv_3318
                    have fe_3347 : fld (f_3312 a_0) 20 = (v_3341 : Int32).toInt := by rw [e_3324]; rfl
                    rw [fe_3347] at nv_3319
                    have h_3348 : fld (f_3312 a_0) 8 = (v_3330 : Int32).toInt := by rw [e_3324]; rfl
                    rw [h_3348] at hm_3323
                    refine v_aload_n hC dX12_advance_144 rfl ?_
                    refine v_aload_n hC dX12_advance_145 rfl ?_
                    refine v_get hC fl_X12_108 m_1 e_3324 rfl dX12_advance_146 ?_
                    refine v_vi hC (rest := []) m_1 e_3324 rfl mi_X12_see ms_X12_see (p_X12_see hW_3313 k_0 (by first | omega | (simp only [Int32.lt_iff_toInt_lt, Int32.le_iff_toInt_le, Int32.reduceToInt, ← Int32.toInt_inj, true_and, and_true, or_true, true_or, false_or, or_false, false_and, and_false, not_true_eq_false, not_false_eq_true] <;> omega))) mx_X12_see ml_X12_114 (by decide) rfl (cells1 := 0) (slots1 := 0) (by decide) (by decide) (Nat.le_of_ble_eq_true rfl) (Nat.le_of_ble_eq_true rfl) rfl (Nat.le_of_ble_eq_true rfl) dX12_advance_149 (fun r_3349 L_3350 f_3351 h_3352 => ?_)
                    obtain ⟨rfl, rfl, rfl⟩ := h_3352
                    have sb_3355 := sv_b (f_3312 a_0) (f_3312 (q 4)) v_3330
                    have fe_3356 : fld (f_3312 a_0) 7 = (v_3328 : Int32).toInt := by rw [e_3324]; rfl
                    rw [fe_3356] at sb_3355
                    obtain ⟨v_3357, h_3358⟩ : ∃ v9 : Int64, (sv (f_3312 a_0) (f_3312 (q 4)) v_3330).toInt64 = v9 := ⟨_, rfl⟩
                    refine v_i2l hC dX12_advance_152 h_3358 ?_
                    have h_3359 : v_3357.toInt = (sv (f_3312 a_0) (f_3312 (q 4)) v_3330).toInt := by rw [← h_3358]; exact Int32.toInt_toInt64 _
                    refine v_ldc2 hC kl_X12_127 dX12_advance_153 ?_
                    refine v_ldc2 hC kl_X12_129 dX12_advance_156 ?_
                    refine v_si hC (rest := []) mt_X12_in (p_X12_in hW_3313) mx_X12_in ml_X12_79 (by decide) rfl (cells1 := 0) (slots1 := 0) (by decide) (by decide) (Nat.le_of_ble_eq_true rfl) (Nat.le_of_ble_eq_true rfl) rfl (Nat.le_of_ble_eq_true rfl) dX12_advance_159 (fun r_3360 L_3361 f_3362 h_3363 => ?_)
                    obtain ⟨rfl, rfl, b_3364, x_3365⟩ := h_3363
                    try simp only [Int32.reduceToInt, Int64.reduceToInt] at x_3365
                    refine v_if_eq hC dX12_advance_162 (tgt := 207) (by decide) (fun h_3368 => ?_) (fun h_3368 => ?_)
                    · simp only [Int32.lt_iff_toInt_lt, Int32.le_iff_toInt_le, Int32.reduceToInt, ← Int32.toInt_inj] at h_3368
                      refine v_aload_n hC dX12_advance_207 rfl ?_
                      refine v_iconst hC dX12_advance_208 (v := 2) (by decide) ?_
                      refine v_put hC fl_X12_120 m_1 e_3324 rfl rfl (Nat.le_of_ble_eq_true rfl) (fs' := [.int v_3325, .ref (q 1), .ref (q 2), .ref (q 3), .ref (q 4), .int v_3326, .ref (q 6), .int v_3328, .int v_3330, .int v_3332, .int 2, .int v_3336, .int v_3337, .int v_3338, .ref (q 14), .ref (q 15), .ref (q 16), .int v_3339, .ref (q 18), .ref (q 19), .int v_3341, .ref (q 21), .ref (q 22), .ref (q 23), .ref (q 24), .ref (q 25), .ref (q 26), .ref (q 27), .ref (q 28)]) rfl dX12_advance_209 (fun f_3369 hf_3370 hk_3371 => ?_)
                      have hW_3372 := hW_3313.up hf_3370 hk_3371 t_2 ⟨v_3325, v_3326, v_3328, v_3330, v_3332, 2, v_3336, v_3337, v_3338, v_3339, v_3341, rfl, (by first | omega | (simp only [Int32.lt_iff_toInt_lt, Int32.le_iff_toInt_le, Int32.reduceToInt, ← Int32.toInt_inj, true_and, and_true, or_true, true_or, false_or, or_false, false_and, and_false, not_true_eq_false, not_false_eq_true] <;> omega)), (by first | omega | (simp only [Int32.lt_iff_toInt_lt, Int32.le_iff_toInt_le, Int32.reduceToInt, ← Int32.toInt_inj, true_and, and_true, or_true, true_or, false_or, or_false, false_and, and_false, not_true_eq_false, not_false_eq_true] <;> omega)), (by first | omega | (simp only [Int32.lt_iff_toInt_lt, Int32.le_iff_toInt_le, Int32.reduceToInt, ← Int32.toInt_inj, true_and, and_true, or_true, true_or, false_or, or_false, false_and, and_false, not_true_eq_false, not_false_eq_true] <;> omega)), (by first | omega | (simp only [Int32.lt_iff_toInt_lt, Int32.le_iff_toInt_le, Int32.reduceToInt, ← Int32.toInt_inj, true_and, and_true, or_true, true_or, false_or, or_false, false_and, and_false, not_true_eq_false, not_false_eq_true] <;> omega)), (by decide), (by first | omega | (simp only [Int32.lt_iff_toInt_lt, Int32.le_iff_toInt_le, Int32.reduceToInt, ← Int32.toInt_inj, true_and, and_true, or_true, true_or, false_or, or_false, false_and, and_false, not_true_eq_false, not_false_eq_true] <;> omega)), (by first | omega | (simp only [Int32.lt_iff_toInt_lt, Int32.le_iff_toInt_le, Int32.reduceToInt, ← Int32.toInt_inj, true_and, and_true, or_true, true_or, false_or, or_false, false_and, and_false, not_true_eq_false, not_false_eq_true] <;> omega))⟩
                      have hf_3373 := (hk_3371 (q 4) (ne_kd hf_3315 e_3324 rfl)).trans hf_3315
                      have fr_3374 := FR.w hk_3371 e_3324 (k := 12) rfl
                      refine v_goto hC dX12_advance_212 (tgt := 240) (by decide) ?_
                      have fe_3375 : fld (f_3369 a_0) 8 = (v_3330 : Int32).toInt := by rw [hf_3370]; rfl
                      have fe_3376 : fld (f_3369 a_0) 9 = (v_3332 : Int32).toInt := by rw [hf_3370]; rfl
                      have fe_3377 : fld (f_3369 a_0) 8 = (v_3330 : Int32).toInt := by rw [hf_3370]; rfl
                      have fe_3378 : fld (f_3369 a_0) 9 = (v_3332 : Int32).toInt := by rw [hf_3370]; rfl
                      have fe_3379 : fld (f_3369 a_0) 10 = (2 : Int32).toInt := by rw [hf_3370]; rfl
                      simp only [Int32.reduceToInt] at fe_3379
                      have fe_3380 : fld (f_3369 a_0) 12 = (v_3337 : Int32).toInt := by rw [hf_3370]; rfl
                      have fe_3381 : fld (f_3369 a_0) 20 = (v_3341 : Int32).toInt := by rw [hf_3370]; rfl
                      exact hR _ _ _ _ _ _ dX12_advance_240 (Nat.le_of_ble_eq_true rfl) (Nat.le_of_ble_eq_true rfl) ⟨rfl, hW_3372, (((((((hF_2812.tr fr_2901).tr fr_2991).tr fr_3035).tr fr_3044).tr hF_3314).tr fr_3374).mono rfl), (by simp only [fe_3375, fe_3376, mz_41, true_and, and_true, or_true, true_or, false_or, or_false, false_and, and_false, not_true_eq_false, not_false_eq_true] <;> first | omega | (simp only [Int32.lt_iff_toInt_lt, Int32.le_iff_toInt_le, Int32.reduceToInt, ← Int32.toInt_inj, true_and, and_true, or_true, true_or, false_or, or_false, false_and, and_false, not_true_eq_false, not_false_eq_true] <;> omega)), (by simp only [fe_3377, fe_3378, fe_3379, true_and, and_true, or_true, true_or, false_or, or_false, false_and, and_false, not_true_eq_false, not_false_eq_true] <;> first | omega | (simp only [Int32.lt_iff_toInt_lt, Int32.le_iff_toInt_le, Int32.reduceToInt, ← Int32.toInt_inj, true_and, and_true, or_true, true_or, false_or, or_false, false_and, and_false, not_true_eq_false, not_false_eq_true] <;> omega)), (by simp only [fe_3380, mz_42, true_and, and_true, or_true, true_or, false_or, or_false, false_and, and_false, not_true_eq_false, not_false_eq_true] <;> first | omega | (simp only [Int32.lt_iff_toInt_lt, Int32.le_iff_toInt_le, Int32.reduceToInt, ← Int32.toInt_inj, true_and, and_true, or_true, true_or, false_or, or_false, false_and, and_false, not_true_eq_false, not_false_eq_true] <;> omega)), (by simp only [fe_3381, mz_43, true_and, and_true, or_true, true_or, false_or, or_false, false_and, and_false, not_true_eq_false, not_false_eq_true] <;> first | omega | (simp only [Int32.lt_iff_toInt_lt, Int32.le_iff_toInt_le, Int32.reduceToInt, ← Int32.toInt_inj, true_and, and_true, or_true, true_or, false_or, or_false, false_and, and_false, not_true_eq_false, not_false_eq_true] <;> omega))⟩
                    · simp only [Int32.lt_iff_toInt_lt, Int32.le_iff_toInt_le, Int32.reduceToInt, ← Int32.toInt_inj] at h_3368
                      refine v_aload_n hC dX12_advance_165 rfl ?_
                      refine v_sipush hC dX12_advance_166 (v := 9999) (by decide) ?_
                      refine v_bipush hC dX12_advance_169 (v := 10) (by decide) ?_
                      refine v_aload_n hC dX12_advance_171 rfl ?_
                      refine v_get hC fl_X12_131 m_1 e_3324 rfl dX12_advance_172 ?_
                      obtain ⟨v_3382, h_3383⟩ : ∃ v9 : Int32, (10 : Int32) * v_3336 = v9 := ⟨_, rfl⟩
                      refine v_imul hC dX12_advance_175 h_3383 ?_
                      refine v_aload_n hC dX12_advance_176 rfl ?_
                      refine v_aload_n hC dX12_advance_177 rfl ?_
                      refine v_get hC fl_X12_108 m_1 e_3324 rfl dX12_advance_178 ?_
                      refine v_vi hC (rest := [.int v_3382, .int 9999, .ref a_0]) m_1 e_3324 rfl mi_X12_see ms_X12_see (p_X12_see hW_3313 k_0 (by first | omega | (simp only [Int32.lt_iff_toInt_lt, Int32.le_iff_toInt_le, Int32.reduceToInt, ← Int32.toInt_inj, true_and, and_true, or_true, true_or, false_or, or_false, false_and, and_false, not_true_eq_false, not_false_eq_true] <;> omega))) mx_X12_see ml_X12_114 (by decide) rfl (cells1 := 0) (slots1 := 0) (by decide) (by decide) (Nat.le_of_ble_eq_true rfl) (Nat.le_of_ble_eq_true rfl) rfl (Nat.le_of_ble_eq_true rfl) dX12_advance_181 (fun r_3385 L_3386 f_3387 h_3388 => ?_)
                      obtain ⟨rfl, rfl, rfl⟩ := h_3388
                      have sb_3391 := sv_b (f_3312 a_0) (f_3312 (q 4)) v_3330
                      have fe_3392 : fld (f_3312 a_0) 7 = (v_3328 : Int32).toInt := by rw [e_3324]; rfl
                      rw [fe_3392] at sb_3391
                      obtain ⟨v_3393, h_3394⟩ : ∃ v9 : Int32, v_3382 + (sv (f_3312 a_0) (f_3312 (q 4)) v_3330) = v9 := ⟨_, rfl⟩
                      refine v_iadd hC dX12_advance_184 h_3394 ?_
                      refine v_bipush hC dX12_advance_185 (v := 48) (by decide) ?_
                      obtain ⟨v_3396, h_3397⟩ : ∃ v9 : Int32, v_3393 - 48 = v9 := ⟨_, rfl⟩
                      refine v_isub hC dX12_advance_187 h_3397 ?_
                      obtain ⟨v_3399, h_3400⟩ : ∃ v9 : Int32, (if v_3396 < (9999 : Int32) then v_3396 else (9999 : Int32)) = v9 := ⟨_, rfl⟩
                      refine v_mmin hC mm_X12_134 mm_smin mm_i mm_cmin (by decide) (Nat.le_of_ble_eq_true rfl) (Nat.le_of_ble_eq_true rfl) (Nat.le_of_ble_eq_true rfl) h_3400 dX12_advance_188 ?_
                      have b_3401 := min_v h_3400
                      try simp only [Int32.reduceToInt] at b_3401
                      refine v_put hC fl_X12_131 m_1 e_3324 rfl rfl (Nat.le_of_ble_eq_true rfl) (fs' := [.int v_3325, .ref (q 1), .ref (q 2), .ref (q 3), .ref (q 4), .int v_3326, .ref (q 6), .int v_3328, .int v_3330, .int v_3332, .int v_3334, .int v_3399, .int v_3337, .int v_3338, .ref (q 14), .ref (q 15), .ref (q 16), .int v_3339, .ref (q 18), .ref (q 19), .int v_3341, .ref (q 21), .ref (q 22), .ref (q 23), .ref (q 24), .ref (q 25), .ref (q 26), .ref (q 27), .ref (q 28)]) rfl dX12_advance_191 (fun f_3402 hf_3403 hk_3404 => ?_)
                      have hW_3405 := hW_3313.up hf_3403 hk_3404 t_2 ⟨v_3325, v_3326, v_3328, v_3330, v_3332, v_3334, v_3399, v_3337, v_3338, v_3339, v_3341, rfl, (by first | omega | (simp only [Int32.lt_iff_toInt_lt, Int32.le_iff_toInt_le, Int32.reduceToInt, ← Int32.toInt_inj, true_and, and_true, or_true, true_or, false_or, or_false, false_and, and_false, not_true_eq_false, not_false_eq_true] <;> omega)), (by first | omega | (simp only [Int32.lt_iff_toInt_lt, Int32.le_iff_toInt_le, Int32.reduceToInt, ← Int32.toInt_inj, true_and, and_true, or_true, true_or, false_or, or_false, false_and, and_false, not_true_eq_false, not_false_eq_true] <;> omega)), (by first | omega | (simp only [Int32.lt_iff_toInt_lt, Int32.le_iff_toInt_le, Int32.reduceToInt, ← Int32.toInt_inj, true_and, and_true, or_true, true_or, false_or, or_false, false_and, and_false, not_true_eq_false, not_false_eq_true] <;> omega)), (by first | omega | (simp only [Int32.lt_iff_toInt_lt, Int32.le_iff_toInt_le, Int32.reduceToInt, ← Int32.toInt_inj, true_and, and_true, or_true, true_or, false_or, or_false, false_and, and_false, not_true_eq_false, not_false_eq_true] <;> omega)), (by first | omega | (simp only [Int32.lt_iff_toInt_lt, Int32.le_iff_toInt_le, Int32.reduceToInt, ← Int32.toInt_inj, true_and, and_true, or_true, true_or, false_or, or_false, false_and, and_false, not_true_eq_false, not_false_eq_true] <;> omega)), (by first | omega | (simp only [Int32.lt_iff_toInt_lt, Int32.le_iff_toInt_le, Int32.reduceToInt, ← Int32.toInt_inj, true_and, and_true, or_true, true_or, false_or, or_false, false_and, and_false, not_true_eq_false, not_false_eq_true] <;> omega)), (by first | omega | (simp only [Int32.lt_iff_toInt_lt, Int32.le_iff_toInt_le, Int32.reduceToInt, ← Int32.toInt_inj, true_and, and_true, or_true, true_or, false_or, or_false, false_and, and_false, not_true_eq_false, not_false_eq_true] <;> omega))⟩
                      have hf_3406 := (hk_3404 (q 4) (ne_kd hf_3315 e_3324 rfl)).trans hf_3315
                      have fr_3407 := FR.w hk_3404 e_3324 (k := 12) rfl
                      refine v_aload_n hC dX12_advance_194 rfl ?_
                      refine v_dup hC dX12_advance_195 rfl ?_
                      refine v_get hC fl_X12_108 m_1 hf_3403 rfl dX12_advance_196 ?_
                      refine v_iconst hC dX12_advance_199 (v := 1) (by decide) ?_
                      obtain ⟨v_3408, h_3409⟩ : ∃ v9 : Int32, v_3330 + 1 = v9 := ⟨_, rfl⟩
                      refine v_iadd hC dX12_advance_200 h_3409 ?_
                      have h_3410 := add_v h_3409 (by first | omega | (simp only [Int32.lt_iff_toInt_lt, Int32.le_iff_toInt_le, Int32.reduceToInt, ← Int32.toInt_inj, true_and, and_true, or_true, true_or, false_or, or_false, false_and, and_false, not_true_eq_false, not_false_eq_true] <;> omega)) (by first | omega | (simp only [Int32.lt_iff_toInt_lt, Int32.le_iff_toInt_le, Int32.reduceToInt, ← Int32.toInt_inj, true_and, and_true, or_true, true_or, false_or, or_false, false_and, and_false, not_true_eq_false, not_false_eq_true] <;> omega))
                      try simp only [Int32.reduceToInt] at h_3410
                      refine v_put hC fl_X12_108 m_1 hf_3403 rfl rfl (Nat.le_of_ble_eq_true rfl) (fs' := [.int v_3325, .ref (q 1), .ref (q 2), .ref (q 3), .ref (q 4), .int v_3326, .ref (q 6), .int v_3328, .int v_3408, .int v_3332, .int v_3334, .int v_3399, .int v_3337, .int v_3338, .ref (q 14), .ref (q 15), .ref (q 16), .int v_3339, .ref (q 18), .ref (q 19), .int v_3341, .ref (q 21), .ref (q 22), .ref (q 23), .ref (q 24), .ref (q 25), .ref (q 26), .ref (q 27), .ref (q 28)]) rfl dX12_advance_201 (fun f_3411 hf_3412 hk_3413 => ?_)
                      have hW_3414 := hW_3405.up hf_3412 hk_3413 t_2 ⟨v_3325, v_3326, v_3328, v_3408, v_3332, v_3334, v_3399, v_3337, v_3338, v_3339, v_3341, rfl, (by first | omega | (simp only [Int32.lt_iff_toInt_lt, Int32.le_iff_toInt_le, Int32.reduceToInt, ← Int32.toInt_inj, true_and, and_true, or_true, true_or, false_or, or_false, false_and, and_false, not_true_eq_false, not_false_eq_true] <;> omega)), (by first | omega | (simp only [Int32.lt_iff_toInt_lt, Int32.le_iff_toInt_le, Int32.reduceToInt, ← Int32.toInt_inj, true_and, and_true, or_true, true_or, false_or, or_false, false_and, and_false, not_true_eq_false, not_false_eq_true] <;> omega)), (by first | omega | (simp only [Int32.lt_iff_toInt_lt, Int32.le_iff_toInt_le, Int32.reduceToInt, ← Int32.toInt_inj, true_and, and_true, or_true, true_or, false_or, or_false, false_and, and_false, not_true_eq_false, not_false_eq_true] <;> omega)), (by first | omega | (simp only [Int32.lt_iff_toInt_lt, Int32.le_iff_toInt_le, Int32.reduceToInt, ← Int32.toInt_inj, true_and, and_true, or_true, true_or, false_or, or_false, false_and, and_false, not_true_eq_false, not_false_eq_true] <;> omega)), (by first | omega | (simp only [Int32.lt_iff_toInt_lt, Int32.le_iff_toInt_le, Int32.reduceToInt, ← Int32.toInt_inj, true_and, and_true, or_true, true_or, false_or, or_false, false_and, and_false, not_true_eq_false, not_false_eq_true] <;> omega)), (by first | omega | (simp only [Int32.lt_iff_toInt_lt, Int32.le_iff_toInt_le, Int32.reduceToInt, ← Int32.toInt_inj, true_and, and_true, or_true, true_or, false_or, or_false, false_and, and_false, not_true_eq_false, not_false_eq_true] <;> omega)), (by first | omega | (simp only [Int32.lt_iff_toInt_lt, Int32.le_iff_toInt_le, Int32.reduceToInt, ← Int32.toInt_inj, true_and, and_true, or_true, true_or, false_or, or_false, false_and, and_false, not_true_eq_false, not_false_eq_true] <;> omega))⟩
                      have hf_3415 := (hk_3413 (q 4) (ne_kd hf_3406 hf_3403 rfl)).trans hf_3406
                      have fr_3416 := FR.w hk_3413 hf_3403 (k := 12) rfl
                      refine v_goto hC dX12_advance_204 (tgt := 144) (by decide) ?_
                      refine v_pick [0] rfl ?_
                      have fe_3417 : fld (f_3411 a_0) 9 = (v_3332 : Int32).toInt := by rw [hf_3412]; rfl
                      have fe_3418 : fld (f_3411 a_0) 8 = (v_3408 : Int32).toInt := by rw [hf_3412]; rfl
                      have fe_3419 : fld (f_3411 a_0) 9 = (v_3332 : Int32).toInt := by rw [hf_3412]; rfl
                      have fe_3420 : fld (f_3411 a_0) 12 = (v_3337 : Int32).toInt := by rw [hf_3412]; rfl
                      have fe_3421 : fld (f_3411 a_0) 20 = (v_3341 : Int32).toInt := by rw [hf_3412]; rfl
                      have h_3422 : fld (f_3411 a_0) 8 = (v_3408 : Int32).toInt := by rw [hf_3412]; rfl
                      exact ih_3322 f_3411 hW_3414 (((hF_3314.tr fr_3407).tr fr_3416).mono rfl) (by rw [fe_3417] <;> first | omega | (simp only [Int32.lt_iff_toInt_lt, Int32.le_iff_toInt_le, Int32.reduceToInt, ← Int32.toInt_inj, true_and, and_true, or_true, true_or, false_or, or_false, false_and, and_false, not_true_eq_false, not_false_eq_true] <;> omega)) (by rw [fe_3418, fe_3419] <;> first | omega | (simp only [Int32.lt_iff_toInt_lt, Int32.le_iff_toInt_le, Int32.reduceToInt, ← Int32.toInt_inj, true_and, and_true, or_true, true_or, false_or, or_false, false_and, and_false, not_true_eq_false, not_false_eq_true] <;> omega)) (by rw [fe_3420] <;> first | omega | (simp only [Int32.lt_iff_toInt_lt, Int32.le_iff_toInt_le, Int32.reduceToInt, ← Int32.toInt_inj, true_and, and_true, or_true, true_or, false_or, or_false, false_and, and_false, not_true_eq_false, not_false_eq_true] <;> omega)) (by rw [fe_3421] <;> first | omega | (simp only [Int32.lt_iff_toInt_lt, Int32.le_iff_toInt_le, Int32.reduceToInt, ← Int32.toInt_inj, true_and, and_true, or_true, true_or, false_or, or_false, false_and, and_false, not_true_eq_false, not_false_eq_true] <;> omega)) (by rw [h_3422]; omega)
                refine v_pick [1] rfl ?_
                have fe_3423 : fld (f_3039 a_0) 9 = (v_2826 : Int32).toInt := by rw [hf_3040]; rfl
                have fe_3424 : fld (f_3039 a_0) 8 = (v_3036 : Int32).toInt := by rw [hf_3040]; rfl
                have fe_3425 : fld (f_3039 a_0) 9 = (v_2826 : Int32).toInt := by rw [hf_3040]; rfl
                have fe_3426 : fld (f_3039 a_0) 12 = (v_2833 : Int32).toInt := by rw [hf_3040]; rfl
                have fe_3427 : fld (f_3039 a_0) 20 = (v_2837 : Int32).toInt := by rw [hf_3040]; rfl
                have h_3428 : fld (f_3039 a_0) 8 = (v_3036 : Int32).toInt := by rw [hf_3040]; rfl
                exact lp_3320 602 f_3039 hW_3042 FR.rf (by rw [fe_3423] <;> first | omega | (simp only [Int32.lt_iff_toInt_lt, Int32.le_iff_toInt_le, Int32.reduceToInt, ← Int32.toInt_inj, true_and, and_true, or_true, true_or, false_or, or_false, false_and, and_false, not_true_eq_false, not_false_eq_true] <;> omega)) (by rw [fe_3424, fe_3425] <;> first | omega | (simp only [Int32.lt_iff_toInt_lt, Int32.le_iff_toInt_le, Int32.reduceToInt, ← Int32.toInt_inj, true_and, and_true, or_true, true_or, false_or, or_false, false_and, and_false, not_true_eq_false, not_false_eq_true] <;> omega)) (by rw [fe_3426] <;> first | omega | (simp only [Int32.lt_iff_toInt_lt, Int32.le_iff_toInt_le, Int32.reduceToInt, ← Int32.toInt_inj, true_and, and_true, or_true, true_or, false_or, or_false, false_and, and_false, not_true_eq_false, not_false_eq_true] <;> omega)) (by rw [fe_3427] <;> first | omega | (simp only [Int32.lt_iff_toInt_lt, Int32.le_iff_toInt_le, Int32.reduceToInt, ← Int32.toInt_inj, true_and, and_true, or_true, true_or, false_or, or_false, false_and, and_false, not_true_eq_false, not_false_eq_true] <;> omega)) (by rw [h_3428]; omega)
            · simp only [Int32.lt_iff_toInt_lt, Int32.le_iff_toInt_le, Int32.reduceToInt, ← Int32.toInt_inj] at h_2928
              refine v_aload_n hC dX12_advance_83 rfl ?_
              refine v_aload_n hC dX12_advance_84 rfl ?_
              refine v_get hC fl_X12_108 m_1 hf_2898 rfl dX12_advance_85 ?_
              refine v_vi hC (rest := []) m_1 hf_2898 rfl mi_X12_see ms_X12_see (p_X12_see hW_2900 k_0 (by first | omega | (simp only [Int32.lt_iff_toInt_lt, Int32.le_iff_toInt_le, Int32.reduceToInt, ← Int32.toInt_inj, true_and, and_true, or_true, true_or, false_or, or_false, false_and, and_false, not_true_eq_false, not_false_eq_true] <;> omega))) mx_X12_see ml_X12_114 (by decide) rfl (cells1 := 0) (slots1 := 0) (by decide) (by decide) (Nat.le_of_ble_eq_true rfl) (Nat.le_of_ble_eq_true rfl) rfl (Nat.le_of_ble_eq_true rfl) dX12_advance_88 (fun r_3429 L_3430 f_3431 h_3432 => ?_)
              obtain ⟨rfl, rfl, rfl⟩ := h_3432
              have sb_3435 := sv_b (f_2897 a_0) (f_2897 (q 4)) v_2826
              have fe_3436 : fld (f_2897 a_0) 7 = (v_2824 : Int32).toInt := by rw [hf_2898]; rfl
              rw [fe_3436] at sb_3435
              obtain ⟨v_3437, h_3438⟩ : ∃ v9 : Int64, (sv (f_2897 a_0) (f_2897 (q 4)) v_2826).toInt64 = v9 := ⟨_, rfl⟩
              refine v_i2l hC dX12_advance_91 h_3438 ?_
              have h_3439 : v_3437.toInt = (sv (f_2897 a_0) (f_2897 (q 4)) v_2826).toInt := by rw [← h_3438]; exact Int32.toInt_toInt64 _
              refine v_ldc2 hC kl_X12_123 dX12_advance_92 ?_
              refine v_ldc2 hC kl_X12_125 dX12_advance_95 ?_
              refine v_si hC (rest := []) mt_X12_in (p_X12_in hW_2900) mx_X12_in ml_X12_79 (by decide) rfl (cells1 := 0) (slots1 := 0) (by decide) (by decide) (Nat.le_of_ble_eq_true rfl) (Nat.le_of_ble_eq_true rfl) rfl (Nat.le_of_ble_eq_true rfl) dX12_advance_98 (fun r_3440 L_3441 f_3442 h_3443 => ?_)
              obtain ⟨rfl, rfl, b_3444, x_3445⟩ := h_3443
              try simp only [Int32.reduceToInt, Int64.reduceToInt] at x_3445
              refine v_if_eq_f hC dX12_advance_101 (tgt := 117) (by decide) (by first | omega | (simp only [Int32.lt_iff_toInt_lt, Int32.le_iff_toInt_le, Int32.reduceToInt, ← Int32.toInt_inj, true_and, and_true, or_true, true_or, false_or, or_false, false_and, and_false, not_true_eq_false, not_false_eq_true] <;> omega)) ?_
              refine v_aload_n hC dX12_advance_104 rfl ?_
              refine v_dup hC dX12_advance_105 rfl ?_
              refine v_get hC fl_X12_108 m_1 hf_2898 rfl dX12_advance_106 ?_
              refine v_iconst hC dX12_advance_109 (v := 1) (by decide) ?_
              obtain ⟨v_3448, h_3449⟩ : ∃ v9 : Int32, v_2826 + 1 = v9 := ⟨_, rfl⟩
              refine v_iadd hC dX12_advance_110 h_3449 ?_
              have h_3450 := add_v h_3449 (by first | omega | (simp only [Int32.lt_iff_toInt_lt, Int32.le_iff_toInt_le, Int32.reduceToInt, ← Int32.toInt_inj, true_and, and_true, or_true, true_or, false_or, or_false, false_and, and_false, not_true_eq_false, not_false_eq_true] <;> omega)) (by first | omega | (simp only [Int32.lt_iff_toInt_lt, Int32.le_iff_toInt_le, Int32.reduceToInt, ← Int32.toInt_inj, true_and, and_true, or_true, true_or, false_or, or_false, false_and, and_false, not_true_eq_false, not_false_eq_true] <;> omega))
              try simp only [Int32.reduceToInt] at h_3450
              refine v_put hC fl_X12_108 m_1 hf_2898 rfl rfl (Nat.le_of_ble_eq_true rfl) (fs' := [.int v_2821, .ref (q 1), .ref (q 2), .ref (q 3), .ref (q 4), .int v_2822, .ref (q 6), .int v_2824, .int v_3448, .int v_2826, .int v_2830, .int v_2832, .int v_2833, .int v_2834, .ref (q 14), .ref (q 15), .ref (q 16), .int v_2835, .ref (q 18), .ref (q 19), .int v_2837, .ref (q 21), .ref (q 22), .ref (q 23), .ref (q 24), .ref (q 25), .ref (q 26), .ref (q 27), .ref (q 28)]) rfl dX12_advance_111 (fun f_3451 hf_3452 hk_3453 => ?_)
              have hW_3454 := hW_2900.up hf_3452 hk_3453 t_2 ⟨v_2821, v_2822, v_2824, v_3448, v_2826, v_2830, v_2832, v_2833, v_2834, v_2835, v_2837, rfl, (by first | omega | (simp only [Int32.lt_iff_toInt_lt, Int32.le_iff_toInt_le, Int32.reduceToInt, ← Int32.toInt_inj, true_and, and_true, or_true, true_or, false_or, or_false, false_and, and_false, not_true_eq_false, not_false_eq_true] <;> omega)), (by first | omega | (simp only [Int32.lt_iff_toInt_lt, Int32.le_iff_toInt_le, Int32.reduceToInt, ← Int32.toInt_inj, true_and, and_true, or_true, true_or, false_or, or_false, false_and, and_false, not_true_eq_false, not_false_eq_true] <;> omega)), (by first | omega | (simp only [Int32.lt_iff_toInt_lt, Int32.le_iff_toInt_le, Int32.reduceToInt, ← Int32.toInt_inj, true_and, and_true, or_true, true_or, false_or, or_false, false_and, and_false, not_true_eq_false, not_false_eq_true] <;> omega)), (by first | omega | (simp only [Int32.lt_iff_toInt_lt, Int32.le_iff_toInt_le, Int32.reduceToInt, ← Int32.toInt_inj, true_and, and_true, or_true, true_or, false_or, or_false, false_and, and_false, not_true_eq_false, not_false_eq_true] <;> omega)), (by first | omega | (simp only [Int32.lt_iff_toInt_lt, Int32.le_iff_toInt_le, Int32.reduceToInt, ← Int32.toInt_inj, true_and, and_true, or_true, true_or, false_or, or_false, false_and, and_false, not_true_eq_false, not_false_eq_true] <;> omega)), (by first | omega | (simp only [Int32.lt_iff_toInt_lt, Int32.le_iff_toInt_le, Int32.reduceToInt, ← Int32.toInt_inj, true_and, and_true, or_true, true_or, false_or, or_false, false_and, and_false, not_true_eq_false, not_false_eq_true] <;> omega)), (by first | omega | (simp only [Int32.lt_iff_toInt_lt, Int32.le_iff_toInt_le, Int32.reduceToInt, ← Int32.toInt_inj, true_and, and_true, or_true, true_or, false_or, or_false, false_and, and_false, not_true_eq_false, not_false_eq_true] <;> omega))⟩
              have hf_3455 := (hk_3453 (q 4) (ne_kd e_2912 hf_2898 rfl)).trans e_2912
              have fr_3456 := FR.w hk_3453 hf_2898 (k := 12) rfl
              refine v_goto hC dX12_advance_114 (tgt := 83) (by decide) ?_
              have lp_3654 : ∀ (n_3655 : Nat) (f_3646 : Nat → va_E) (hW_3647 : WT T L f_3646) (hF_3648 : FR [12] f_3451 f_3646)  (nv_3650 : v_28.toInt ≤ fld (f_3646 a_0) 9) (nv_3651 : fld (f_3646 a_0) 9 < fld (f_3646 a_0) 8) (nv_3652 : fld (f_3646 a_0) 12 = v_35.toInt) (nv_3653 : fld (f_3646 a_0) 20 = v_39.toInt) (hm_3657 : 600 - fld (f_3646 a_0) 8 < (n_3655 : Int)), V z E 2 0 0 L f_3646 83 [(0, .ref a_0)] [] := by
                intro n_3655
                induction n_3655 with
                | zero =>
                  intro f_3646 hW_3647 hF_3648 nv_3650 nv_3651 nv_3652 nv_3653 hm_3657
                  have hf_3649 := hF_3648.at hf_3455 rfl
                  obtain ⟨v_3659, v_3660, v_3662, v_3664, v_3666, v_3668, v_3670, v_3671, v_3672, v_3673, v_3675, e_3658, b_3661, b_3663, b_3665, b_3667, b_3669, b_3674, b_3676⟩ := hW_3647.at m_1 t_2
                  have fe_3677 : fld (f_3646 a_0) 9 = (v_3666 : Int32).toInt := by rw [e_3658]; rfl
                  rw [fe_3677] at nv_3650
                  have fe_3678 : fld (f_3646 a_0) 8 = (v_3664 : Int32).toInt := by rw [e_3658]; rfl
                  have fe_3679 : fld (f_3646 a_0) 9 = (v_3666 : Int32).toInt := by rw [e_3658]; rfl
                  rw [fe_3678, fe_3679] at nv_3651
                  have fe_3680 : fld (f_3646 a_0) 12 = (v_3671 : Int32).toInt := by rw [e_3658]; rfl
                  rw [fe_3680] at nv_3652
                  have fe_3681 : fld (f_3646 a_0) 20 = (v_3675 : Int32).toInt := by rw [e_3658]; rfl
                  rw [fe_3681] at nv_3653
                  have h_3682 : fld (f_3646 a_0) 8 = (v_3664 : Int32).toInt := by rw [e_3658]; rfl
                  rw [h_3682] at hm_3657
                  exfalso; omega
                | succ n_3655 ih_3656 =>
                  intro f_3646 hW_3647 hF_3648 nv_3650 nv_3651 nv_3652 nv_3653 hm_3657
                  have hf_3649 := hF_3648.at hf_3455 rfl
                  obtain ⟨v_3659, v_3660, v_3662, v_3664, v_3666, v_3668, v_3670, v_3671, v_3672, v_3673, v_3675, e_3658, b_3661, b_3663, b_3665, b_3667, b_3669, b_3674, b_3676⟩ := hW_3647.at m_1 t_2
                  have fe_3677 : fld (f_3646 a_0) 9 = (v_3666 : Int32).toInt := by rw [e_3658]; rfl
                  rw [fe_3677] at nv_3650
                  have fe_3678 : fld (f_3646 a_0) 8 = (v_3664 : Int32).toInt := by rw [e_3658]; rfl
                  have fe_3679 : fld (f_3646 a_0) 9 = (v_3666 : Int32).toInt := by rw [e_3658]; rfl
                  rw [fe_3678, fe_3679] at nv_3651
                  have fe_3680 : fld (f_3646 a_0) 12 = (v_3671 : Int32).toInt := by rw [e_3658]; rfl
                  rw [fe_3680] at nv_3652
                  have fe_3681 : fld (f_3646 a_0) 20 = (v_3675 : Int32).toInt := by rw [e_3658]; rfl
                  rw [fe_3681] at nv_3653
                  have h_3682 : fld (f_3646 a_0) 8 = (v_3664 : Int32).toInt := by rw [e_3658]; rfl
                  rw [h_3682] at hm_3657
                  refine v_aload_n hC dX12_advance_83 rfl ?_
                  refine v_aload_n hC dX12_advance_84 rfl ?_
                  refine v_get hC fl_X12_108 m_1 e_3658 rfl dX12_advance_85 ?_
                  refine v_vi hC (rest := []) m_1 e_3658 rfl mi_X12_see ms_X12_see (p_X12_see hW_3647 k_0 (by first | omega | (simp only [Int32.lt_iff_toInt_lt, Int32.le_iff_toInt_le, Int32.reduceToInt, ← Int32.toInt_inj, true_and, and_true, or_true, true_or, false_or, or_false, false_and, and_false, not_true_eq_false, not_false_eq_true] <;> omega))) mx_X12_see ml_X12_114 (by decide) rfl (cells1 := 0) (slots1 := 0) (by decide) (by decide) (Nat.le_of_ble_eq_true rfl) (Nat.le_of_ble_eq_true rfl) rfl (Nat.le_of_ble_eq_true rfl) dX12_advance_88 (fun r_3683 L_3684 f_3685 h_3686 => ?_)
                  obtain ⟨rfl, rfl, rfl⟩ := h_3686
                  have sb_3689 := sv_b (f_3646 a_0) (f_3646 (q 4)) v_3664
                  have fe_3690 : fld (f_3646 a_0) 7 = (v_3662 : Int32).toInt := by rw [e_3658]; rfl
                  rw [fe_3690] at sb_3689
                  obtain ⟨v_3691, h_3692⟩ : ∃ v9 : Int64, (sv (f_3646 a_0) (f_3646 (q 4)) v_3664).toInt64 = v9 := ⟨_, rfl⟩
                  refine v_i2l hC dX12_advance_91 h_3692 ?_
                  have h_3693 : v_3691.toInt = (sv (f_3646 a_0) (f_3646 (q 4)) v_3664).toInt := by rw [← h_3692]; exact Int32.toInt_toInt64 _
                  refine v_ldc2 hC kl_X12_123 dX12_advance_92 ?_
                  refine v_ldc2 hC kl_X12_125 dX12_advance_95 ?_
                  refine v_si hC (rest := []) mt_X12_in (p_X12_in hW_3647) mx_X12_in ml_X12_79 (by decide) rfl (cells1 := 0) (slots1 := 0) (by decide) (by decide) (Nat.le_of_ble_eq_true rfl) (Nat.le_of_ble_eq_true rfl) rfl (Nat.le_of_ble_eq_true rfl) dX12_advance_98 (fun r_3694 L_3695 f_3696 h_3697 => ?_)
                  obtain ⟨rfl, rfl, b_3698, x_3699⟩ := h_3697
                  try simp only [Int32.reduceToInt, Int64.reduceToInt] at x_3699
                  refine v_if_eq hC dX12_advance_101 (tgt := 117) (by decide) (fun h_3702 => ?_) (fun h_3702 => ?_)
                  · simp only [Int32.lt_iff_toInt_lt, Int32.le_iff_toInt_le, Int32.reduceToInt, ← Int32.toInt_inj] at h_3702
                    refine v_aload_n hC dX12_advance_117 rfl ?_
                    refine v_iconst hC dX12_advance_118 (v := 1) (by decide) ?_
                    refine v_put hC fl_X12_120 m_1 e_3658 rfl rfl (Nat.le_of_ble_eq_true rfl) (fs' := [.int v_3659, .ref (q 1), .ref (q 2), .ref (q 3), .ref (q 4), .int v_3660, .ref (q 6), .int v_3662, .int v_3664, .int v_3666, .int 1, .int v_3670, .int v_3671, .int v_3672, .ref (q 14), .ref (q 15), .ref (q 16), .int v_3673, .ref (q 18), .ref (q 19), .int v_3675, .ref (q 21), .ref (q 22), .ref (q 23), .ref (q 24), .ref (q 25), .ref (q 26), .ref (q 27), .ref (q 28)]) rfl dX12_advance_119 (fun f_3703 hf_3704 hk_3705 => ?_)
                    have hW_3706 := hW_3647.up hf_3704 hk_3705 t_2 ⟨v_3659, v_3660, v_3662, v_3664, v_3666, 1, v_3670, v_3671, v_3672, v_3673, v_3675, rfl, (by first | omega | (simp only [Int32.lt_iff_toInt_lt, Int32.le_iff_toInt_le, Int32.reduceToInt, ← Int32.toInt_inj, true_and, and_true, or_true, true_or, false_or, or_false, false_and, and_false, not_true_eq_false, not_false_eq_true] <;> omega)), (by first | omega | (simp only [Int32.lt_iff_toInt_lt, Int32.le_iff_toInt_le, Int32.reduceToInt, ← Int32.toInt_inj, true_and, and_true, or_true, true_or, false_or, or_false, false_and, and_false, not_true_eq_false, not_false_eq_true] <;> omega)), (by first | omega | (simp only [Int32.lt_iff_toInt_lt, Int32.le_iff_toInt_le, Int32.reduceToInt, ← Int32.toInt_inj, true_and, and_true, or_true, true_or, false_or, or_false, false_and, and_false, not_true_eq_false, not_false_eq_true] <;> omega)), (by first | omega | (simp only [Int32.lt_iff_toInt_lt, Int32.le_iff_toInt_le, Int32.reduceToInt, ← Int32.toInt_inj, true_and, and_true, or_true, true_or, false_or, or_false, false_and, and_false, not_true_eq_false, not_false_eq_true] <;> omega)), (by decide), (by first | omega | (simp only [Int32.lt_iff_toInt_lt, Int32.le_iff_toInt_le, Int32.reduceToInt, ← Int32.toInt_inj, true_and, and_true, or_true, true_or, false_or, or_false, false_and, and_false, not_true_eq_false, not_false_eq_true] <;> omega)), (by first | omega | (simp only [Int32.lt_iff_toInt_lt, Int32.le_iff_toInt_le, Int32.reduceToInt, ← Int32.toInt_inj, true_and, and_true, or_true, true_or, false_or, or_false, false_and, and_false, not_true_eq_false, not_false_eq_true] <;> omega))⟩
                    have hf_3707 := (hk_3705 (q 4) (ne_kd hf_3649 e_3658 rfl)).trans hf_3649
                    have fr_3708 := FR.w hk_3705 e_3658 (k := 12) rfl
                    refine v_goto hC dX12_advance_122 (tgt := 240) (by decide) ?_
                    have fe_3709 : fld (f_3703 a_0) 8 = (v_3664 : Int32).toInt := by rw [hf_3704]; rfl
                    have fe_3710 : fld (f_3703 a_0) 9 = (v_3666 : Int32).toInt := by rw [hf_3704]; rfl
                    have fe_3711 : fld (f_3703 a_0) 8 = (v_3664 : Int32).toInt := by rw [hf_3704]; rfl
                    have fe_3712 : fld (f_3703 a_0) 9 = (v_3666 : Int32).toInt := by rw [hf_3704]; rfl
                    have fe_3713 : fld (f_3703 a_0) 10 = (1 : Int32).toInt := by rw [hf_3704]; rfl
                    simp only [Int32.reduceToInt] at fe_3713
                    have fe_3714 : fld (f_3703 a_0) 12 = (v_3671 : Int32).toInt := by rw [hf_3704]; rfl
                    have fe_3715 : fld (f_3703 a_0) 20 = (v_3675 : Int32).toInt := by rw [hf_3704]; rfl
                    exact hR _ _ _ _ _ _ dX12_advance_240 (Nat.le_of_ble_eq_true rfl) (Nat.le_of_ble_eq_true rfl) ⟨rfl, hW_3706, (((((hF_2812.tr fr_2901).tr fr_3456).tr hF_3648).tr fr_3708).mono rfl), (by simp only [fe_3709, fe_3710, mz_41, true_and, and_true, or_true, true_or, false_or, or_false, false_and, and_false, not_true_eq_false, not_false_eq_true] <;> first | omega | (simp only [Int32.lt_iff_toInt_lt, Int32.le_iff_toInt_le, Int32.reduceToInt, ← Int32.toInt_inj, true_and, and_true, or_true, true_or, false_or, or_false, false_and, and_false, not_true_eq_false, not_false_eq_true] <;> omega)), (by simp only [fe_3711, fe_3712, fe_3713, true_and, and_true, or_true, true_or, false_or, or_false, false_and, and_false, not_true_eq_false, not_false_eq_true] <;> first | omega | (simp only [Int32.lt_iff_toInt_lt, Int32.le_iff_toInt_le, Int32.reduceToInt, ← Int32.toInt_inj, true_and, and_true, or_true, true_or, false_or, or_false, false_and, and_false, not_true_eq_false, not_false_eq_true] <;> omega)), (by simp only [fe_3714, mz_42, true_and, and_true, or_true, true_or, false_or, or_false, false_and, and_false, not_true_eq_false, not_false_eq_true] <;> first | omega | (simp only [Int32.lt_iff_toInt_lt, Int32.le_iff_toInt_le, Int32.reduceToInt, ← Int32.toInt_inj, true_and, and_true, or_true, true_or, false_or, or_false, false_and, and_false, not_true_eq_false, not_false_eq_true] <;> omega)), (by simp only [fe_3715, mz_43, true_and, and_true, or_true, true_or, false_or, or_false, false_and, and_false, not_true_eq_false, not_false_eq_true] <;> first | omega | (simp only [Int32.lt_iff_toInt_lt, Int32.le_iff_toInt_le, Int32.reduceToInt, ← Int32.toInt_inj, true_and, and_true, or_true, true_or, false_or, or_false, false_and, and_false, not_true_eq_false, not_false_eq_true] <;> omega))⟩
                  · simp only [Int32.lt_iff_toInt_lt, Int32.le_iff_toInt_le, Int32.reduceToInt, ← Int32.toInt_inj] at h_3702
                    refine v_aload_n hC dX12_advance_104 rfl ?_
                    refine v_dup hC dX12_advance_105 rfl ?_
                    refine v_get hC fl_X12_108 m_1 e_3658 rfl dX12_advance_106 ?_
                    refine v_iconst hC dX12_advance_109 (v := 1) (by decide) ?_
                    obtain ⟨v_3716, h_3717⟩ : ∃ v9 : Int32, v_3664 + 1 = v9 := ⟨_, rfl⟩
                    refine v_iadd hC dX12_advance_110 h_3717 ?_
                    have h_3718 := add_v h_3717 (by first | omega | (simp only [Int32.lt_iff_toInt_lt, Int32.le_iff_toInt_le, Int32.reduceToInt, ← Int32.toInt_inj, true_and, and_true, or_true, true_or, false_or, or_false, false_and, and_false, not_true_eq_false, not_false_eq_true] <;> omega)) (by first | omega | (simp only [Int32.lt_iff_toInt_lt, Int32.le_iff_toInt_le, Int32.reduceToInt, ← Int32.toInt_inj, true_and, and_true, or_true, true_or, false_or, or_false, false_and, and_false, not_true_eq_false, not_false_eq_true] <;> omega))
                    try simp only [Int32.reduceToInt] at h_3718
                    refine v_put hC fl_X12_108 m_1 e_3658 rfl rfl (Nat.le_of_ble_eq_true rfl) (fs' := [.int v_3659, .ref (q 1), .ref (q 2), .ref (q 3), .ref (q 4), .int v_3660, .ref (q 6), .int v_3662, .int v_3716, .int v_3666, .int v_3668, .int v_3670, .int v_3671, .int v_3672, .ref (q 14), .ref (q 15), .ref (q 16), .int v_3673, .ref (q 18), .ref (q 19), .int v_3675, .ref (q 21), .ref (q 22), .ref (q 23), .ref (q 24), .ref (q 25), .ref (q 26), .ref (q 27), .ref (q 28)]) rfl dX12_advance_111 (fun f_3719 hf_3720 hk_3721 => ?_)
                    have hW_3722 := hW_3647.up hf_3720 hk_3721 t_2 ⟨v_3659, v_3660, v_3662, v_3716, v_3666, v_3668, v_3670, v_3671, v_3672, v_3673, v_3675, rfl, (by first | omega | (simp only [Int32.lt_iff_toInt_lt, Int32.le_iff_toInt_le, Int32.reduceToInt, ← Int32.toInt_inj, true_and, and_true, or_true, true_or, false_or, or_false, false_and, and_false, not_true_eq_false, not_false_eq_true] <;> omega)), (by first | omega | (simp only [Int32.lt_iff_toInt_lt, Int32.le_iff_toInt_le, Int32.reduceToInt, ← Int32.toInt_inj, true_and, and_true, or_true, true_or, false_or, or_false, false_and, and_false, not_true_eq_false, not_false_eq_true] <;> omega)), (by first | omega | (simp only [Int32.lt_iff_toInt_lt, Int32.le_iff_toInt_le, Int32.reduceToInt, ← Int32.toInt_inj, true_and, and_true, or_true, true_or, false_or, or_false, false_and, and_false, not_true_eq_false, not_false_eq_true] <;> omega)), (by first | omega | (simp only [Int32.lt_iff_toInt_lt, Int32.le_iff_toInt_le, Int32.reduceToInt, ← Int32.toInt_inj, true_and, and_true, or_true, true_or, false_or, or_false, false_and, and_false, not_true_eq_false, not_false_eq_true] <;> omega)), (by first | omega | (simp only [Int32.lt_iff_toInt_lt, Int32.le_iff_toInt_le, Int32.reduceToInt, ← Int32.toInt_inj, true_and, and_true, or_true, true_or, false_or, or_false, false_and, and_false, not_true_eq_false, not_false_eq_true] <;> omega)), (by first | omega | (simp only [Int32.lt_iff_toInt_lt, Int32.le_iff_toInt_le, Int32.reduceToInt, ← Int32.toInt_inj, true_and, and_true, or_true, true_or, false_or, or_false, false_and, and_false, not_true_eq_false, not_false_eq_true] <;> omega)), (by first | omega | (simp only [Int32.lt_iff_toInt_lt, Int32.le_iff_toInt_le, Int32.reduceToInt, ← Int32.toInt_inj, true_and, and_true, or_true, true_or, false_or, or_false, false_and, and_false, not_true_eq_false, not_false_eq_true] <;> omega))⟩
                    have hf_3723 := (hk_3721 (q 4) (ne_kd hf_3649 e_3658 rfl)).trans hf_3649
                    have fr_3724 := FR.w hk_3721 e_3658 (k := 12) rfl
                    refine v_goto hC dX12_advance_114 (tgt := 83) (by decide) ?_
                    refine v_pick [0] rfl ?_
                    have fe_3725 : fld (f_3719 a_0) 9 = (v_3666 : Int32).toInt := by rw [hf_3720]; rfl
                    have fe_3726 : fld (f_3719 a_0) 8 = (v_3716 : Int32).toInt := by rw [hf_3720]; rfl
                    have fe_3727 : fld (f_3719 a_0) 9 = (v_3666 : Int32).toInt := by rw [hf_3720]; rfl
                    have fe_3728 : fld (f_3719 a_0) 12 = (v_3671 : Int32).toInt := by rw [hf_3720]; rfl
                    have fe_3729 : fld (f_3719 a_0) 20 = (v_3675 : Int32).toInt := by rw [hf_3720]; rfl
                    have h_3730 : fld (f_3719 a_0) 8 = (v_3716 : Int32).toInt := by rw [hf_3720]; rfl
                    exact ih_3656 f_3719 hW_3722 ((hF_3648.tr fr_3724).mono rfl) (by rw [fe_3725] <;> first | omega | (simp only [Int32.lt_iff_toInt_lt, Int32.le_iff_toInt_le, Int32.reduceToInt, ← Int32.toInt_inj, true_and, and_true, or_true, true_or, false_or, or_false, false_and, and_false, not_true_eq_false, not_false_eq_true] <;> omega)) (by rw [fe_3726, fe_3727] <;> first | omega | (simp only [Int32.lt_iff_toInt_lt, Int32.le_iff_toInt_le, Int32.reduceToInt, ← Int32.toInt_inj, true_and, and_true, or_true, true_or, false_or, or_false, false_and, and_false, not_true_eq_false, not_false_eq_true] <;> omega)) (by rw [fe_3728] <;> first | omega | (simp only [Int32.lt_iff_toInt_lt, Int32.le_iff_toInt_le, Int32.reduceToInt, ← Int32.toInt_inj, true_and, and_true, or_true, true_or, false_or, or_false, false_and, and_false, not_true_eq_false, not_false_eq_true] <;> omega)) (by rw [fe_3729] <;> first | omega | (simp only [Int32.lt_iff_toInt_lt, Int32.le_iff_toInt_le, Int32.reduceToInt, ← Int32.toInt_inj, true_and, and_true, or_true, true_or, false_or, or_false, false_and, and_false, not_true_eq_false, not_false_eq_true] <;> omega)) (by rw [h_3730]; omega)
              refine v_pick [1] rfl ?_
              have fe_3731 : fld (f_3451 a_0) 9 = (v_2826 : Int32).toInt := by rw [hf_3452]; rfl
              have fe_3732 : fld (f_3451 a_0) 8 = (v_3448 : Int32).toInt := by rw [hf_3452]; rfl
              have fe_3733 : fld (f_3451 a_0) 9 = (v_2826 : Int32).toInt := by rw [hf_3452]; rfl
              have fe_3734 : fld (f_3451 a_0) 12 = (v_2833 : Int32).toInt := by rw [hf_3452]; rfl
              have fe_3735 : fld (f_3451 a_0) 20 = (v_2837 : Int32).toInt := by rw [hf_3452]; rfl
              have h_3736 : fld (f_3451 a_0) 8 = (v_3448 : Int32).toInt := by rw [hf_3452]; rfl
              exact lp_3654 602 f_3451 hW_3454 FR.rf (by rw [fe_3731] <;> first | omega | (simp only [Int32.lt_iff_toInt_lt, Int32.le_iff_toInt_le, Int32.reduceToInt, ← Int32.toInt_inj, true_and, and_true, or_true, true_or, false_or, or_false, false_and, and_false, not_true_eq_false, not_false_eq_true] <;> omega)) (by rw [fe_3732, fe_3733] <;> first | omega | (simp only [Int32.lt_iff_toInt_lt, Int32.le_iff_toInt_le, Int32.reduceToInt, ← Int32.toInt_inj, true_and, and_true, or_true, true_or, false_or, or_false, false_and, and_false, not_true_eq_false, not_false_eq_true] <;> omega)) (by rw [fe_3734] <;> first | omega | (simp only [Int32.lt_iff_toInt_lt, Int32.le_iff_toInt_le, Int32.reduceToInt, ← Int32.toInt_inj, true_and, and_true, or_true, true_or, false_or, or_false, false_and, and_false, not_true_eq_false, not_false_eq_true] <;> omega)) (by rw [fe_3735] <;> first | omega | (simp only [Int32.lt_iff_toInt_lt, Int32.le_iff_toInt_le, Int32.reduceToInt, ← Int32.toInt_inj, true_and, and_true, or_true, true_or, false_or, or_false, false_and, and_false, not_true_eq_false, not_false_eq_true] <;> omega)) (by rw [h_3736]; omega)
          · simp only [Int32.lt_iff_toInt_lt, Int32.le_iff_toInt_le, Int32.reduceToInt, ← Int32.toInt_inj] at h_2916
            refine v_aload_n hC dX12_advance_61 rfl ?_
            refine v_iconst hC dX12_advance_62 (v := 0) (by decide) ?_
            refine v_put hC fl_X12_120 m_1 hf_2898 rfl rfl (Nat.le_of_ble_eq_true rfl) (fs' := [.int v_2821, .ref (q 1), .ref (q 2), .ref (q 3), .ref (q 4), .int v_2822, .ref (q 6), .int v_2824, .int v_2826, .int v_2826, .int 0, .int v_2832, .int v_2833, .int v_2834, .ref (q 14), .ref (q 15), .ref (q 16), .int v_2835, .ref (q 18), .ref (q 19), .int v_2837, .ref (q 21), .ref (q 22), .ref (q 23), .ref (q 24), .ref (q 25), .ref (q 26), .ref (q 27), .ref (q 28)]) rfl dX12_advance_63 (fun f_3737 hf_3738 hk_3739 => ?_)
            have hW_3740 := hW_2900.up hf_3738 hk_3739 t_2 ⟨v_2821, v_2822, v_2824, v_2826, v_2826, 0, v_2832, v_2833, v_2834, v_2835, v_2837, rfl, (by first | omega | (simp only [Int32.lt_iff_toInt_lt, Int32.le_iff_toInt_le, Int32.reduceToInt, ← Int32.toInt_inj, true_and, and_true, or_true, true_or, false_or, or_false, false_and, and_false, not_true_eq_false, not_false_eq_true] <;> omega)), (by first | omega | (simp only [Int32.lt_iff_toInt_lt, Int32.le_iff_toInt_le, Int32.reduceToInt, ← Int32.toInt_inj, true_and, and_true, or_true, true_or, false_or, or_false, false_and, and_false, not_true_eq_false, not_false_eq_true] <;> omega)), (by first | omega | (simp only [Int32.lt_iff_toInt_lt, Int32.le_iff_toInt_le, Int32.reduceToInt, ← Int32.toInt_inj, true_and, and_true, or_true, true_or, false_or, or_false, false_and, and_false, not_true_eq_false, not_false_eq_true] <;> omega)), (by first | omega | (simp only [Int32.lt_iff_toInt_lt, Int32.le_iff_toInt_le, Int32.reduceToInt, ← Int32.toInt_inj, true_and, and_true, or_true, true_or, false_or, or_false, false_and, and_false, not_true_eq_false, not_false_eq_true] <;> omega)), (by decide), (by first | omega | (simp only [Int32.lt_iff_toInt_lt, Int32.le_iff_toInt_le, Int32.reduceToInt, ← Int32.toInt_inj, true_and, and_true, or_true, true_or, false_or, or_false, false_and, and_false, not_true_eq_false, not_false_eq_true] <;> omega)), (by first | omega | (simp only [Int32.lt_iff_toInt_lt, Int32.le_iff_toInt_le, Int32.reduceToInt, ← Int32.toInt_inj, true_and, and_true, or_true, true_or, false_or, or_false, false_and, and_false, not_true_eq_false, not_false_eq_true] <;> omega))⟩
            have hf_3741 := (hk_3739 (q 4) (ne_kd e_2912 hf_2898 rfl)).trans e_2912
            have fr_3742 := FR.w hk_3739 hf_2898 (k := 12) rfl
            refine v_goto hC dX12_advance_66 (tgt := 240) (by decide) ?_
            have fe_3743 : fld (f_3737 a_0) 8 = (v_2826 : Int32).toInt := by rw [hf_3738]; rfl
            have fe_3744 : fld (f_3737 a_0) 9 = (v_2826 : Int32).toInt := by rw [hf_3738]; rfl
            have fe_3745 : fld (f_3737 a_0) 8 = (v_2826 : Int32).toInt := by rw [hf_3738]; rfl
            have fe_3746 : fld (f_3737 a_0) 9 = (v_2826 : Int32).toInt := by rw [hf_3738]; rfl
            have fe_3747 : fld (f_3737 a_0) 10 = (0 : Int32).toInt := by rw [hf_3738]; rfl
            simp only [Int32.reduceToInt] at fe_3747
            have fe_3748 : fld (f_3737 a_0) 12 = (v_2833 : Int32).toInt := by rw [hf_3738]; rfl
            have fe_3749 : fld (f_3737 a_0) 20 = (v_2837 : Int32).toInt := by rw [hf_3738]; rfl
            exact hR _ _ _ _ _ _ dX12_advance_240 (Nat.le_of_ble_eq_true rfl) (Nat.le_of_ble_eq_true rfl) ⟨rfl, hW_3740, (((hF_2812.tr fr_2901).tr fr_3742).mono rfl), (by simp only [fe_3743, fe_3744, mz_41, true_and, and_true, or_true, true_or, false_or, or_false, false_and, and_false, not_true_eq_false, not_false_eq_true] <;> first | omega | (simp only [Int32.lt_iff_toInt_lt, Int32.le_iff_toInt_le, Int32.reduceToInt, ← Int32.toInt_inj, true_and, and_true, or_true, true_or, false_or, or_false, false_and, and_false, not_true_eq_false, not_false_eq_true] <;> omega)), (by simp only [fe_3745, fe_3746, fe_3747, true_and, and_true, or_true, true_or, false_or, or_false, false_and, and_false, not_true_eq_false, not_false_eq_true] <;> first | omega | (simp only [Int32.lt_iff_toInt_lt, Int32.le_iff_toInt_le, Int32.reduceToInt, ← Int32.toInt_inj, true_and, and_true, or_true, true_or, false_or, or_false, false_and, and_false, not_true_eq_false, not_false_eq_true] <;> omega)), (by simp only [fe_3748, mz_42, true_and, and_true, or_true, true_or, false_or, or_false, false_and, and_false, not_true_eq_false, not_false_eq_true] <;> first | omega | (simp only [Int32.lt_iff_toInt_lt, Int32.le_iff_toInt_le, Int32.reduceToInt, ← Int32.toInt_inj, true_and, and_true, or_true, true_or, false_or, or_false, false_and, and_false, not_true_eq_false, not_false_eq_true] <;> omega)), (by simp only [fe_3749, mz_43, true_and, and_true, or_true, true_or, false_or, or_false, false_and, and_false, not_true_eq_false, not_false_eq_true] <;> first | omega | (simp only [Int32.lt_iff_toInt_lt, Int32.le_iff_toInt_le, Int32.reduceToInt, ← Int32.toInt_inj, true_and, and_true, or_true, true_or, false_or, or_false, false_and, and_false, not_true_eq_false, not_false_eq_true] <;> omega))⟩
        · simp only [Int32.lt_iff_toInt_lt, Int32.le_iff_toInt_le, Int32.reduceToInt, ← Int32.toInt_inj] at h_2884
          refine v_aload_n hC dX12_advance_26 rfl ?_
          refine v_dup hC dX12_advance_27 rfl ?_
          refine v_get hC fl_X12_108 m_1 e_2820 rfl dX12_advance_28 ?_
          refine v_iconst hC dX12_advance_31 (v := 1) (by decide) ?_
          obtain ⟨v_3750, h_3751⟩ : ∃ v9 : Int32, v_2826 + 1 = v9 := ⟨_, rfl⟩
          refine v_iadd hC dX12_advance_32 h_3751 ?_
          have h_3752 := add_v h_3751 (by first | omega | (simp only [Int32.lt_iff_toInt_lt, Int32.le_iff_toInt_le, Int32.reduceToInt, ← Int32.toInt_inj, true_and, and_true, or_true, true_or, false_or, or_false, false_and, and_false, not_true_eq_false, not_false_eq_true] <;> omega)) (by first | omega | (simp only [Int32.lt_iff_toInt_lt, Int32.le_iff_toInt_le, Int32.reduceToInt, ← Int32.toInt_inj, true_and, and_true, or_true, true_or, false_or, or_false, false_and, and_false, not_true_eq_false, not_false_eq_true] <;> omega))
          try simp only [Int32.reduceToInt] at h_3752
          refine v_put hC fl_X12_108 m_1 e_2820 rfl rfl (Nat.le_of_ble_eq_true rfl) (fs' := [.int v_2821, .ref (q 1), .ref (q 2), .ref (q 3), .ref (q 4), .int v_2822, .ref (q 6), .int v_2824, .int v_3750, .int v_2828, .int v_2830, .int v_2832, .int v_2833, .int v_2834, .ref (q 14), .ref (q 15), .ref (q 16), .int v_2835, .ref (q 18), .ref (q 19), .int v_2837, .ref (q 21), .ref (q 22), .ref (q 23), .ref (q 24), .ref (q 25), .ref (q 26), .ref (q 27), .ref (q 28)]) rfl dX12_advance_33 (fun f_3753 hf_3754 hk_3755 => ?_)
          have hW_3756 := hW_2811.up hf_3754 hk_3755 t_2 ⟨v_2821, v_2822, v_2824, v_3750, v_2828, v_2830, v_2832, v_2833, v_2834, v_2835, v_2837, rfl, (by first | omega | (simp only [Int32.lt_iff_toInt_lt, Int32.le_iff_toInt_le, Int32.reduceToInt, ← Int32.toInt_inj, true_and, and_true, or_true, true_or, false_or, or_false, false_and, and_false, not_true_eq_false, not_false_eq_true] <;> omega)), (by first | omega | (simp only [Int32.lt_iff_toInt_lt, Int32.le_iff_toInt_le, Int32.reduceToInt, ← Int32.toInt_inj, true_and, and_true, or_true, true_or, false_or, or_false, false_and, and_false, not_true_eq_false, not_false_eq_true] <;> omega)), (by first | omega | (simp only [Int32.lt_iff_toInt_lt, Int32.le_iff_toInt_le, Int32.reduceToInt, ← Int32.toInt_inj, true_and, and_true, or_true, true_or, false_or, or_false, false_and, and_false, not_true_eq_false, not_false_eq_true] <;> omega)), (by first | omega | (simp only [Int32.lt_iff_toInt_lt, Int32.le_iff_toInt_le, Int32.reduceToInt, ← Int32.toInt_inj, true_and, and_true, or_true, true_or, false_or, or_false, false_and, and_false, not_true_eq_false, not_false_eq_true] <;> omega)), (by first | omega | (simp only [Int32.lt_iff_toInt_lt, Int32.le_iff_toInt_le, Int32.reduceToInt, ← Int32.toInt_inj, true_and, and_true, or_true, true_or, false_or, or_false, false_and, and_false, not_true_eq_false, not_false_eq_true] <;> omega)), (by first | omega | (simp only [Int32.lt_iff_toInt_lt, Int32.le_iff_toInt_le, Int32.reduceToInt, ← Int32.toInt_inj, true_and, and_true, or_true, true_or, false_or, or_false, false_and, and_false, not_true_eq_false, not_false_eq_true] <;> omega)), (by first | omega | (simp only [Int32.lt_iff_toInt_lt, Int32.le_iff_toInt_le, Int32.reduceToInt, ← Int32.toInt_inj, true_and, and_true, or_true, true_or, false_or, or_false, false_and, and_false, not_true_eq_false, not_false_eq_true] <;> omega))⟩
          have fr_3757 := FR.w hk_3755 e_2820 (k := 12) rfl
          refine v_goto hC dX12_advance_36 (tgt := 0) (by decide) ?_
          refine v_pick [0] rfl ?_
          have fe_3758 : fld (f_3753 a_0) 8 = (v_3750 : Int32).toInt := by rw [hf_3754]; rfl
          have fe_3759 : fld (f_3753 a_0) 12 = (v_2833 : Int32).toInt := by rw [hf_3754]; rfl
          have fe_3760 : fld (f_3753 a_0) 20 = (v_2837 : Int32).toInt := by rw [hf_3754]; rfl
          have h_3761 : fld (f_3753 a_0) 8 = (v_3750 : Int32).toInt := by rw [hf_3754]; rfl
          exact ih_2818 f_3753 hW_3756 ((hF_2812.tr fr_3757).mono rfl) (by rw [fe_3758] <;> first | omega | (simp only [Int32.lt_iff_toInt_lt, Int32.le_iff_toInt_le, Int32.reduceToInt, ← Int32.toInt_inj, true_and, and_true, or_true, true_or, false_or, or_false, false_and, and_false, not_true_eq_false, not_false_eq_true] <;> omega)) (by rw [fe_3759] <;> first | omega | (simp only [Int32.lt_iff_toInt_lt, Int32.le_iff_toInt_le, Int32.reduceToInt, ← Int32.toInt_inj, true_and, and_true, or_true, true_or, false_or, or_false, false_and, and_false, not_true_eq_false, not_false_eq_true] <;> omega)) (by rw [fe_3760] <;> first | omega | (simp only [Int32.lt_iff_toInt_lt, Int32.le_iff_toInt_le, Int32.reduceToInt, ← Int32.toInt_inj, true_and, and_true, or_true, true_or, false_or, or_false, false_and, and_false, not_true_eq_false, not_false_eq_true] <;> omega)) (by rw [h_3761]; omega)
  refine v_pick [0] rfl ?_
  have fe_3762 : fld (f a_0) 8 = (v_28 : Int32).toInt := by rw [e_22]; rfl
  have fe_3763 : fld (f a_0) 12 = (v_35 : Int32).toInt := by rw [e_22]; rfl
  have fe_3764 : fld (f a_0) 20 = (v_39 : Int32).toInt := by rw [e_22]; rfl
  have h_3765 : fld (f a_0) 8 = (v_28 : Int32).toInt := by rw [e_22]; rfl
  exact lp_2816 602 f hW FR.rf (by rw [fe_3762] <;> first | omega | (simp only [Int32.lt_iff_toInt_lt, Int32.le_iff_toInt_le, Int32.reduceToInt, ← Int32.toInt_inj, true_and, and_true, or_true, true_or, false_or, or_false, false_and, and_false, not_true_eq_false, not_false_eq_true] <;> omega)) (by rw [fe_3763] <;> first | omega | (simp only [Int32.lt_iff_toInt_lt, Int32.le_iff_toInt_le, Int32.reduceToInt, ← Int32.toInt_inj, true_and, and_true, or_true, true_or, false_or, or_false, false_and, and_false, not_true_eq_false, not_false_eq_true] <;> omega)) (by rw [fe_3764] <;> first | omega | (simp only [Int32.lt_iff_toInt_lt, Int32.le_iff_toInt_le, Int32.reduceToInt, ← Int32.toInt_inj, true_and, and_true, or_true, true_or, false_or, or_false, false_and, and_false, not_true_eq_false, not_false_eq_true] <;> omega)) (by rw [h_3765]; omega)
set_option maxRecDepth 100000 in
set_option maxHeartbeats 8000000 in
theorem p_X12_takes {l : Launch} {E : Ez} {L : List Nat} {f : Nat → va_E} {T : Nat → va_E → Prop} {a_0 : Nat} {a_1 : Nat} {q : Nat → Nat} (hW : WT T L f) (k_0 : isM T L E a_0 q) (ha_1 : a_1 < 77) : CI l yX12_takes cX12_takes 3 .boolean 5 0 0 E [.ref a_0, .ref (eK E a_1)] L f (fun r L1 f1 => L = L1 ∧ WT T L f1 ∧ FR [12] f f1 ∧ r = (iw (f a_0) (f (q 4)) a_1) ∧ ((iw (f a_0) (f (q 4)) a_1).toInt = 0 ∨ ((fld (f a_0) 8 ≤ fld (f1 a_0) 9 ∧ fld (f1 a_0) 9 ≤ fld (f1 a_0) 8) ∧ (fld (f1 a_0) 10 = 0 ∨ fld (f1 a_0) 9 < fld (f1 a_0) 8))) ∧ (¬ (iw (f a_0) (f (q 4)) a_1).toInt = 0 ∨ (fld (f1 a_0) 8 = fld (f a_0) 8 ∧ fld (f1 a_0) 9 = fld (f a_0) 9 ∧ fld (f1 a_0) 10 = fld (f a_0) 10)) ∧ fld (f1 a_0) 12 = fld (f a_0) 12 ∧ fld (f1 a_0) 20 = fld (f a_0) 20) := by
  refine ci_of (by decide) (Nat.le_of_ble_eq_true rfl) (fun z hz hnm hC hR => ?_)
  have hC : Cx z E cX12_takes RX12 3 5 0 0 := hC
  subst hz
  show V z E 3 0 0 L f 0 [(0, .ref a_0), (1, .ref (eK E a_1))] []
  obtain ⟨m_1, t_2, nq_21, k_3, k_4, k_5, k_6, k_7, k_8, k_9, k_10, k_11, k_12, k_13, k_14, k_15, k_16, k_17, k_18, k_19, k_20⟩ := id k_0
  obtain ⟨v_23, v_24, v_26, v_28, v_30, v_32, v_34, v_35, v_36, v_37, v_39, e_22, b_25, b_27, b_29, b_31, b_33, b_38, b_40⟩ := hW.at m_1 t_2
  have mz_41 : fld (f a_0) 8 = v_28.toInt := by rw [e_22]; rfl
  have mz_42 : fld (f a_0) 9 = v_30.toInt := by rw [e_22]; rfl
  have mz_43 : fld (f a_0) 10 = v_32.toInt := by rw [e_22]; rfl
  have mz_44 : fld (f a_0) 12 = v_35.toInt := by rw [e_22]; rfl
  have mz_45 : fld (f a_0) 20 = v_39.toInt := by rw [e_22]; rfl
  refine v_aload_n hC dX12_takes_0 rfl ?_
  refine v_aload_n hC dX12_takes_1 rfl ?_
  refine v_vi hC (rest := []) m_1 e_22 rfl mi_X12_is ms_X12_is (p_X12_is hW k_0 ha_1) mx_X12_is ml_X12_152 (by decide) rfl (cells1 := 0) (slots1 := 0) (by decide) (by decide) (Nat.le_of_ble_eq_true rfl) (Nat.le_of_ble_eq_true rfl) rfl (Nat.le_of_ble_eq_true rfl) dX12_takes_2 (fun r_46 L_47 f_48 h_49 => ?_)
  obtain ⟨rfl, rfl, rfl⟩ := h_49
  have fe_52 : fld (f a_0) 8 = (v_28 : Int32).toInt := by rw [e_22]; rfl
  have fe_53 : fld (f a_0) 9 = (v_30 : Int32).toInt := by rw [e_22]; rfl
  have fe_54 : fld (f a_0) 10 = (v_32 : Int32).toInt := by rw [e_22]; rfl
  have fe_55 : fld (f a_0) 12 = (v_35 : Int32).toInt := by rw [e_22]; rfl
  have ib_56 := iw_b (f a_0) (f (q 4)) a_1
  rw [fe_55, fe_54, fe_52, fe_53] at ib_56
  clear fe_52 fe_53 fe_54 fe_55
  refine v_istore_n hC dX12_takes_5 (by decide) (lv' := [(2, .int (iw (f a_0) (f (q 4)) a_1)), (0, .ref a_0), (1, .ref (eK E a_1))]) rfl ?_
  refine v_iload_n hC dX12_takes_6 rfl ?_
  refine v_if_eq hC dX12_takes_7 (tgt := 14) (by decide) (fun h_57 => ?_) (fun h_57 => ?_)
  · simp only [Int32.lt_iff_toInt_lt, Int32.le_iff_toInt_le, Int32.reduceToInt, ← Int32.toInt_inj] at h_57
    refine v_iload_n hC dX12_takes_14 rfl ?_
    have fe_58 : fld (f a_0) 8 = (v_28 : Int32).toInt := by rw [e_22]; rfl
    have fe_59 : fld (f a_0) 9 = (v_30 : Int32).toInt := by rw [e_22]; rfl
    have fe_60 : fld (f a_0) 10 = (v_32 : Int32).toInt := by rw [e_22]; rfl
    have fe_61 : fld (f a_0) 8 = (v_28 : Int32).toInt := by rw [e_22]; rfl
    have fe_62 : fld (f a_0) 9 = (v_30 : Int32).toInt := by rw [e_22]; rfl
    have fe_63 : fld (f a_0) 10 = (v_32 : Int32).toInt := by rw [e_22]; rfl
    have fe_64 : fld (f a_0) 12 = (v_35 : Int32).toInt := by rw [e_22]; rfl
    have fe_65 : fld (f a_0) 20 = (v_39 : Int32).toInt := by rw [e_22]; rfl
    exact hR _ _ _ _ _ _ _ dX12_takes_15 (nar01 (by first | omega | (simp only [Int32.lt_iff_toInt_lt, Int32.le_iff_toInt_le, Int32.reduceToInt, ← Int32.toInt_inj, true_and, and_true, or_true, true_or, false_or, or_false, false_and, and_false, not_true_eq_false, not_false_eq_true] <;> omega))) (Nat.le_of_ble_eq_true rfl) (Nat.le_of_ble_eq_true rfl) ⟨rfl, hW, FR.rf, rfl, (by simp only [fe_58, fe_59, fe_60, mz_41, true_and, and_true, or_true, true_or, false_or, or_false, false_and, and_false, not_true_eq_false, not_false_eq_true] <;> first | omega | (simp only [Int32.lt_iff_toInt_lt, Int32.le_iff_toInt_le, Int32.reduceToInt, ← Int32.toInt_inj, true_and, and_true, or_true, true_or, false_or, or_false, false_and, and_false, not_true_eq_false, not_false_eq_true] <;> omega)), (by simp only [fe_61, fe_62, fe_63, mz_41, mz_42, mz_43, true_and, and_true, or_true, true_or, false_or, or_false, false_and, and_false, not_true_eq_false, not_false_eq_true] <;> first | omega | (simp only [Int32.lt_iff_toInt_lt, Int32.le_iff_toInt_le, Int32.reduceToInt, ← Int32.toInt_inj, true_and, and_true, or_true, true_or, false_or, or_false, false_and, and_false, not_true_eq_false, not_false_eq_true] <;> omega)), (by simp only [fe_64, mz_44, true_and, and_true, or_true, true_or, false_or, or_false, false_and, and_false, not_true_eq_false, not_false_eq_true] <;> first | omega | (simp only [Int32.lt_iff_toInt_lt, Int32.le_iff_toInt_le, Int32.reduceToInt, ← Int32.toInt_inj, true_and, and_true, or_true, true_or, false_or, or_false, false_and, and_false, not_true_eq_false, not_false_eq_true] <;> omega)), (by simp only [fe_65, mz_45, true_and, and_true, or_true, true_or, false_or, or_false, false_and, and_false, not_true_eq_false, not_false_eq_true] <;> first | omega | (simp only [Int32.lt_iff_toInt_lt, Int32.le_iff_toInt_le, Int32.reduceToInt, ← Int32.toInt_inj, true_and, and_true, or_true, true_or, false_or, or_false, false_and, and_false, not_true_eq_false, not_false_eq_true] <;> omega))⟩
  · simp only [Int32.lt_iff_toInt_lt, Int32.le_iff_toInt_le, Int32.reduceToInt, ← Int32.toInt_inj] at h_57
    refine v_aload_n hC dX12_takes_10 rfl ?_
    refine v_vv hC (rest := []) m_1 e_22 rfl mi_X12_advance ms_X12_advance (p_X12_advance hW k_0) mx_X12_advance ml_X12_156 (by decide) rfl (cells1 := 0) (slots1 := 0) (by decide) (by decide) (Nat.le_of_ble_eq_true rfl) (Nat.le_of_ble_eq_true rfl) rfl (Nat.le_of_ble_eq_true rfl) dX12_takes_11 (fun L_67 f_68 h_69 => ?_)
    obtain ⟨rfl, hW_74, hF_75, x_70, x_71, x_72, x_73⟩ := h_69
    have fe_76 : fld (f a_0) 8 = (v_28 : Int32).toInt := by rw [e_22]; rfl
    have fe_77 : fld (f a_0) 12 = (v_35 : Int32).toInt := by rw [e_22]; rfl
    have fe_78 : fld (f a_0) 20 = (v_39 : Int32).toInt := by rw [e_22]; rfl
    obtain ⟨v_80, v_81, v_83, v_85, v_87, v_89, v_91, v_92, v_93, v_94, v_96, e_79, b_82, b_84, b_86, b_88, b_90, b_95, b_97⟩ := hW_74.at m_1 t_2
    have fe_98 : fld (f_68 a_0) 8 = (v_85 : Int32).toInt := by rw [e_79]; rfl
    have fe_99 : fld (f_68 a_0) 9 = (v_87 : Int32).toInt := by rw [e_79]; rfl
    have fe_100 : fld (f_68 a_0) 10 = (v_89 : Int32).toInt := by rw [e_79]; rfl
    have fe_101 : fld (f_68 a_0) 12 = (v_92 : Int32).toInt := by rw [e_79]; rfl
    have fe_102 : fld (f_68 a_0) 20 = (v_96 : Int32).toInt := by rw [e_79]; rfl
    rw [fe_76, fe_99, fe_98] at x_70
    rw [fe_100, fe_99, fe_98] at x_71
    rw [fe_101, fe_77] at x_72
    rw [fe_102, fe_78] at x_73
    clear fe_76 fe_77 fe_78 fe_98 fe_99 fe_100 fe_101 fe_102
    refine v_iload_n hC dX12_takes_14 rfl ?_
    have fe_103 : fld (f_68 a_0) 8 = (v_85 : Int32).toInt := by rw [e_79]; rfl
    have fe_104 : fld (f_68 a_0) 9 = (v_87 : Int32).toInt := by rw [e_79]; rfl
    have fe_105 : fld (f_68 a_0) 10 = (v_89 : Int32).toInt := by rw [e_79]; rfl
    have fe_106 : fld (f_68 a_0) 8 = (v_85 : Int32).toInt := by rw [e_79]; rfl
    have fe_107 : fld (f_68 a_0) 9 = (v_87 : Int32).toInt := by rw [e_79]; rfl
    have fe_108 : fld (f_68 a_0) 10 = (v_89 : Int32).toInt := by rw [e_79]; rfl
    have fe_109 : fld (f_68 a_0) 12 = (v_92 : Int32).toInt := by rw [e_79]; rfl
    have fe_110 : fld (f_68 a_0) 20 = (v_96 : Int32).toInt := by rw [e_79]; rfl
    exact hR _ _ _ _ _ _ _ dX12_takes_15 (nar01 (by first | omega | (simp only [Int32.lt_iff_toInt_lt, Int32.le_iff_toInt_le, Int32.reduceToInt, ← Int32.toInt_inj, true_and, and_true, or_true, true_or, false_or, or_false, false_and, and_false, not_true_eq_false, not_false_eq_true] <;> omega))) (Nat.le_of_ble_eq_true rfl) (Nat.le_of_ble_eq_true rfl) ⟨rfl, hW_74, (hF_75.mono rfl), rfl, (by simp only [fe_103, fe_104, fe_105, mz_41, true_and, and_true, or_true, true_or, false_or, or_false, false_and, and_false, not_true_eq_false, not_false_eq_true] <;> first | omega | (simp only [Int32.lt_iff_toInt_lt, Int32.le_iff_toInt_le, Int32.reduceToInt, ← Int32.toInt_inj, true_and, and_true, or_true, true_or, false_or, or_false, false_and, and_false, not_true_eq_false, not_false_eq_true] <;> omega)), (by simp only [fe_106, fe_107, fe_108, mz_41, mz_42, mz_43, true_and, and_true, or_true, true_or, false_or, or_false, false_and, and_false, not_true_eq_false, not_false_eq_true] <;> first | omega | (simp only [Int32.lt_iff_toInt_lt, Int32.le_iff_toInt_le, Int32.reduceToInt, ← Int32.toInt_inj, true_and, and_true, or_true, true_or, false_or, or_false, false_and, and_false, not_true_eq_false, not_false_eq_true] <;> omega)), (by simp only [fe_109, mz_44, true_and, and_true, or_true, true_or, false_or, or_false, false_and, and_false, not_true_eq_false, not_false_eq_true] <;> first | omega | (simp only [Int32.lt_iff_toInt_lt, Int32.le_iff_toInt_le, Int32.reduceToInt, ← Int32.toInt_inj, true_and, and_true, or_true, true_or, false_or, or_false, false_and, and_false, not_true_eq_false, not_false_eq_true] <;> omega)), (by simp only [fe_110, mz_45, true_and, and_true, or_true, true_or, false_or, or_false, false_and, and_false, not_true_eq_false, not_false_eq_true] <;> first | omega | (simp only [Int32.lt_iff_toInt_lt, Int32.le_iff_toInt_le, Int32.reduceToInt, ← Int32.toInt_inj, true_and, and_true, or_true, true_or, false_or, or_false, false_and, and_false, not_true_eq_false, not_false_eq_true] <;> omega))⟩
set_option maxRecDepth 100000 in
set_option maxHeartbeats 8000000 in
theorem p_X12_errs {l : Launch} {E : Ez} {L : List Nat} {f : Nat → va_E} {T : Nat → va_E → Prop} {a_0 : Nat} {a_1 : Int32} {q : Nat → Nat} (hW : WT T L f) (k_0 : isM T L E a_0 q) (g_1 : (1 ≤ a_1.toInt ∧ a_1.toInt ≤ 3)) : CV l yX12_errs cX12_errs 2 1 0 0 E [.ref a_0, .int a_1] L f (fun L1 f1 => L = L1 ∧ WT T L f1 ∧ FR [12] f f1 ∧ ¬ fld (f1 a_0) 12 = 0 ∧ fld (f1 a_0) 8 = fld (f a_0) 8 ∧ fld (f1 a_0) 9 = fld (f a_0) 9 ∧ fld (f1 a_0) 10 = fld (f a_0) 10 ∧ fld (f1 a_0) 20 = fld (f a_0) 20) := by
  refine cv_of (by decide) (Nat.le_of_ble_eq_true rfl) (fun z hz hnm hC hR => ?_)
  have hC : Cx z E cX12_errs RX12 2 1 0 0 := hC
  subst hz
  show V z E 2 0 0 L f 0 [(0, .ref a_0), (1, .int a_1)] []
  obtain ⟨m_1, t_2, nq_21, k_3, k_4, k_5, k_6, k_7, k_8, k_9, k_10, k_11, k_12, k_13, k_14, k_15, k_16, k_17, k_18, k_19, k_20⟩ := id k_0
  obtain ⟨v_23, v_24, v_26, v_28, v_30, v_32, v_34, v_35, v_36, v_37, v_39, e_22, b_25, b_27, b_29, b_31, b_33, b_38, b_40⟩ := hW.at m_1 t_2
  have mz_41 : fld (f a_0) 8 = v_28.toInt := by rw [e_22]; rfl
  have mz_42 : fld (f a_0) 9 = v_30.toInt := by rw [e_22]; rfl
  have mz_43 : fld (f a_0) 10 = v_32.toInt := by rw [e_22]; rfl
  have mz_44 : fld (f a_0) 20 = v_39.toInt := by rw [e_22]; rfl
  refine v_aload_n hC dX12_errs_0 rfl ?_
  refine v_vi hC (rest := []) m_1 e_22 rfl mi_X12_good ms_X12_good (p_X12_good hW k_0) mx_X12_good ml_X12_139 (by decide) rfl (cells1 := 0) (slots1 := 0) (by decide) (by decide) (Nat.le_of_ble_eq_true rfl) (Nat.le_of_ble_eq_true rfl) rfl (Nat.le_of_ble_eq_true rfl) dX12_errs_1 (fun r_45 L_46 f_47 h_48 => ?_)
  obtain ⟨rfl, rfl, b_49, x_50⟩ := h_48
  have fe_53 : fld (f a_0) 12 = (v_35 : Int32).toInt := by rw [e_22]; rfl
  rw [fe_53] at x_50
  clear fe_53
  try simp only [Int32.reduceToInt, Int64.reduceToInt] at x_50
  refine v_if_ne hC dX12_errs_4 (tgt := 8) (by decide) (fun h_54 => ?_) (fun h_54 => ?_)
  · simp only [Int32.lt_iff_toInt_lt, Int32.le_iff_toInt_le, Int32.reduceToInt, ← Int32.toInt_inj] at h_54
    refine v_aload_n hC dX12_errs_8 rfl ?_
    refine v_iload_n hC dX12_errs_9 rfl ?_
    refine v_put hC fl_X12_111 m_1 e_22 rfl rfl (Nat.le_of_ble_eq_true rfl) (fs' := [.int v_23, .ref (q 1), .ref (q 2), .ref (q 3), .ref (q 4), .int v_24, .ref (q 6), .int v_26, .int v_28, .int v_30, .int v_32, .int v_34, .int a_1, .int v_36, .ref (q 14), .ref (q 15), .ref (q 16), .int v_37, .ref (q 18), .ref (q 19), .int v_39, .ref (q 21), .ref (q 22), .ref (q 23), .ref (q 24), .ref (q 25), .ref (q 26), .ref (q 27), .ref (q 28)]) rfl dX12_errs_10 (fun f_55 hf_56 hk_57 => ?_)
    have hW_58 := hW.up hf_56 hk_57 t_2 ⟨v_23, v_24, v_26, v_28, v_30, v_32, v_34, a_1, v_36, v_37, v_39, rfl, (by first | omega | (simp only [Int32.lt_iff_toInt_lt, Int32.le_iff_toInt_le, Int32.reduceToInt, ← Int32.toInt_inj, true_and, and_true, or_true, true_or, false_or, or_false, false_and, and_false, not_true_eq_false, not_false_eq_true] <;> omega)), (by first | omega | (simp only [Int32.lt_iff_toInt_lt, Int32.le_iff_toInt_le, Int32.reduceToInt, ← Int32.toInt_inj, true_and, and_true, or_true, true_or, false_or, or_false, false_and, and_false, not_true_eq_false, not_false_eq_true] <;> omega)), (by first | omega | (simp only [Int32.lt_iff_toInt_lt, Int32.le_iff_toInt_le, Int32.reduceToInt, ← Int32.toInt_inj, true_and, and_true, or_true, true_or, false_or, or_false, false_and, and_false, not_true_eq_false, not_false_eq_true] <;> omega)), (by first | omega | (simp only [Int32.lt_iff_toInt_lt, Int32.le_iff_toInt_le, Int32.reduceToInt, ← Int32.toInt_inj, true_and, and_true, or_true, true_or, false_or, or_false, false_and, and_false, not_true_eq_false, not_false_eq_true] <;> omega)), (by first | omega | (simp only [Int32.lt_iff_toInt_lt, Int32.le_iff_toInt_le, Int32.reduceToInt, ← Int32.toInt_inj, true_and, and_true, or_true, true_or, false_or, or_false, false_and, and_false, not_true_eq_false, not_false_eq_true] <;> omega)), (by first | omega | (simp only [Int32.lt_iff_toInt_lt, Int32.le_iff_toInt_le, Int32.reduceToInt, ← Int32.toInt_inj, true_and, and_true, or_true, true_or, false_or, or_false, false_and, and_false, not_true_eq_false, not_false_eq_true] <;> omega)), (by first | omega | (simp only [Int32.lt_iff_toInt_lt, Int32.le_iff_toInt_le, Int32.reduceToInt, ← Int32.toInt_inj, true_and, and_true, or_true, true_or, false_or, or_false, false_and, and_false, not_true_eq_false, not_false_eq_true] <;> omega))⟩
    have fr_59 := FR.w hk_57 e_22 (k := 12) rfl
    refine v_aload_n hC dX12_errs_13 rfl ?_
    refine v_aload_n hC dX12_errs_14 rfl ?_
    refine v_get hC fl_X12_117 m_1 hf_56 rfl dX12_errs_15 ?_
    refine v_put hC fl_X12_31 m_1 hf_56 rfl rfl (Nat.le_of_ble_eq_true rfl) (fs' := [.int v_23, .ref (q 1), .ref (q 2), .ref (q 3), .ref (q 4), .int v_24, .ref (q 6), .int v_26, .int v_28, .int v_30, .int v_32, .int v_34, .int a_1, .int v_30, .ref (q 14), .ref (q 15), .ref (q 16), .int v_37, .ref (q 18), .ref (q 19), .int v_39, .ref (q 21), .ref (q 22), .ref (q 23), .ref (q 24), .ref (q 25), .ref (q 26), .ref (q 27), .ref (q 28)]) rfl dX12_errs_18 (fun f_60 hf_61 hk_62 => ?_)
    have hW_63 := hW_58.up hf_61 hk_62 t_2 ⟨v_23, v_24, v_26, v_28, v_30, v_32, v_34, a_1, v_30, v_37, v_39, rfl, (by first | omega | (simp only [Int32.lt_iff_toInt_lt, Int32.le_iff_toInt_le, Int32.reduceToInt, ← Int32.toInt_inj, true_and, and_true, or_true, true_or, false_or, or_false, false_and, and_false, not_true_eq_false, not_false_eq_true] <;> omega)), (by first | omega | (simp only [Int32.lt_iff_toInt_lt, Int32.le_iff_toInt_le, Int32.reduceToInt, ← Int32.toInt_inj, true_and, and_true, or_true, true_or, false_or, or_false, false_and, and_false, not_true_eq_false, not_false_eq_true] <;> omega)), (by first | omega | (simp only [Int32.lt_iff_toInt_lt, Int32.le_iff_toInt_le, Int32.reduceToInt, ← Int32.toInt_inj, true_and, and_true, or_true, true_or, false_or, or_false, false_and, and_false, not_true_eq_false, not_false_eq_true] <;> omega)), (by first | omega | (simp only [Int32.lt_iff_toInt_lt, Int32.le_iff_toInt_le, Int32.reduceToInt, ← Int32.toInt_inj, true_and, and_true, or_true, true_or, false_or, or_false, false_and, and_false, not_true_eq_false, not_false_eq_true] <;> omega)), (by first | omega | (simp only [Int32.lt_iff_toInt_lt, Int32.le_iff_toInt_le, Int32.reduceToInt, ← Int32.toInt_inj, true_and, and_true, or_true, true_or, false_or, or_false, false_and, and_false, not_true_eq_false, not_false_eq_true] <;> omega)), (by first | omega | (simp only [Int32.lt_iff_toInt_lt, Int32.le_iff_toInt_le, Int32.reduceToInt, ← Int32.toInt_inj, true_and, and_true, or_true, true_or, false_or, or_false, false_and, and_false, not_true_eq_false, not_false_eq_true] <;> omega)), (by first | omega | (simp only [Int32.lt_iff_toInt_lt, Int32.le_iff_toInt_le, Int32.reduceToInt, ← Int32.toInt_inj, true_and, and_true, or_true, true_or, false_or, or_false, false_and, and_false, not_true_eq_false, not_false_eq_true] <;> omega))⟩
    have fr_64 := FR.w hk_62 hf_56 (k := 12) rfl
    have fe_65 : fld (f_60 a_0) 12 = (a_1 : Int32).toInt := by rw [hf_61]; rfl
    have fe_66 : fld (f_60 a_0) 8 = (v_28 : Int32).toInt := by rw [hf_61]; rfl
    have fe_67 : fld (f_60 a_0) 9 = (v_30 : Int32).toInt := by rw [hf_61]; rfl
    have fe_68 : fld (f_60 a_0) 10 = (v_32 : Int32).toInt := by rw [hf_61]; rfl
    have fe_69 : fld (f_60 a_0) 20 = (v_39 : Int32).toInt := by rw [hf_61]; rfl
    exact hR _ _ _ _ _ _ dX12_errs_21 (Nat.le_of_ble_eq_true rfl) (Nat.le_of_ble_eq_true rfl) ⟨rfl, hW_63, ((fr_59.tr fr_64).mono rfl), (by simp only [fe_65, true_and, and_true, or_true, true_or, false_or, or_false, false_and, and_false, not_true_eq_false, not_false_eq_true] <;> first | omega | (simp only [Int32.lt_iff_toInt_lt, Int32.le_iff_toInt_le, Int32.reduceToInt, ← Int32.toInt_inj, true_and, and_true, or_true, true_or, false_or, or_false, false_and, and_false, not_true_eq_false, not_false_eq_true] <;> omega)), (by simp only [fe_66, mz_41, true_and, and_true, or_true, true_or, false_or, or_false, false_and, and_false, not_true_eq_false, not_false_eq_true] <;> first | omega | (simp only [Int32.lt_iff_toInt_lt, Int32.le_iff_toInt_le, Int32.reduceToInt, ← Int32.toInt_inj, true_and, and_true, or_true, true_or, false_or, or_false, false_and, and_false, not_true_eq_false, not_false_eq_true] <;> omega)), (by simp only [fe_67, mz_42, true_and, and_true, or_true, true_or, false_or, or_false, false_and, and_false, not_true_eq_false, not_false_eq_true] <;> first | omega | (simp only [Int32.lt_iff_toInt_lt, Int32.le_iff_toInt_le, Int32.reduceToInt, ← Int32.toInt_inj, true_and, and_true, or_true, true_or, false_or, or_false, false_and, and_false, not_true_eq_false, not_false_eq_true] <;> omega)), (by simp only [fe_68, mz_43, true_and, and_true, or_true, true_or, false_or, or_false, false_and, and_false, not_true_eq_false, not_false_eq_true] <;> first | omega | (simp only [Int32.lt_iff_toInt_lt, Int32.le_iff_toInt_le, Int32.reduceToInt, ← Int32.toInt_inj, true_and, and_true, or_true, true_or, false_or, or_false, false_and, and_false, not_true_eq_false, not_false_eq_true] <;> omega)), (by simp only [fe_69, mz_44, true_and, and_true, or_true, true_or, false_or, or_false, false_and, and_false, not_true_eq_false, not_false_eq_true] <;> first | omega | (simp only [Int32.lt_iff_toInt_lt, Int32.le_iff_toInt_le, Int32.reduceToInt, ← Int32.toInt_inj, true_and, and_true, or_true, true_or, false_or, or_false, false_and, and_false, not_true_eq_false, not_false_eq_true] <;> omega))⟩
  · simp only [Int32.lt_iff_toInt_lt, Int32.le_iff_toInt_le, Int32.reduceToInt, ← Int32.toInt_inj] at h_54
    have fe_70 : fld (f a_0) 12 = (v_35 : Int32).toInt := by rw [e_22]; rfl
    have fe_71 : fld (f a_0) 8 = (v_28 : Int32).toInt := by rw [e_22]; rfl
    have fe_72 : fld (f a_0) 9 = (v_30 : Int32).toInt := by rw [e_22]; rfl
    have fe_73 : fld (f a_0) 10 = (v_32 : Int32).toInt := by rw [e_22]; rfl
    have fe_74 : fld (f a_0) 20 = (v_39 : Int32).toInt := by rw [e_22]; rfl
    exact hR _ _ _ _ _ _ dX12_errs_7 (Nat.le_of_ble_eq_true rfl) (Nat.le_of_ble_eq_true rfl) ⟨rfl, hW, FR.rf, (by simp only [fe_70, true_and, and_true, or_true, true_or, false_or, or_false, false_and, and_false, not_true_eq_false, not_false_eq_true] <;> first | omega | (simp only [Int32.lt_iff_toInt_lt, Int32.le_iff_toInt_le, Int32.reduceToInt, ← Int32.toInt_inj, true_and, and_true, or_true, true_or, false_or, or_false, false_and, and_false, not_true_eq_false, not_false_eq_true] <;> omega)), (by simp only [fe_71, mz_41, true_and, and_true, or_true, true_or, false_or, or_false, false_and, and_false, not_true_eq_false, not_false_eq_true] <;> first | omega | (simp only [Int32.lt_iff_toInt_lt, Int32.le_iff_toInt_le, Int32.reduceToInt, ← Int32.toInt_inj, true_and, and_true, or_true, true_or, false_or, or_false, false_and, and_false, not_true_eq_false, not_false_eq_true] <;> omega)), (by simp only [fe_72, mz_42, true_and, and_true, or_true, true_or, false_or, or_false, false_and, and_false, not_true_eq_false, not_false_eq_true] <;> first | omega | (simp only [Int32.lt_iff_toInt_lt, Int32.le_iff_toInt_le, Int32.reduceToInt, ← Int32.toInt_inj, true_and, and_true, or_true, true_or, false_or, or_false, false_and, and_false, not_true_eq_false, not_false_eq_true] <;> omega)), (by simp only [fe_73, mz_43, true_and, and_true, or_true, true_or, false_or, or_false, false_and, and_false, not_true_eq_false, not_false_eq_true] <;> first | omega | (simp only [Int32.lt_iff_toInt_lt, Int32.le_iff_toInt_le, Int32.reduceToInt, ← Int32.toInt_inj, true_and, and_true, or_true, true_or, false_or, or_false, false_and, and_false, not_true_eq_false, not_false_eq_true] <;> omega)), (by simp only [fe_74, mz_44, true_and, and_true, or_true, true_or, false_or, or_false, false_and, and_false, not_true_eq_false, not_false_eq_true] <;> first | omega | (simp only [Int32.lt_iff_toInt_lt, Int32.le_iff_toInt_le, Int32.reduceToInt, ← Int32.toInt_inj, true_and, and_true, or_true, true_or, false_or, or_false, false_and, and_false, not_true_eq_false, not_false_eq_true] <;> omega))⟩
set_option maxRecDepth 100000 in
set_option maxHeartbeats 8000000 in
theorem p_X12_ends {l : Launch} {E : Ez} {L : List Nat} {f : Nat → va_E} {T : Nat → va_E → Prop} {a_0 : Nat} {q : Nat → Nat} (hW : WT T L f) (k_0 : isM T L E a_0 q) : CV l yX12_ends cX12_ends 1 2 0 0 E [.ref a_0] L f (fun L1 f1 => L = L1 ∧ WT T L f1 ∧ FR [12] f f1 ∧ (¬ fld (f1 a_0) 12 = 0 ∨ fld (f a_0) 12 = 0) ∧ (¬ fld (f1 a_0) 12 = 0 ∨ (fld (f a_0) 10 = 3 ∧ fld (f a_0) 8 ≤ fld (f1 a_0) 9 ∧ fld (f1 a_0) 9 ≤ fld (f1 a_0) 8)) ∧ (¬ fld (f1 a_0) 12 = 0 ∨ fld (f1 a_0) 10 = 0 ∨ fld (f1 a_0) 9 < fld (f1 a_0) 8) ∧ fld (f1 a_0) 20 = fld (f a_0) 20 ∧ (¬ fld (f1 a_0) 12 = 0 ∨ (fld (f a_0) 12 = 0 ∧ fld (f a_0) 10 = 3 ∧ fld (f a_0) 8 ≤ fld (f1 a_0) 9 ∧ fld (f1 a_0) 9 ≤ fld (f1 a_0) 8 ∧ (fld (f1 a_0) 10 = 0 ∨ fld (f1 a_0) 9 < fld (f1 a_0) 8)))) := by
  refine cv_of (by decide) (Nat.le_of_ble_eq_true rfl) (fun z hz hnm hC hR => ?_)
  have hC : Cx z E cX12_ends RX12 1 2 0 0 := hC
  subst hz
  show V z E 1 0 0 L f 0 [(0, .ref a_0)] []
  obtain ⟨m_1, t_2, nq_21, k_3, k_4, k_5, k_6, k_7, k_8, k_9, k_10, k_11, k_12, k_13, k_14, k_15, k_16, k_17, k_18, k_19, k_20⟩ := id k_0
  obtain ⟨v_23, v_24, v_26, v_28, v_30, v_32, v_34, v_35, v_36, v_37, v_39, e_22, b_25, b_27, b_29, b_31, b_33, b_38, b_40⟩ := hW.at m_1 t_2
  have mz_41 : fld (f a_0) 8 = v_28.toInt := by rw [e_22]; rfl
  have mz_42 : fld (f a_0) 10 = v_32.toInt := by rw [e_22]; rfl
  have mz_43 : fld (f a_0) 12 = v_35.toInt := by rw [e_22]; rfl
  have mz_44 : fld (f a_0) 20 = v_39.toInt := by rw [e_22]; rfl
  refine v_aload_n hC dX12_ends_0 rfl ?_
  refine v_vi hC (rest := []) m_1 e_22 rfl mi_X12_good ms_X12_good (p_X12_good hW k_0) mx_X12_good ml_X12_139 (by decide) rfl (cells1 := 0) (slots1 := 0) (by decide) (by decide) (Nat.le_of_ble_eq_true rfl) (Nat.le_of_ble_eq_true rfl) rfl (Nat.le_of_ble_eq_true rfl) dX12_ends_1 (fun r_45 L_46 f_47 h_48 => ?_)
  obtain ⟨rfl, rfl, b_49, x_50⟩ := h_48
  have fe_53 : fld (f a_0) 12 = (v_35 : Int32).toInt := by rw [e_22]; rfl
  rw [fe_53] at x_50
  clear fe_53
  try simp only [Int32.reduceToInt, Int64.reduceToInt] at x_50
  refine v_if_eq hC dX12_ends_4 (tgt := 20) (by decide) (fun h_54 => ?_) (fun h_54 => ?_)
  · simp only [Int32.lt_iff_toInt_lt, Int32.le_iff_toInt_le, Int32.reduceToInt, ← Int32.toInt_inj] at h_54
    refine v_aload_n hC dX12_ends_20 rfl ?_
    refine v_vi hC (rest := []) m_1 e_22 rfl mi_X12_good ms_X12_good (p_X12_good hW k_0) mx_X12_good ml_X12_139 (by decide) rfl (cells1 := 0) (slots1 := 0) (by decide) (by decide) (Nat.le_of_ble_eq_true rfl) (Nat.le_of_ble_eq_true rfl) rfl (Nat.le_of_ble_eq_true rfl) dX12_ends_21 (fun r_55 L_56 f_57 h_58 => ?_)
    obtain ⟨rfl, rfl, b_59, x_60⟩ := h_58
    have fe_63 : fld (f a_0) 12 = (v_35 : Int32).toInt := by rw [e_22]; rfl
    rw [fe_63] at x_60
    clear fe_63
    try simp only [Int32.reduceToInt, Int64.reduceToInt] at x_60
    refine v_if_eq hC dX12_ends_24 (tgt := 31) (by decide) (fun h_64 => ?_) (fun h_64 => ?_)
    · simp only [Int32.lt_iff_toInt_lt, Int32.le_iff_toInt_le, Int32.reduceToInt, ← Int32.toInt_inj] at h_64
      have fe_65 : fld (f a_0) 12 = (v_35 : Int32).toInt := by rw [e_22]; rfl
      have fe_66 : fld (f a_0) 8 = (v_28 : Int32).toInt := by rw [e_22]; rfl
      have fe_67 : fld (f a_0) 9 = (v_30 : Int32).toInt := by rw [e_22]; rfl
      have fe_68 : fld (f a_0) 12 = (v_35 : Int32).toInt := by rw [e_22]; rfl
      have fe_69 : fld (f a_0) 8 = (v_28 : Int32).toInt := by rw [e_22]; rfl
      have fe_70 : fld (f a_0) 9 = (v_30 : Int32).toInt := by rw [e_22]; rfl
      have fe_71 : fld (f a_0) 10 = (v_32 : Int32).toInt := by rw [e_22]; rfl
      have fe_72 : fld (f a_0) 12 = (v_35 : Int32).toInt := by rw [e_22]; rfl
      have fe_73 : fld (f a_0) 20 = (v_39 : Int32).toInt := by rw [e_22]; rfl
      have fe_74 : fld (f a_0) 8 = (v_28 : Int32).toInt := by rw [e_22]; rfl
      have fe_75 : fld (f a_0) 9 = (v_30 : Int32).toInt := by rw [e_22]; rfl
      have fe_76 : fld (f a_0) 10 = (v_32 : Int32).toInt := by rw [e_22]; rfl
      have fe_77 : fld (f a_0) 12 = (v_35 : Int32).toInt := by rw [e_22]; rfl
      exact hR _ _ _ _ _ _ dX12_ends_31 (Nat.le_of_ble_eq_true rfl) (Nat.le_of_ble_eq_true rfl) ⟨rfl, hW, FR.rf, (by simp only [fe_65, mz_43, true_and, and_true, or_true, true_or, false_or, or_false, false_and, and_false, not_true_eq_false, not_false_eq_true] <;> first | omega | (simp only [Int32.lt_iff_toInt_lt, Int32.le_iff_toInt_le, Int32.reduceToInt, ← Int32.toInt_inj, true_and, and_true, or_true, true_or, false_or, or_false, false_and, and_false, not_true_eq_false, not_false_eq_true] <;> omega)), (by simp only [fe_66, fe_67, fe_68, mz_41, mz_42, true_and, and_true, or_true, true_or, false_or, or_false, false_and, and_false, not_true_eq_false, not_false_eq_true] <;> first | omega | (simp only [Int32.lt_iff_toInt_lt, Int32.le_iff_toInt_le, Int32.reduceToInt, ← Int32.toInt_inj, true_and, and_true, or_true, true_or, false_or, or_false, false_and, and_false, not_true_eq_false, not_false_eq_true] <;> omega)), (by simp only [fe_69, fe_70, fe_71, fe_72, true_and, and_true, or_true, true_or, false_or, or_false, false_and, and_false, not_true_eq_false, not_false_eq_true] <;> first | omega | (simp only [Int32.lt_iff_toInt_lt, Int32.le_iff_toInt_le, Int32.reduceToInt, ← Int32.toInt_inj, true_and, and_true, or_true, true_or, false_or, or_false, false_and, and_false, not_true_eq_false, not_false_eq_true] <;> omega)), (by simp only [fe_73, mz_44, true_and, and_true, or_true, true_or, false_or, or_false, false_and, and_false, not_true_eq_false, not_false_eq_true] <;> first | omega | (simp only [Int32.lt_iff_toInt_lt, Int32.le_iff_toInt_le, Int32.reduceToInt, ← Int32.toInt_inj, true_and, and_true, or_true, true_or, false_or, or_false, false_and, and_false, not_true_eq_false, not_false_eq_true] <;> omega)), (by simp only [fe_74, fe_75, fe_76, fe_77, mz_41, mz_42, mz_43, true_and, and_true, or_true, true_or, false_or, or_false, false_and, and_false, not_true_eq_false, not_false_eq_true] <;> first | omega | (simp only [Int32.lt_iff_toInt_lt, Int32.le_iff_toInt_le, Int32.reduceToInt, ← Int32.toInt_inj, true_and, and_true, or_true, true_or, false_or, or_false, false_and, and_false, not_true_eq_false, not_false_eq_true] <;> omega))⟩
    · simp only [Int32.lt_iff_toInt_lt, Int32.le_iff_toInt_le, Int32.reduceToInt, ← Int32.toInt_inj] at h_64
      refine v_aload_n hC dX12_ends_27 rfl ?_
      refine v_vv hC (rest := []) m_1 e_22 rfl mi_X12_advance ms_X12_advance (p_X12_advance hW k_0) mx_X12_advance ml_X12_156 (by decide) rfl (cells1 := 0) (slots1 := 0) (by decide) (by decide) (Nat.le_of_ble_eq_true rfl) (Nat.le_of_ble_eq_true rfl) rfl (Nat.le_of_ble_eq_true rfl) dX12_ends_28 (fun L_79 f_80 h_81 => ?_)
      obtain ⟨rfl, hW_86, hF_87, x_82, x_83, x_84, x_85⟩ := h_81
      have fe_88 : fld (f a_0) 8 = (v_28 : Int32).toInt := by rw [e_22]; rfl
      have fe_89 : fld (f a_0) 12 = (v_35 : Int32).toInt := by rw [e_22]; rfl
      have fe_90 : fld (f a_0) 20 = (v_39 : Int32).toInt := by rw [e_22]; rfl
      obtain ⟨v_92, v_93, v_95, v_97, v_99, v_101, v_103, v_104, v_105, v_106, v_108, e_91, b_94, b_96, b_98, b_100, b_102, b_107, b_109⟩ := hW_86.at m_1 t_2
      have fe_110 : fld (f_80 a_0) 8 = (v_97 : Int32).toInt := by rw [e_91]; rfl
      have fe_111 : fld (f_80 a_0) 9 = (v_99 : Int32).toInt := by rw [e_91]; rfl
      have fe_112 : fld (f_80 a_0) 10 = (v_101 : Int32).toInt := by rw [e_91]; rfl
      have fe_113 : fld (f_80 a_0) 12 = (v_104 : Int32).toInt := by rw [e_91]; rfl
      have fe_114 : fld (f_80 a_0) 20 = (v_108 : Int32).toInt := by rw [e_91]; rfl
      rw [fe_88, fe_111, fe_110] at x_82
      rw [fe_112, fe_111, fe_110] at x_83
      rw [fe_113, fe_89] at x_84
      rw [fe_114, fe_90] at x_85
      clear fe_88 fe_89 fe_90 fe_110 fe_111 fe_112 fe_113 fe_114
      have fe_115 : fld (f_80 a_0) 12 = (v_104 : Int32).toInt := by rw [e_91]; rfl
      have fe_116 : fld (f_80 a_0) 8 = (v_97 : Int32).toInt := by rw [e_91]; rfl
      have fe_117 : fld (f_80 a_0) 9 = (v_99 : Int32).toInt := by rw [e_91]; rfl
      have fe_118 : fld (f_80 a_0) 12 = (v_104 : Int32).toInt := by rw [e_91]; rfl
      have fe_119 : fld (f_80 a_0) 8 = (v_97 : Int32).toInt := by rw [e_91]; rfl
      have fe_120 : fld (f_80 a_0) 9 = (v_99 : Int32).toInt := by rw [e_91]; rfl
      have fe_121 : fld (f_80 a_0) 10 = (v_101 : Int32).toInt := by rw [e_91]; rfl
      have fe_122 : fld (f_80 a_0) 12 = (v_104 : Int32).toInt := by rw [e_91]; rfl
      have fe_123 : fld (f_80 a_0) 20 = (v_108 : Int32).toInt := by rw [e_91]; rfl
      have fe_124 : fld (f_80 a_0) 8 = (v_97 : Int32).toInt := by rw [e_91]; rfl
      have fe_125 : fld (f_80 a_0) 9 = (v_99 : Int32).toInt := by rw [e_91]; rfl
      have fe_126 : fld (f_80 a_0) 10 = (v_101 : Int32).toInt := by rw [e_91]; rfl
      have fe_127 : fld (f_80 a_0) 12 = (v_104 : Int32).toInt := by rw [e_91]; rfl
      exact hR _ _ _ _ _ _ dX12_ends_31 (Nat.le_of_ble_eq_true rfl) (Nat.le_of_ble_eq_true rfl) ⟨rfl, hW_86, (hF_87.mono rfl), (by simp only [fe_115, mz_43, true_and, and_true, or_true, true_or, false_or, or_false, false_and, and_false, not_true_eq_false, not_false_eq_true] <;> first | omega | (simp only [Int32.lt_iff_toInt_lt, Int32.le_iff_toInt_le, Int32.reduceToInt, ← Int32.toInt_inj, true_and, and_true, or_true, true_or, false_or, or_false, false_and, and_false, not_true_eq_false, not_false_eq_true] <;> omega)), (by simp only [fe_116, fe_117, fe_118, mz_41, mz_42, true_and, and_true, or_true, true_or, false_or, or_false, false_and, and_false, not_true_eq_false, not_false_eq_true] <;> first | omega | (simp only [Int32.lt_iff_toInt_lt, Int32.le_iff_toInt_le, Int32.reduceToInt, ← Int32.toInt_inj, true_and, and_true, or_true, true_or, false_or, or_false, false_and, and_false, not_true_eq_false, not_false_eq_true] <;> omega)), (by simp only [fe_119, fe_120, fe_121, fe_122, true_and, and_true, or_true, true_or, false_or, or_false, false_and, and_false, not_true_eq_false, not_false_eq_true] <;> first | omega | (simp only [Int32.lt_iff_toInt_lt, Int32.le_iff_toInt_le, Int32.reduceToInt, ← Int32.toInt_inj, true_and, and_true, or_true, true_or, false_or, or_false, false_and, and_false, not_true_eq_false, not_false_eq_true] <;> omega)), (by simp only [fe_123, mz_44, true_and, and_true, or_true, true_or, false_or, or_false, false_and, and_false, not_true_eq_false, not_false_eq_true] <;> first | omega | (simp only [Int32.lt_iff_toInt_lt, Int32.le_iff_toInt_le, Int32.reduceToInt, ← Int32.toInt_inj, true_and, and_true, or_true, true_or, false_or, or_false, false_and, and_false, not_true_eq_false, not_false_eq_true] <;> omega)), (by simp only [fe_124, fe_125, fe_126, fe_127, mz_41, mz_42, mz_43, true_and, and_true, or_true, true_or, false_or, or_false, false_and, and_false, not_true_eq_false, not_false_eq_true] <;> first | omega | (simp only [Int32.lt_iff_toInt_lt, Int32.le_iff_toInt_le, Int32.reduceToInt, ← Int32.toInt_inj, true_and, and_true, or_true, true_or, false_or, or_false, false_and, and_false, not_true_eq_false, not_false_eq_true] <;> omega))⟩
  · simp only [Int32.lt_iff_toInt_lt, Int32.le_iff_toInt_le, Int32.reduceToInt, ← Int32.toInt_inj] at h_54
    refine v_aload_n hC dX12_ends_7 rfl ?_
    refine v_get hC fl_X12_120 m_1 e_22 rfl dX12_ends_8 ?_
    refine v_iconst hC dX12_ends_11 (v := 3) (by decide) ?_
    refine v_icmp_eq hC dX12_ends_12 (tgt := 20) (by decide) (fun h_128 => ?_) (fun h_128 => ?_)
    · simp only [Int32.lt_iff_toInt_lt, Int32.le_iff_toInt_le, Int32.reduceToInt, ← Int32.toInt_inj] at h_128
      refine v_aload_n hC dX12_ends_20 rfl ?_
      refine v_vi hC (rest := []) m_1 e_22 rfl mi_X12_good ms_X12_good (p_X12_good hW k_0) mx_X12_good ml_X12_139 (by decide) rfl (cells1 := 0) (slots1 := 0) (by decide) (by decide) (Nat.le_of_ble_eq_true rfl) (Nat.le_of_ble_eq_true rfl) rfl (Nat.le_of_ble_eq_true rfl) dX12_ends_21 (fun r_129 L_130 f_131 h_132 => ?_)
      obtain ⟨rfl, rfl, b_133, x_134⟩ := h_132
      have fe_137 : fld (f a_0) 12 = (v_35 : Int32).toInt := by rw [e_22]; rfl
      rw [fe_137] at x_134
      clear fe_137
      try simp only [Int32.reduceToInt, Int64.reduceToInt] at x_134
      refine v_if_eq hC dX12_ends_24 (tgt := 31) (by decide) (fun h_138 => ?_) (fun h_138 => ?_)
      · simp only [Int32.lt_iff_toInt_lt, Int32.le_iff_toInt_le, Int32.reduceToInt, ← Int32.toInt_inj] at h_138
        have fe_139 : fld (f a_0) 12 = (v_35 : Int32).toInt := by rw [e_22]; rfl
        have fe_140 : fld (f a_0) 8 = (v_28 : Int32).toInt := by rw [e_22]; rfl
        have fe_141 : fld (f a_0) 9 = (v_30 : Int32).toInt := by rw [e_22]; rfl
        have fe_142 : fld (f a_0) 12 = (v_35 : Int32).toInt := by rw [e_22]; rfl
        have fe_143 : fld (f a_0) 8 = (v_28 : Int32).toInt := by rw [e_22]; rfl
        have fe_144 : fld (f a_0) 9 = (v_30 : Int32).toInt := by rw [e_22]; rfl
        have fe_145 : fld (f a_0) 10 = (v_32 : Int32).toInt := by rw [e_22]; rfl
        have fe_146 : fld (f a_0) 12 = (v_35 : Int32).toInt := by rw [e_22]; rfl
        have fe_147 : fld (f a_0) 20 = (v_39 : Int32).toInt := by rw [e_22]; rfl
        have fe_148 : fld (f a_0) 8 = (v_28 : Int32).toInt := by rw [e_22]; rfl
        have fe_149 : fld (f a_0) 9 = (v_30 : Int32).toInt := by rw [e_22]; rfl
        have fe_150 : fld (f a_0) 10 = (v_32 : Int32).toInt := by rw [e_22]; rfl
        have fe_151 : fld (f a_0) 12 = (v_35 : Int32).toInt := by rw [e_22]; rfl
        exact hR _ _ _ _ _ _ dX12_ends_31 (Nat.le_of_ble_eq_true rfl) (Nat.le_of_ble_eq_true rfl) ⟨rfl, hW, FR.rf, (by simp only [fe_139, mz_43, true_and, and_true, or_true, true_or, false_or, or_false, false_and, and_false, not_true_eq_false, not_false_eq_true] <;> first | omega | (simp only [Int32.lt_iff_toInt_lt, Int32.le_iff_toInt_le, Int32.reduceToInt, ← Int32.toInt_inj, true_and, and_true, or_true, true_or, false_or, or_false, false_and, and_false, not_true_eq_false, not_false_eq_true] <;> omega)), (by simp only [fe_140, fe_141, fe_142, mz_41, mz_42, true_and, and_true, or_true, true_or, false_or, or_false, false_and, and_false, not_true_eq_false, not_false_eq_true] <;> first | omega | (simp only [Int32.lt_iff_toInt_lt, Int32.le_iff_toInt_le, Int32.reduceToInt, ← Int32.toInt_inj, true_and, and_true, or_true, true_or, false_or, or_false, false_and, and_false, not_true_eq_false, not_false_eq_true] <;> omega)), (by simp only [fe_143, fe_144, fe_145, fe_146, true_and, and_true, or_true, true_or, false_or, or_false, false_and, and_false, not_true_eq_false, not_false_eq_true] <;> first | omega | (simp only [Int32.lt_iff_toInt_lt, Int32.le_iff_toInt_le, Int32.reduceToInt, ← Int32.toInt_inj, true_and, and_true, or_true, true_or, false_or, or_false, false_and, and_false, not_true_eq_false, not_false_eq_true] <;> omega)), (by simp only [fe_147, mz_44, true_and, and_true, or_true, true_or, false_or, or_false, false_and, and_false, not_true_eq_false, not_false_eq_true] <;> first | omega | (simp only [Int32.lt_iff_toInt_lt, Int32.le_iff_toInt_le, Int32.reduceToInt, ← Int32.toInt_inj, true_and, and_true, or_true, true_or, false_or, or_false, false_and, and_false, not_true_eq_false, not_false_eq_true] <;> omega)), (by simp only [fe_148, fe_149, fe_150, fe_151, mz_41, mz_42, mz_43, true_and, and_true, or_true, true_or, false_or, or_false, false_and, and_false, not_true_eq_false, not_false_eq_true] <;> first | omega | (simp only [Int32.lt_iff_toInt_lt, Int32.le_iff_toInt_le, Int32.reduceToInt, ← Int32.toInt_inj, true_and, and_true, or_true, true_or, false_or, or_false, false_and, and_false, not_true_eq_false, not_false_eq_true] <;> omega))⟩
      · simp only [Int32.lt_iff_toInt_lt, Int32.le_iff_toInt_le, Int32.reduceToInt, ← Int32.toInt_inj] at h_138
        refine v_aload_n hC dX12_ends_27 rfl ?_
        refine v_vv hC (rest := []) m_1 e_22 rfl mi_X12_advance ms_X12_advance (p_X12_advance hW k_0) mx_X12_advance ml_X12_156 (by decide) rfl (cells1 := 0) (slots1 := 0) (by decide) (by decide) (Nat.le_of_ble_eq_true rfl) (Nat.le_of_ble_eq_true rfl) rfl (Nat.le_of_ble_eq_true rfl) dX12_ends_28 (fun L_153 f_154 h_155 => ?_)
        obtain ⟨rfl, hW_160, hF_161, x_156, x_157, x_158, x_159⟩ := h_155
        have fe_162 : fld (f a_0) 8 = (v_28 : Int32).toInt := by rw [e_22]; rfl
        have fe_163 : fld (f a_0) 12 = (v_35 : Int32).toInt := by rw [e_22]; rfl
        have fe_164 : fld (f a_0) 20 = (v_39 : Int32).toInt := by rw [e_22]; rfl
        obtain ⟨v_166, v_167, v_169, v_171, v_173, v_175, v_177, v_178, v_179, v_180, v_182, e_165, b_168, b_170, b_172, b_174, b_176, b_181, b_183⟩ := hW_160.at m_1 t_2
        have fe_184 : fld (f_154 a_0) 8 = (v_171 : Int32).toInt := by rw [e_165]; rfl
        have fe_185 : fld (f_154 a_0) 9 = (v_173 : Int32).toInt := by rw [e_165]; rfl
        have fe_186 : fld (f_154 a_0) 10 = (v_175 : Int32).toInt := by rw [e_165]; rfl
        have fe_187 : fld (f_154 a_0) 12 = (v_178 : Int32).toInt := by rw [e_165]; rfl
        have fe_188 : fld (f_154 a_0) 20 = (v_182 : Int32).toInt := by rw [e_165]; rfl
        rw [fe_162, fe_185, fe_184] at x_156
        rw [fe_186, fe_185, fe_184] at x_157
        rw [fe_187, fe_163] at x_158
        rw [fe_188, fe_164] at x_159
        clear fe_162 fe_163 fe_164 fe_184 fe_185 fe_186 fe_187 fe_188
        have fe_189 : fld (f_154 a_0) 12 = (v_178 : Int32).toInt := by rw [e_165]; rfl
        have fe_190 : fld (f_154 a_0) 8 = (v_171 : Int32).toInt := by rw [e_165]; rfl
        have fe_191 : fld (f_154 a_0) 9 = (v_173 : Int32).toInt := by rw [e_165]; rfl
        have fe_192 : fld (f_154 a_0) 12 = (v_178 : Int32).toInt := by rw [e_165]; rfl
        have fe_193 : fld (f_154 a_0) 8 = (v_171 : Int32).toInt := by rw [e_165]; rfl
        have fe_194 : fld (f_154 a_0) 9 = (v_173 : Int32).toInt := by rw [e_165]; rfl
        have fe_195 : fld (f_154 a_0) 10 = (v_175 : Int32).toInt := by rw [e_165]; rfl
        have fe_196 : fld (f_154 a_0) 12 = (v_178 : Int32).toInt := by rw [e_165]; rfl
        have fe_197 : fld (f_154 a_0) 20 = (v_182 : Int32).toInt := by rw [e_165]; rfl
        have fe_198 : fld (f_154 a_0) 8 = (v_171 : Int32).toInt := by rw [e_165]; rfl
        have fe_199 : fld (f_154 a_0) 9 = (v_173 : Int32).toInt := by rw [e_165]; rfl
        have fe_200 : fld (f_154 a_0) 10 = (v_175 : Int32).toInt := by rw [e_165]; rfl
        have fe_201 : fld (f_154 a_0) 12 = (v_178 : Int32).toInt := by rw [e_165]; rfl
        exact hR _ _ _ _ _ _ dX12_ends_31 (Nat.le_of_ble_eq_true rfl) (Nat.le_of_ble_eq_true rfl) ⟨rfl, hW_160, (hF_161.mono rfl), (by simp only [fe_189, mz_43, true_and, and_true, or_true, true_or, false_or, or_false, false_and, and_false, not_true_eq_false, not_false_eq_true] <;> first | omega | (simp only [Int32.lt_iff_toInt_lt, Int32.le_iff_toInt_le, Int32.reduceToInt, ← Int32.toInt_inj, true_and, and_true, or_true, true_or, false_or, or_false, false_and, and_false, not_true_eq_false, not_false_eq_true] <;> omega)), (by simp only [fe_190, fe_191, fe_192, mz_41, mz_42, true_and, and_true, or_true, true_or, false_or, or_false, false_and, and_false, not_true_eq_false, not_false_eq_true] <;> first | omega | (simp only [Int32.lt_iff_toInt_lt, Int32.le_iff_toInt_le, Int32.reduceToInt, ← Int32.toInt_inj, true_and, and_true, or_true, true_or, false_or, or_false, false_and, and_false, not_true_eq_false, not_false_eq_true] <;> omega)), (by simp only [fe_193, fe_194, fe_195, fe_196, true_and, and_true, or_true, true_or, false_or, or_false, false_and, and_false, not_true_eq_false, not_false_eq_true] <;> first | omega | (simp only [Int32.lt_iff_toInt_lt, Int32.le_iff_toInt_le, Int32.reduceToInt, ← Int32.toInt_inj, true_and, and_true, or_true, true_or, false_or, or_false, false_and, and_false, not_true_eq_false, not_false_eq_true] <;> omega)), (by simp only [fe_197, mz_44, true_and, and_true, or_true, true_or, false_or, or_false, false_and, and_false, not_true_eq_false, not_false_eq_true] <;> first | omega | (simp only [Int32.lt_iff_toInt_lt, Int32.le_iff_toInt_le, Int32.reduceToInt, ← Int32.toInt_inj, true_and, and_true, or_true, true_or, false_or, or_false, false_and, and_false, not_true_eq_false, not_false_eq_true] <;> omega)), (by simp only [fe_198, fe_199, fe_200, fe_201, mz_41, mz_42, mz_43, true_and, and_true, or_true, true_or, false_or, or_false, false_and, and_false, not_true_eq_false, not_false_eq_true] <;> first | omega | (simp only [Int32.lt_iff_toInt_lt, Int32.le_iff_toInt_le, Int32.reduceToInt, ← Int32.toInt_inj, true_and, and_true, or_true, true_or, false_or, or_false, false_and, and_false, not_true_eq_false, not_false_eq_true] <;> omega))⟩
    · simp only [Int32.lt_iff_toInt_lt, Int32.le_iff_toInt_le, Int32.reduceToInt, ← Int32.toInt_inj] at h_128
      refine v_aload_n hC dX12_ends_15 rfl ?_
      refine v_iconst hC dX12_ends_16 (v := 1) (by decide) ?_
      refine v_vv hC (rest := []) m_1 e_22 rfl mi_X12_errs ms_X12_errs (p_X12_errs hW k_0 (by decide)) mx_X12_errs ml_X12_162 (by decide) rfl (cells1 := 0) (slots1 := 0) (by decide) (by decide) (Nat.le_of_ble_eq_true rfl) (Nat.le_of_ble_eq_true rfl) rfl (Nat.le_of_ble_eq_true rfl) dX12_ends_17 (fun L_203 f_204 h_205 => ?_)
      obtain ⟨rfl, hW_211, hF_212, x_206, x_207, x_208, x_209, x_210⟩ := h_205
      have fe_213 : fld (f a_0) 8 = (v_28 : Int32).toInt := by rw [e_22]; rfl
      have fe_214 : fld (f a_0) 9 = (v_30 : Int32).toInt := by rw [e_22]; rfl
      have fe_215 : fld (f a_0) 10 = (v_32 : Int32).toInt := by rw [e_22]; rfl
      have fe_216 : fld (f a_0) 20 = (v_39 : Int32).toInt := by rw [e_22]; rfl
      obtain ⟨v_218, v_219, v_221, v_223, v_225, v_227, v_229, v_230, v_231, v_232, v_234, e_217, b_220, b_222, b_224, b_226, b_228, b_233, b_235⟩ := hW_211.at m_1 t_2
      have fe_236 : fld (f_204 a_0) 8 = (v_223 : Int32).toInt := by rw [e_217]; rfl
      have fe_237 : fld (f_204 a_0) 9 = (v_225 : Int32).toInt := by rw [e_217]; rfl
      have fe_238 : fld (f_204 a_0) 10 = (v_227 : Int32).toInt := by rw [e_217]; rfl
      have fe_239 : fld (f_204 a_0) 12 = (v_230 : Int32).toInt := by rw [e_217]; rfl
      have fe_240 : fld (f_204 a_0) 20 = (v_234 : Int32).toInt := by rw [e_217]; rfl
      rw [fe_239] at x_206
      rw [fe_236, fe_213] at x_207
      rw [fe_237, fe_214] at x_208
      rw [fe_238, fe_215] at x_209
      rw [fe_240, fe_216] at x_210
      clear fe_213 fe_214 fe_215 fe_216 fe_236 fe_237 fe_238 fe_239 fe_240
      refine v_aload_n hC dX12_ends_20 rfl ?_
      refine v_vi hC (rest := []) m_1 e_217 rfl mi_X12_good ms_X12_good (p_X12_good hW_211 k_0) mx_X12_good ml_X12_139 (by decide) rfl (cells1 := 0) (slots1 := 0) (by decide) (by decide) (Nat.le_of_ble_eq_true rfl) (Nat.le_of_ble_eq_true rfl) rfl (Nat.le_of_ble_eq_true rfl) dX12_ends_21 (fun r_241 L_242 f_243 h_244 => ?_)
      obtain ⟨rfl, rfl, b_245, x_246⟩ := h_244
      have fe_249 : fld (f_204 a_0) 12 = (v_230 : Int32).toInt := by rw [e_217]; rfl
      rw [fe_249] at x_246
      clear fe_249
      try simp only [Int32.reduceToInt, Int64.reduceToInt] at x_246
      refine v_if_eq hC dX12_ends_24 (tgt := 31) (by decide) (fun h_250 => ?_) (fun h_250 => ?_)
      · simp only [Int32.lt_iff_toInt_lt, Int32.le_iff_toInt_le, Int32.reduceToInt, ← Int32.toInt_inj] at h_250
        have fe_251 : fld (f_204 a_0) 12 = (v_230 : Int32).toInt := by rw [e_217]; rfl
        have fe_252 : fld (f_204 a_0) 8 = (v_223 : Int32).toInt := by rw [e_217]; rfl
        have fe_253 : fld (f_204 a_0) 9 = (v_225 : Int32).toInt := by rw [e_217]; rfl
        have fe_254 : fld (f_204 a_0) 12 = (v_230 : Int32).toInt := by rw [e_217]; rfl
        have fe_255 : fld (f_204 a_0) 8 = (v_223 : Int32).toInt := by rw [e_217]; rfl
        have fe_256 : fld (f_204 a_0) 9 = (v_225 : Int32).toInt := by rw [e_217]; rfl
        have fe_257 : fld (f_204 a_0) 10 = (v_227 : Int32).toInt := by rw [e_217]; rfl
        have fe_258 : fld (f_204 a_0) 12 = (v_230 : Int32).toInt := by rw [e_217]; rfl
        have fe_259 : fld (f_204 a_0) 20 = (v_234 : Int32).toInt := by rw [e_217]; rfl
        have fe_260 : fld (f_204 a_0) 8 = (v_223 : Int32).toInt := by rw [e_217]; rfl
        have fe_261 : fld (f_204 a_0) 9 = (v_225 : Int32).toInt := by rw [e_217]; rfl
        have fe_262 : fld (f_204 a_0) 10 = (v_227 : Int32).toInt := by rw [e_217]; rfl
        have fe_263 : fld (f_204 a_0) 12 = (v_230 : Int32).toInt := by rw [e_217]; rfl
        exact hR _ _ _ _ _ _ dX12_ends_31 (Nat.le_of_ble_eq_true rfl) (Nat.le_of_ble_eq_true rfl) ⟨rfl, hW_211, (hF_212.mono rfl), (by simp only [fe_251, mz_43, true_and, and_true, or_true, true_or, false_or, or_false, false_and, and_false, not_true_eq_false, not_false_eq_true] <;> first | omega | (simp only [Int32.lt_iff_toInt_lt, Int32.le_iff_toInt_le, Int32.reduceToInt, ← Int32.toInt_inj, true_and, and_true, or_true, true_or, false_or, or_false, false_and, and_false, not_true_eq_false, not_false_eq_true] <;> omega)), (by simp only [fe_252, fe_253, fe_254, mz_41, mz_42, true_and, and_true, or_true, true_or, false_or, or_false, false_and, and_false, not_true_eq_false, not_false_eq_true] <;> first | omega | (simp only [Int32.lt_iff_toInt_lt, Int32.le_iff_toInt_le, Int32.reduceToInt, ← Int32.toInt_inj, true_and, and_true, or_true, true_or, false_or, or_false, false_and, and_false, not_true_eq_false, not_false_eq_true] <;> omega)), (by simp only [fe_255, fe_256, fe_257, fe_258, true_and, and_true, or_true, true_or, false_or, or_false, false_and, and_false, not_true_eq_false, not_false_eq_true] <;> first | omega | (simp only [Int32.lt_iff_toInt_lt, Int32.le_iff_toInt_le, Int32.reduceToInt, ← Int32.toInt_inj, true_and, and_true, or_true, true_or, false_or, or_false, false_and, and_false, not_true_eq_false, not_false_eq_true] <;> omega)), (by simp only [fe_259, mz_44, true_and, and_true, or_true, true_or, false_or, or_false, false_and, and_false, not_true_eq_false, not_false_eq_true] <;> first | omega | (simp only [Int32.lt_iff_toInt_lt, Int32.le_iff_toInt_le, Int32.reduceToInt, ← Int32.toInt_inj, true_and, and_true, or_true, true_or, false_or, or_false, false_and, and_false, not_true_eq_false, not_false_eq_true] <;> omega)), (by simp only [fe_260, fe_261, fe_262, fe_263, mz_41, mz_42, mz_43, true_and, and_true, or_true, true_or, false_or, or_false, false_and, and_false, not_true_eq_false, not_false_eq_true] <;> first | omega | (simp only [Int32.lt_iff_toInt_lt, Int32.le_iff_toInt_le, Int32.reduceToInt, ← Int32.toInt_inj, true_and, and_true, or_true, true_or, false_or, or_false, false_and, and_false, not_true_eq_false, not_false_eq_true] <;> omega))⟩
      · simp only [Int32.lt_iff_toInt_lt, Int32.le_iff_toInt_le, Int32.reduceToInt, ← Int32.toInt_inj] at h_250
        refine v_aload_n hC dX12_ends_27 rfl ?_
        refine v_vv hC (rest := []) m_1 e_217 rfl mi_X12_advance ms_X12_advance (p_X12_advance hW_211 k_0) mx_X12_advance ml_X12_156 (by decide) rfl (cells1 := 0) (slots1 := 0) (by decide) (by decide) (Nat.le_of_ble_eq_true rfl) (Nat.le_of_ble_eq_true rfl) rfl (Nat.le_of_ble_eq_true rfl) dX12_ends_28 (fun L_265 f_266 h_267 => ?_)
        obtain ⟨rfl, hW_272, hF_273, x_268, x_269, x_270, x_271⟩ := h_267
        have fe_274 : fld (f_204 a_0) 8 = (v_223 : Int32).toInt := by rw [e_217]; rfl
        have fe_275 : fld (f_204 a_0) 12 = (v_230 : Int32).toInt := by rw [e_217]; rfl
        have fe_276 : fld (f_204 a_0) 20 = (v_234 : Int32).toInt := by rw [e_217]; rfl
        obtain ⟨v_278, v_279, v_281, v_283, v_285, v_287, v_289, v_290, v_291, v_292, v_294, e_277, b_280, b_282, b_284, b_286, b_288, b_293, b_295⟩ := hW_272.at m_1 t_2
        have fe_296 : fld (f_266 a_0) 8 = (v_283 : Int32).toInt := by rw [e_277]; rfl
        have fe_297 : fld (f_266 a_0) 9 = (v_285 : Int32).toInt := by rw [e_277]; rfl
        have fe_298 : fld (f_266 a_0) 10 = (v_287 : Int32).toInt := by rw [e_277]; rfl
        have fe_299 : fld (f_266 a_0) 12 = (v_290 : Int32).toInt := by rw [e_277]; rfl
        have fe_300 : fld (f_266 a_0) 20 = (v_294 : Int32).toInt := by rw [e_277]; rfl
        rw [fe_274, fe_297, fe_296] at x_268
        rw [fe_298, fe_297, fe_296] at x_269
        rw [fe_299, fe_275] at x_270
        rw [fe_300, fe_276] at x_271
        clear fe_274 fe_275 fe_276 fe_296 fe_297 fe_298 fe_299 fe_300
        have fe_301 : fld (f_266 a_0) 12 = (v_290 : Int32).toInt := by rw [e_277]; rfl
        have fe_302 : fld (f_266 a_0) 8 = (v_283 : Int32).toInt := by rw [e_277]; rfl
        have fe_303 : fld (f_266 a_0) 9 = (v_285 : Int32).toInt := by rw [e_277]; rfl
        have fe_304 : fld (f_266 a_0) 12 = (v_290 : Int32).toInt := by rw [e_277]; rfl
        have fe_305 : fld (f_266 a_0) 8 = (v_283 : Int32).toInt := by rw [e_277]; rfl
        have fe_306 : fld (f_266 a_0) 9 = (v_285 : Int32).toInt := by rw [e_277]; rfl
        have fe_307 : fld (f_266 a_0) 10 = (v_287 : Int32).toInt := by rw [e_277]; rfl
        have fe_308 : fld (f_266 a_0) 12 = (v_290 : Int32).toInt := by rw [e_277]; rfl
        have fe_309 : fld (f_266 a_0) 20 = (v_294 : Int32).toInt := by rw [e_277]; rfl
        have fe_310 : fld (f_266 a_0) 8 = (v_283 : Int32).toInt := by rw [e_277]; rfl
        have fe_311 : fld (f_266 a_0) 9 = (v_285 : Int32).toInt := by rw [e_277]; rfl
        have fe_312 : fld (f_266 a_0) 10 = (v_287 : Int32).toInt := by rw [e_277]; rfl
        have fe_313 : fld (f_266 a_0) 12 = (v_290 : Int32).toInt := by rw [e_277]; rfl
        exact hR _ _ _ _ _ _ dX12_ends_31 (Nat.le_of_ble_eq_true rfl) (Nat.le_of_ble_eq_true rfl) ⟨rfl, hW_272, ((hF_212.tr hF_273).mono rfl), (by simp only [fe_301, mz_43, true_and, and_true, or_true, true_or, false_or, or_false, false_and, and_false, not_true_eq_false, not_false_eq_true] <;> first | omega | (simp only [Int32.lt_iff_toInt_lt, Int32.le_iff_toInt_le, Int32.reduceToInt, ← Int32.toInt_inj, true_and, and_true, or_true, true_or, false_or, or_false, false_and, and_false, not_true_eq_false, not_false_eq_true] <;> omega)), (by simp only [fe_302, fe_303, fe_304, mz_41, mz_42, true_and, and_true, or_true, true_or, false_or, or_false, false_and, and_false, not_true_eq_false, not_false_eq_true] <;> first | omega | (simp only [Int32.lt_iff_toInt_lt, Int32.le_iff_toInt_le, Int32.reduceToInt, ← Int32.toInt_inj, true_and, and_true, or_true, true_or, false_or, or_false, false_and, and_false, not_true_eq_false, not_false_eq_true] <;> omega)), (by simp only [fe_305, fe_306, fe_307, fe_308, true_and, and_true, or_true, true_or, false_or, or_false, false_and, and_false, not_true_eq_false, not_false_eq_true] <;> first | omega | (simp only [Int32.lt_iff_toInt_lt, Int32.le_iff_toInt_le, Int32.reduceToInt, ← Int32.toInt_inj, true_and, and_true, or_true, true_or, false_or, or_false, false_and, and_false, not_true_eq_false, not_false_eq_true] <;> omega)), (by simp only [fe_309, mz_44, true_and, and_true, or_true, true_or, false_or, or_false, false_and, and_false, not_true_eq_false, not_false_eq_true] <;> first | omega | (simp only [Int32.lt_iff_toInt_lt, Int32.le_iff_toInt_le, Int32.reduceToInt, ← Int32.toInt_inj, true_and, and_true, or_true, true_or, false_or, or_false, false_and, and_false, not_true_eq_false, not_false_eq_true] <;> omega)), (by simp only [fe_310, fe_311, fe_312, fe_313, mz_41, mz_42, mz_43, true_and, and_true, or_true, true_or, false_or, or_false, false_and, and_false, not_true_eq_false, not_false_eq_true] <;> first | omega | (simp only [Int32.lt_iff_toInt_lt, Int32.le_iff_toInt_le, Int32.reduceToInt, ← Int32.toInt_inj, true_and, and_true, or_true, true_or, false_or, or_false, false_and, and_false, not_true_eq_false, not_false_eq_true] <;> omega))⟩
set_option maxRecDepth 100000 in
set_option maxHeartbeats 8000000 in
theorem p_X12_number {l : Launch} {E : Ez} {L : List Nat} {f : Nat → va_E} {T : Nat → va_E → Prop} {a_0 : Nat} {a_1 : Int32} {a_2 : Int32} {q : Nat → Nat} (hW : WT T L f) (k_0 : isM T L E a_0 q) : CI l yX12_number cX12_number 4 .int 2 0 0 E [.ref a_0, .int a_1, .int a_2] L f (fun r L1 f1 => L = L1 ∧ WT T L f1 ∧ FR [12] f f1 ∧ (¬ fld (f1 a_0) 12 = 0 ∨ (fld (f a_0) 12 = 0 ∧ a_1.toInt ≤ r.toInt ∧ r.toInt ≤ a_2.toInt)) ∧ (¬ fld (f1 a_0) 12 = 0 ∨ (fld (f a_0) 10 = 2 ∧ fld (f a_0) 8 ≤ fld (f1 a_0) 9 ∧ fld (f1 a_0) 9 ≤ fld (f1 a_0) 8)) ∧ (¬ fld (f1 a_0) 12 = 0 ∨ fld (f1 a_0) 10 = 0 ∨ fld (f1 a_0) 9 < fld (f1 a_0) 8) ∧ (fld (f1 a_0) 12 = 0 ∨ r.toInt = 0) ∧ fld (f1 a_0) 20 = fld (f a_0) 20 ∧ (¬ fld (f1 a_0) 12 = 0 ∨ (fld (f a_0) 12 = 0 ∧ a_1.toInt ≤ r.toInt ∧ r.toInt ≤ a_2.toInt ∧ fld (f a_0) 10 = 2 ∧ fld (f a_0) 8 ≤ fld (f1 a_0) 9 ∧ fld (f1 a_0) 9 ≤ fld (f1 a_0) 8 ∧ (fld (f1 a_0) 10 = 0 ∨ fld (f1 a_0) 9 < fld (f1 a_0) 8)))) := by
  refine ci_of (by decide) (Nat.le_of_ble_eq_true rfl) (fun z hz hnm hC hR => ?_)
  have hC : Cx z E cX12_number RX12 4 2 0 0 := hC
  subst hz
  show V z E 4 0 0 L f 0 [(0, .ref a_0), (1, .int a_1), (2, .int a_2)] []
  obtain ⟨m_1, t_2, nq_21, k_3, k_4, k_5, k_6, k_7, k_8, k_9, k_10, k_11, k_12, k_13, k_14, k_15, k_16, k_17, k_18, k_19, k_20⟩ := id k_0
  obtain ⟨v_23, v_24, v_26, v_28, v_30, v_32, v_34, v_35, v_36, v_37, v_39, e_22, b_25, b_27, b_29, b_31, b_33, b_38, b_40⟩ := hW.at m_1 t_2
  have mz_41 : fld (f a_0) 8 = v_28.toInt := by rw [e_22]; rfl
  have mz_42 : fld (f a_0) 10 = v_32.toInt := by rw [e_22]; rfl
  have mz_43 : fld (f a_0) 12 = v_35.toInt := by rw [e_22]; rfl
  have mz_44 : fld (f a_0) 20 = v_39.toInt := by rw [e_22]; rfl
  refine v_aload_n hC dX12_number_0 rfl ?_
  refine v_vi hC (rest := []) m_1 e_22 rfl mi_X12_good ms_X12_good (p_X12_good hW k_0) mx_X12_good ml_X12_139 (by decide) rfl (cells1 := 0) (slots1 := 0) (by decide) (by decide) (Nat.le_of_ble_eq_true rfl) (Nat.le_of_ble_eq_true rfl) rfl (Nat.le_of_ble_eq_true rfl) dX12_number_1 (fun r_45 L_46 f_47 h_48 => ?_)
  obtain ⟨rfl, rfl, b_49, x_50⟩ := h_48
  have fe_53 : fld (f a_0) 12 = (v_35 : Int32).toInt := by rw [e_22]; rfl
  rw [fe_53] at x_50
  clear fe_53
  try simp only [Int32.reduceToInt, Int64.reduceToInt] at x_50
  refine v_if_eq hC dX12_number_4 (tgt := 20) (by decide) (fun h_54 => ?_) (fun h_54 => ?_)
  · simp only [Int32.lt_iff_toInt_lt, Int32.le_iff_toInt_le, Int32.reduceToInt, ← Int32.toInt_inj] at h_54
    refine v_aload_n hC dX12_number_20 rfl ?_
    refine v_vi hC (rest := []) m_1 e_22 rfl mi_X12_good ms_X12_good (p_X12_good hW k_0) mx_X12_good ml_X12_139 (by decide) rfl (cells1 := 0) (slots1 := 0) (by decide) (by decide) (Nat.le_of_ble_eq_true rfl) (Nat.le_of_ble_eq_true rfl) rfl (Nat.le_of_ble_eq_true rfl) dX12_number_21 (fun r_55 L_56 f_57 h_58 => ?_)
    obtain ⟨rfl, rfl, b_59, x_60⟩ := h_58
    have fe_63 : fld (f a_0) 12 = (v_35 : Int32).toInt := by rw [e_22]; rfl
    rw [fe_63] at x_60
    clear fe_63
    try simp only [Int32.reduceToInt, Int64.reduceToInt] at x_60
    refine v_if_eq hC dX12_number_24 (tgt := 47) (by decide) (fun h_64 => ?_) (fun h_64 => ?_)
    · simp only [Int32.lt_iff_toInt_lt, Int32.le_iff_toInt_le, Int32.reduceToInt, ← Int32.toInt_inj] at h_64
      refine v_aload_n hC dX12_number_47 rfl ?_
      refine v_vi hC (rest := []) m_1 e_22 rfl mi_X12_good ms_X12_good (p_X12_good hW k_0) mx_X12_good ml_X12_139 (by decide) rfl (cells1 := 0) (slots1 := 0) (by decide) (by decide) (Nat.le_of_ble_eq_true rfl) (Nat.le_of_ble_eq_true rfl) rfl (Nat.le_of_ble_eq_true rfl) dX12_number_48 (fun r_65 L_66 f_67 h_68 => ?_)
      obtain ⟨rfl, rfl, b_69, x_70⟩ := h_68
      have fe_73 : fld (f a_0) 12 = (v_35 : Int32).toInt := by rw [e_22]; rfl
      rw [fe_73] at x_70
      clear fe_73
      try simp only [Int32.reduceToInt, Int64.reduceToInt] at x_70
      refine v_if_ne hC dX12_number_51 (tgt := 56) (by decide) (fun h_74 => ?_) (fun h_74 => ?_)
      · simp only [Int32.lt_iff_toInt_lt, Int32.le_iff_toInt_le, Int32.reduceToInt, ← Int32.toInt_inj] at h_74
        refine v_aload_n hC dX12_number_56 rfl ?_
        refine v_get hC fl_X12_131 m_1 e_22 rfl dX12_number_57 ?_
        refine v_istore_n hC dX12_number_60 (by decide) (lv' := [(3, .int v_34), (0, .ref a_0), (1, .int a_1), (2, .int a_2)]) rfl ?_
        refine v_aload_n hC dX12_number_61 rfl ?_
        refine v_vv hC (rest := []) m_1 e_22 rfl mi_X12_advance ms_X12_advance (p_X12_advance hW k_0) mx_X12_advance ml_X12_156 (by decide) rfl (cells1 := 0) (slots1 := 0) (by decide) (by decide) (Nat.le_of_ble_eq_true rfl) (Nat.le_of_ble_eq_true rfl) rfl (Nat.le_of_ble_eq_true rfl) dX12_number_62 (fun L_76 f_77 h_78 => ?_)
        obtain ⟨rfl, hW_83, hF_84, x_79, x_80, x_81, x_82⟩ := h_78
        have fe_85 : fld (f a_0) 8 = (v_28 : Int32).toInt := by rw [e_22]; rfl
        have fe_86 : fld (f a_0) 12 = (v_35 : Int32).toInt := by rw [e_22]; rfl
        have fe_87 : fld (f a_0) 20 = (v_39 : Int32).toInt := by rw [e_22]; rfl
        obtain ⟨v_89, v_90, v_92, v_94, v_96, v_98, v_100, v_101, v_102, v_103, v_105, e_88, b_91, b_93, b_95, b_97, b_99, b_104, b_106⟩ := hW_83.at m_1 t_2
        have fe_107 : fld (f_77 a_0) 8 = (v_94 : Int32).toInt := by rw [e_88]; rfl
        have fe_108 : fld (f_77 a_0) 9 = (v_96 : Int32).toInt := by rw [e_88]; rfl
        have fe_109 : fld (f_77 a_0) 10 = (v_98 : Int32).toInt := by rw [e_88]; rfl
        have fe_110 : fld (f_77 a_0) 12 = (v_101 : Int32).toInt := by rw [e_88]; rfl
        have fe_111 : fld (f_77 a_0) 20 = (v_105 : Int32).toInt := by rw [e_88]; rfl
        rw [fe_85, fe_108, fe_107] at x_79
        rw [fe_109, fe_108, fe_107] at x_80
        rw [fe_110, fe_86] at x_81
        rw [fe_111, fe_87] at x_82
        clear fe_85 fe_86 fe_87 fe_107 fe_108 fe_109 fe_110 fe_111
        refine v_iload_n hC dX12_number_65 rfl ?_
        have fe_112 : fld (f_77 a_0) 12 = (v_101 : Int32).toInt := by rw [e_88]; rfl
        have fe_113 : fld (f_77 a_0) 8 = (v_94 : Int32).toInt := by rw [e_88]; rfl
        have fe_114 : fld (f_77 a_0) 9 = (v_96 : Int32).toInt := by rw [e_88]; rfl
        have fe_115 : fld (f_77 a_0) 12 = (v_101 : Int32).toInt := by rw [e_88]; rfl
        have fe_116 : fld (f_77 a_0) 8 = (v_94 : Int32).toInt := by rw [e_88]; rfl
        have fe_117 : fld (f_77 a_0) 9 = (v_96 : Int32).toInt := by rw [e_88]; rfl
        have fe_118 : fld (f_77 a_0) 10 = (v_98 : Int32).toInt := by rw [e_88]; rfl
        have fe_119 : fld (f_77 a_0) 12 = (v_101 : Int32).toInt := by rw [e_88]; rfl
        have fe_120 : fld (f_77 a_0) 12 = (v_101 : Int32).toInt := by rw [e_88]; rfl
        have fe_121 : fld (f_77 a_0) 20 = (v_105 : Int32).toInt := by rw [e_88]; rfl
        have fe_122 : fld (f_77 a_0) 8 = (v_94 : Int32).toInt := by rw [e_88]; rfl
        have fe_123 : fld (f_77 a_0) 9 = (v_96 : Int32).toInt := by rw [e_88]; rfl
        have fe_124 : fld (f_77 a_0) 10 = (v_98 : Int32).toInt := by rw [e_88]; rfl
        have fe_125 : fld (f_77 a_0) 12 = (v_101 : Int32).toInt := by rw [e_88]; rfl
        exact hR _ _ _ _ _ _ _ dX12_number_66 rfl (Nat.le_of_ble_eq_true rfl) (Nat.le_of_ble_eq_true rfl) ⟨rfl, hW_83, (hF_84.mono rfl), (by simp only [fe_112, mz_43, true_and, and_true, or_true, true_or, false_or, or_false, false_and, and_false, not_true_eq_false, not_false_eq_true] <;> first | omega | (simp only [Int32.lt_iff_toInt_lt, Int32.le_iff_toInt_le, Int32.reduceToInt, ← Int32.toInt_inj, true_and, and_true, or_true, true_or, false_or, or_false, false_and, and_false, not_true_eq_false, not_false_eq_true] <;> omega)), (by simp only [fe_113, fe_114, fe_115, mz_41, mz_42, true_and, and_true, or_true, true_or, false_or, or_false, false_and, and_false, not_true_eq_false, not_false_eq_true] <;> first | omega | (simp only [Int32.lt_iff_toInt_lt, Int32.le_iff_toInt_le, Int32.reduceToInt, ← Int32.toInt_inj, true_and, and_true, or_true, true_or, false_or, or_false, false_and, and_false, not_true_eq_false, not_false_eq_true] <;> omega)), (by simp only [fe_116, fe_117, fe_118, fe_119, true_and, and_true, or_true, true_or, false_or, or_false, false_and, and_false, not_true_eq_false, not_false_eq_true] <;> first | omega | (simp only [Int32.lt_iff_toInt_lt, Int32.le_iff_toInt_le, Int32.reduceToInt, ← Int32.toInt_inj, true_and, and_true, or_true, true_or, false_or, or_false, false_and, and_false, not_true_eq_false, not_false_eq_true] <;> omega)), (by simp only [fe_120, true_and, and_true, or_true, true_or, false_or, or_false, false_and, and_false, not_true_eq_false, not_false_eq_true] <;> first | omega | (simp only [Int32.lt_iff_toInt_lt, Int32.le_iff_toInt_le, Int32.reduceToInt, ← Int32.toInt_inj, true_and, and_true, or_true, true_or, false_or, or_false, false_and, and_false, not_true_eq_false, not_false_eq_true] <;> omega)), (by simp only [fe_121, mz_44, true_and, and_true, or_true, true_or, false_or, or_false, false_and, and_false, not_true_eq_false, not_false_eq_true] <;> first | omega | (simp only [Int32.lt_iff_toInt_lt, Int32.le_iff_toInt_le, Int32.reduceToInt, ← Int32.toInt_inj, true_and, and_true, or_true, true_or, false_or, or_false, false_and, and_false, not_true_eq_false, not_false_eq_true] <;> omega)), (by simp only [fe_122, fe_123, fe_124, fe_125, mz_41, mz_42, mz_43, true_and, and_true, or_true, true_or, false_or, or_false, false_and, and_false, not_true_eq_false, not_false_eq_true] <;> first | omega | (simp only [Int32.lt_iff_toInt_lt, Int32.le_iff_toInt_le, Int32.reduceToInt, ← Int32.toInt_inj, true_and, and_true, or_true, true_or, false_or, or_false, false_and, and_false, not_true_eq_false, not_false_eq_true] <;> omega))⟩
      · simp only [Int32.lt_iff_toInt_lt, Int32.le_iff_toInt_le, Int32.reduceToInt, ← Int32.toInt_inj] at h_74
        refine v_iconst hC dX12_number_54 (v := 0) (by decide) ?_
        have fe_126 : fld (f a_0) 12 = (v_35 : Int32).toInt := by rw [e_22]; rfl
        have fe_127 : fld (f a_0) 8 = (v_28 : Int32).toInt := by rw [e_22]; rfl
        have fe_128 : fld (f a_0) 9 = (v_30 : Int32).toInt := by rw [e_22]; rfl
        have fe_129 : fld (f a_0) 12 = (v_35 : Int32).toInt := by rw [e_22]; rfl
        have fe_130 : fld (f a_0) 8 = (v_28 : Int32).toInt := by rw [e_22]; rfl
        have fe_131 : fld (f a_0) 9 = (v_30 : Int32).toInt := by rw [e_22]; rfl
        have fe_132 : fld (f a_0) 10 = (v_32 : Int32).toInt := by rw [e_22]; rfl
        have fe_133 : fld (f a_0) 12 = (v_35 : Int32).toInt := by rw [e_22]; rfl
        have fe_134 : fld (f a_0) 12 = (v_35 : Int32).toInt := by rw [e_22]; rfl
        have fe_135 : fld (f a_0) 20 = (v_39 : Int32).toInt := by rw [e_22]; rfl
        have fe_136 : fld (f a_0) 8 = (v_28 : Int32).toInt := by rw [e_22]; rfl
        have fe_137 : fld (f a_0) 9 = (v_30 : Int32).toInt := by rw [e_22]; rfl
        have fe_138 : fld (f a_0) 10 = (v_32 : Int32).toInt := by rw [e_22]; rfl
        have fe_139 : fld (f a_0) 12 = (v_35 : Int32).toInt := by rw [e_22]; rfl
        exact hR _ _ _ _ _ _ _ dX12_number_55 rfl (Nat.le_of_ble_eq_true rfl) (Nat.le_of_ble_eq_true rfl) ⟨rfl, hW, FR.rf, (by simp only [fe_126, mz_43, true_and, and_true, or_true, true_or, false_or, or_false, false_and, and_false, not_true_eq_false, not_false_eq_true] <;> first | omega | (simp only [Int32.lt_iff_toInt_lt, Int32.le_iff_toInt_le, Int32.reduceToInt, ← Int32.toInt_inj, true_and, and_true, or_true, true_or, false_or, or_false, false_and, and_false, not_true_eq_false, not_false_eq_true] <;> omega)), (by simp only [fe_127, fe_128, fe_129, mz_41, mz_42, true_and, and_true, or_true, true_or, false_or, or_false, false_and, and_false, not_true_eq_false, not_false_eq_true] <;> first | omega | (simp only [Int32.lt_iff_toInt_lt, Int32.le_iff_toInt_le, Int32.reduceToInt, ← Int32.toInt_inj, true_and, and_true, or_true, true_or, false_or, or_false, false_and, and_false, not_true_eq_false, not_false_eq_true] <;> omega)), (by simp only [fe_130, fe_131, fe_132, fe_133, true_and, and_true, or_true, true_or, false_or, or_false, false_and, and_false, not_true_eq_false, not_false_eq_true] <;> first | omega | (simp only [Int32.lt_iff_toInt_lt, Int32.le_iff_toInt_le, Int32.reduceToInt, ← Int32.toInt_inj, true_and, and_true, or_true, true_or, false_or, or_false, false_and, and_false, not_true_eq_false, not_false_eq_true] <;> omega)), (by simp only [fe_134, true_and, and_true, or_true, true_or, false_or, or_false, false_and, and_false, not_true_eq_false, not_false_eq_true] <;> first | omega | (simp only [Int32.lt_iff_toInt_lt, Int32.le_iff_toInt_le, Int32.reduceToInt, ← Int32.toInt_inj, true_and, and_true, or_true, true_or, false_or, or_false, false_and, and_false, not_true_eq_false, not_false_eq_true] <;> omega)), (by simp only [fe_135, mz_44, true_and, and_true, or_true, true_or, false_or, or_false, false_and, and_false, not_true_eq_false, not_false_eq_true] <;> first | omega | (simp only [Int32.lt_iff_toInt_lt, Int32.le_iff_toInt_le, Int32.reduceToInt, ← Int32.toInt_inj, true_and, and_true, or_true, true_or, false_or, or_false, false_and, and_false, not_true_eq_false, not_false_eq_true] <;> omega)), (by simp only [fe_136, fe_137, fe_138, fe_139, mz_41, mz_42, mz_43, true_and, and_true, or_true, true_or, false_or, or_false, false_and, and_false, not_true_eq_false, not_false_eq_true] <;> first | omega | (simp only [Int32.lt_iff_toInt_lt, Int32.le_iff_toInt_le, Int32.reduceToInt, ← Int32.toInt_inj, true_and, and_true, or_true, true_or, false_or, or_false, false_and, and_false, not_true_eq_false, not_false_eq_true] <;> omega))⟩
    · simp only [Int32.lt_iff_toInt_lt, Int32.le_iff_toInt_le, Int32.reduceToInt, ← Int32.toInt_inj] at h_64
      refine v_aload_n hC dX12_number_27 rfl ?_
      refine v_get hC fl_X12_131 m_1 e_22 rfl dX12_number_28 ?_
      obtain ⟨v_140, h_141⟩ : ∃ v9 : Int64, v_34.toInt64 = v9 := ⟨_, rfl⟩
      refine v_i2l hC dX12_number_31 h_141 ?_
      have h_142 : v_140.toInt = v_34.toInt := by rw [← h_141]; exact Int32.toInt_toInt64 _
      refine v_iload_n hC dX12_number_32 rfl ?_
      obtain ⟨v_143, h_144⟩ : ∃ v9 : Int64, a_1.toInt64 = v9 := ⟨_, rfl⟩
      refine v_i2l hC dX12_number_33 h_144 ?_
      have h_145 : v_143.toInt = a_1.toInt := by rw [← h_144]; exact Int32.toInt_toInt64 _
      refine v_iload_n hC dX12_number_34 rfl ?_
      obtain ⟨v_146, h_147⟩ : ∃ v9 : Int64, a_2.toInt64 = v9 := ⟨_, rfl⟩
      refine v_i2l hC dX12_number_35 h_147 ?_
      have h_148 : v_146.toInt = a_2.toInt := by rw [← h_147]; exact Int32.toInt_toInt64 _
      refine v_si hC (rest := []) mt_X12_in (p_X12_in hW) mx_X12_in ml_X12_79 (by decide) rfl (cells1 := 0) (slots1 := 0) (by decide) (by decide) (Nat.le_of_ble_eq_true rfl) (Nat.le_of_ble_eq_true rfl) rfl (Nat.le_of_ble_eq_true rfl) dX12_number_36 (fun r_149 L_150 f_151 h_152 => ?_)
      obtain ⟨rfl, rfl, b_153, x_154⟩ := h_152
      try simp only [Int32.reduceToInt, Int64.reduceToInt] at x_154
      refine v_if_ne hC dX12_number_39 (tgt := 47) (by decide) (fun h_157 => ?_) (fun h_157 => ?_)
      · simp only [Int32.lt_iff_toInt_lt, Int32.le_iff_toInt_le, Int32.reduceToInt, ← Int32.toInt_inj] at h_157
        refine v_aload_n hC dX12_number_47 rfl ?_
        refine v_vi hC (rest := []) m_1 e_22 rfl mi_X12_good ms_X12_good (p_X12_good hW k_0) mx_X12_good ml_X12_139 (by decide) rfl (cells1 := 0) (slots1 := 0) (by decide) (by decide) (Nat.le_of_ble_eq_true rfl) (Nat.le_of_ble_eq_true rfl) rfl (Nat.le_of_ble_eq_true rfl) dX12_number_48 (fun r_158 L_159 f_160 h_161 => ?_)
        obtain ⟨rfl, rfl, b_162, x_163⟩ := h_161
        have fe_166 : fld (f a_0) 12 = (v_35 : Int32).toInt := by rw [e_22]; rfl
        rw [fe_166] at x_163
        clear fe_166
        try simp only [Int32.reduceToInt, Int64.reduceToInt] at x_163
        refine v_if_ne hC dX12_number_51 (tgt := 56) (by decide) (fun h_167 => ?_) (fun h_167 => ?_)
        · simp only [Int32.lt_iff_toInt_lt, Int32.le_iff_toInt_le, Int32.reduceToInt, ← Int32.toInt_inj] at h_167
          refine v_aload_n hC dX12_number_56 rfl ?_
          refine v_get hC fl_X12_131 m_1 e_22 rfl dX12_number_57 ?_
          refine v_istore_n hC dX12_number_60 (by decide) (lv' := [(3, .int v_34), (0, .ref a_0), (1, .int a_1), (2, .int a_2)]) rfl ?_
          refine v_aload_n hC dX12_number_61 rfl ?_
          refine v_vv hC (rest := []) m_1 e_22 rfl mi_X12_advance ms_X12_advance (p_X12_advance hW k_0) mx_X12_advance ml_X12_156 (by decide) rfl (cells1 := 0) (slots1 := 0) (by decide) (by decide) (Nat.le_of_ble_eq_true rfl) (Nat.le_of_ble_eq_true rfl) rfl (Nat.le_of_ble_eq_true rfl) dX12_number_62 (fun L_169 f_170 h_171 => ?_)
          obtain ⟨rfl, hW_176, hF_177, x_172, x_173, x_174, x_175⟩ := h_171
          have fe_178 : fld (f a_0) 8 = (v_28 : Int32).toInt := by rw [e_22]; rfl
          have fe_179 : fld (f a_0) 12 = (v_35 : Int32).toInt := by rw [e_22]; rfl
          have fe_180 : fld (f a_0) 20 = (v_39 : Int32).toInt := by rw [e_22]; rfl
          obtain ⟨v_182, v_183, v_185, v_187, v_189, v_191, v_193, v_194, v_195, v_196, v_198, e_181, b_184, b_186, b_188, b_190, b_192, b_197, b_199⟩ := hW_176.at m_1 t_2
          have fe_200 : fld (f_170 a_0) 8 = (v_187 : Int32).toInt := by rw [e_181]; rfl
          have fe_201 : fld (f_170 a_0) 9 = (v_189 : Int32).toInt := by rw [e_181]; rfl
          have fe_202 : fld (f_170 a_0) 10 = (v_191 : Int32).toInt := by rw [e_181]; rfl
          have fe_203 : fld (f_170 a_0) 12 = (v_194 : Int32).toInt := by rw [e_181]; rfl
          have fe_204 : fld (f_170 a_0) 20 = (v_198 : Int32).toInt := by rw [e_181]; rfl
          rw [fe_178, fe_201, fe_200] at x_172
          rw [fe_202, fe_201, fe_200] at x_173
          rw [fe_203, fe_179] at x_174
          rw [fe_204, fe_180] at x_175
          clear fe_178 fe_179 fe_180 fe_200 fe_201 fe_202 fe_203 fe_204
          refine v_iload_n hC dX12_number_65 rfl ?_
          have fe_205 : fld (f_170 a_0) 12 = (v_194 : Int32).toInt := by rw [e_181]; rfl
          have fe_206 : fld (f_170 a_0) 8 = (v_187 : Int32).toInt := by rw [e_181]; rfl
          have fe_207 : fld (f_170 a_0) 9 = (v_189 : Int32).toInt := by rw [e_181]; rfl
          have fe_208 : fld (f_170 a_0) 12 = (v_194 : Int32).toInt := by rw [e_181]; rfl
          have fe_209 : fld (f_170 a_0) 8 = (v_187 : Int32).toInt := by rw [e_181]; rfl
          have fe_210 : fld (f_170 a_0) 9 = (v_189 : Int32).toInt := by rw [e_181]; rfl
          have fe_211 : fld (f_170 a_0) 10 = (v_191 : Int32).toInt := by rw [e_181]; rfl
          have fe_212 : fld (f_170 a_0) 12 = (v_194 : Int32).toInt := by rw [e_181]; rfl
          have fe_213 : fld (f_170 a_0) 12 = (v_194 : Int32).toInt := by rw [e_181]; rfl
          have fe_214 : fld (f_170 a_0) 20 = (v_198 : Int32).toInt := by rw [e_181]; rfl
          have fe_215 : fld (f_170 a_0) 8 = (v_187 : Int32).toInt := by rw [e_181]; rfl
          have fe_216 : fld (f_170 a_0) 9 = (v_189 : Int32).toInt := by rw [e_181]; rfl
          have fe_217 : fld (f_170 a_0) 10 = (v_191 : Int32).toInt := by rw [e_181]; rfl
          have fe_218 : fld (f_170 a_0) 12 = (v_194 : Int32).toInt := by rw [e_181]; rfl
          exact hR _ _ _ _ _ _ _ dX12_number_66 rfl (Nat.le_of_ble_eq_true rfl) (Nat.le_of_ble_eq_true rfl) ⟨rfl, hW_176, (hF_177.mono rfl), (by simp only [fe_205, mz_43, true_and, and_true, or_true, true_or, false_or, or_false, false_and, and_false, not_true_eq_false, not_false_eq_true] <;> first | omega | (simp only [Int32.lt_iff_toInt_lt, Int32.le_iff_toInt_le, Int32.reduceToInt, ← Int32.toInt_inj, true_and, and_true, or_true, true_or, false_or, or_false, false_and, and_false, not_true_eq_false, not_false_eq_true] <;> omega)), (by simp only [fe_206, fe_207, fe_208, mz_41, mz_42, true_and, and_true, or_true, true_or, false_or, or_false, false_and, and_false, not_true_eq_false, not_false_eq_true] <;> first | omega | (simp only [Int32.lt_iff_toInt_lt, Int32.le_iff_toInt_le, Int32.reduceToInt, ← Int32.toInt_inj, true_and, and_true, or_true, true_or, false_or, or_false, false_and, and_false, not_true_eq_false, not_false_eq_true] <;> omega)), (by simp only [fe_209, fe_210, fe_211, fe_212, true_and, and_true, or_true, true_or, false_or, or_false, false_and, and_false, not_true_eq_false, not_false_eq_true] <;> first | omega | (simp only [Int32.lt_iff_toInt_lt, Int32.le_iff_toInt_le, Int32.reduceToInt, ← Int32.toInt_inj, true_and, and_true, or_true, true_or, false_or, or_false, false_and, and_false, not_true_eq_false, not_false_eq_true] <;> omega)), (by simp only [fe_213, true_and, and_true, or_true, true_or, false_or, or_false, false_and, and_false, not_true_eq_false, not_false_eq_true] <;> first | omega | (simp only [Int32.lt_iff_toInt_lt, Int32.le_iff_toInt_le, Int32.reduceToInt, ← Int32.toInt_inj, true_and, and_true, or_true, true_or, false_or, or_false, false_and, and_false, not_true_eq_false, not_false_eq_true] <;> omega)), (by simp only [fe_214, mz_44, true_and, and_true, or_true, true_or, false_or, or_false, false_and, and_false, not_true_eq_false, not_false_eq_true] <;> first | omega | (simp only [Int32.lt_iff_toInt_lt, Int32.le_iff_toInt_le, Int32.reduceToInt, ← Int32.toInt_inj, true_and, and_true, or_true, true_or, false_or, or_false, false_and, and_false, not_true_eq_false, not_false_eq_true] <;> omega)), (by simp only [fe_215, fe_216, fe_217, fe_218, mz_41, mz_42, mz_43, true_and, and_true, or_true, true_or, false_or, or_false, false_and, and_false, not_true_eq_false, not_false_eq_true] <;> first | omega | (simp only [Int32.lt_iff_toInt_lt, Int32.le_iff_toInt_le, Int32.reduceToInt, ← Int32.toInt_inj, true_and, and_true, or_true, true_or, false_or, or_false, false_and, and_false, not_true_eq_false, not_false_eq_true] <;> omega))⟩
        · simp only [Int32.lt_iff_toInt_lt, Int32.le_iff_toInt_le, Int32.reduceToInt, ← Int32.toInt_inj] at h_167
          refine v_iconst hC dX12_number_54 (v := 0) (by decide) ?_
          have fe_219 : fld (f a_0) 12 = (v_35 : Int32).toInt := by rw [e_22]; rfl
          have fe_220 : fld (f a_0) 8 = (v_28 : Int32).toInt := by rw [e_22]; rfl
          have fe_221 : fld (f a_0) 9 = (v_30 : Int32).toInt := by rw [e_22]; rfl
          have fe_222 : fld (f a_0) 12 = (v_35 : Int32).toInt := by rw [e_22]; rfl
          have fe_223 : fld (f a_0) 8 = (v_28 : Int32).toInt := by rw [e_22]; rfl
          have fe_224 : fld (f a_0) 9 = (v_30 : Int32).toInt := by rw [e_22]; rfl
          have fe_225 : fld (f a_0) 10 = (v_32 : Int32).toInt := by rw [e_22]; rfl
          have fe_226 : fld (f a_0) 12 = (v_35 : Int32).toInt := by rw [e_22]; rfl
          have fe_227 : fld (f a_0) 12 = (v_35 : Int32).toInt := by rw [e_22]; rfl
          have fe_228 : fld (f a_0) 20 = (v_39 : Int32).toInt := by rw [e_22]; rfl
          have fe_229 : fld (f a_0) 8 = (v_28 : Int32).toInt := by rw [e_22]; rfl
          have fe_230 : fld (f a_0) 9 = (v_30 : Int32).toInt := by rw [e_22]; rfl
          have fe_231 : fld (f a_0) 10 = (v_32 : Int32).toInt := by rw [e_22]; rfl
          have fe_232 : fld (f a_0) 12 = (v_35 : Int32).toInt := by rw [e_22]; rfl
          exact hR _ _ _ _ _ _ _ dX12_number_55 rfl (Nat.le_of_ble_eq_true rfl) (Nat.le_of_ble_eq_true rfl) ⟨rfl, hW, FR.rf, (by simp only [fe_219, mz_43, true_and, and_true, or_true, true_or, false_or, or_false, false_and, and_false, not_true_eq_false, not_false_eq_true] <;> first | omega | (simp only [Int32.lt_iff_toInt_lt, Int32.le_iff_toInt_le, Int32.reduceToInt, ← Int32.toInt_inj, true_and, and_true, or_true, true_or, false_or, or_false, false_and, and_false, not_true_eq_false, not_false_eq_true] <;> omega)), (by simp only [fe_220, fe_221, fe_222, mz_41, mz_42, true_and, and_true, or_true, true_or, false_or, or_false, false_and, and_false, not_true_eq_false, not_false_eq_true] <;> first | omega | (simp only [Int32.lt_iff_toInt_lt, Int32.le_iff_toInt_le, Int32.reduceToInt, ← Int32.toInt_inj, true_and, and_true, or_true, true_or, false_or, or_false, false_and, and_false, not_true_eq_false, not_false_eq_true] <;> omega)), (by simp only [fe_223, fe_224, fe_225, fe_226, true_and, and_true, or_true, true_or, false_or, or_false, false_and, and_false, not_true_eq_false, not_false_eq_true] <;> first | omega | (simp only [Int32.lt_iff_toInt_lt, Int32.le_iff_toInt_le, Int32.reduceToInt, ← Int32.toInt_inj, true_and, and_true, or_true, true_or, false_or, or_false, false_and, and_false, not_true_eq_false, not_false_eq_true] <;> omega)), (by simp only [fe_227, true_and, and_true, or_true, true_or, false_or, or_false, false_and, and_false, not_true_eq_false, not_false_eq_true] <;> first | omega | (simp only [Int32.lt_iff_toInt_lt, Int32.le_iff_toInt_le, Int32.reduceToInt, ← Int32.toInt_inj, true_and, and_true, or_true, true_or, false_or, or_false, false_and, and_false, not_true_eq_false, not_false_eq_true] <;> omega)), (by simp only [fe_228, mz_44, true_and, and_true, or_true, true_or, false_or, or_false, false_and, and_false, not_true_eq_false, not_false_eq_true] <;> first | omega | (simp only [Int32.lt_iff_toInt_lt, Int32.le_iff_toInt_le, Int32.reduceToInt, ← Int32.toInt_inj, true_and, and_true, or_true, true_or, false_or, or_false, false_and, and_false, not_true_eq_false, not_false_eq_true] <;> omega)), (by simp only [fe_229, fe_230, fe_231, fe_232, mz_41, mz_42, mz_43, true_and, and_true, or_true, true_or, false_or, or_false, false_and, and_false, not_true_eq_false, not_false_eq_true] <;> first | omega | (simp only [Int32.lt_iff_toInt_lt, Int32.le_iff_toInt_le, Int32.reduceToInt, ← Int32.toInt_inj, true_and, and_true, or_true, true_or, false_or, or_false, false_and, and_false, not_true_eq_false, not_false_eq_true] <;> omega))⟩
      · simp only [Int32.lt_iff_toInt_lt, Int32.le_iff_toInt_le, Int32.reduceToInt, ← Int32.toInt_inj] at h_157
        refine v_aload_n hC dX12_number_42 rfl ?_
        refine v_iconst hC dX12_number_43 (v := 2) (by decide) ?_
        refine v_vv hC (rest := []) m_1 e_22 rfl mi_X12_errs ms_X12_errs (p_X12_errs hW k_0 (by decide)) mx_X12_errs ml_X12_162 (by decide) rfl (cells1 := 0) (slots1 := 0) (by decide) (by decide) (Nat.le_of_ble_eq_true rfl) (Nat.le_of_ble_eq_true rfl) rfl (Nat.le_of_ble_eq_true rfl) dX12_number_44 (fun L_234 f_235 h_236 => ?_)
        obtain ⟨rfl, hW_242, hF_243, x_237, x_238, x_239, x_240, x_241⟩ := h_236
        have fe_244 : fld (f a_0) 8 = (v_28 : Int32).toInt := by rw [e_22]; rfl
        have fe_245 : fld (f a_0) 9 = (v_30 : Int32).toInt := by rw [e_22]; rfl
        have fe_246 : fld (f a_0) 10 = (v_32 : Int32).toInt := by rw [e_22]; rfl
        have fe_247 : fld (f a_0) 20 = (v_39 : Int32).toInt := by rw [e_22]; rfl
        obtain ⟨v_249, v_250, v_252, v_254, v_256, v_258, v_260, v_261, v_262, v_263, v_265, e_248, b_251, b_253, b_255, b_257, b_259, b_264, b_266⟩ := hW_242.at m_1 t_2
        have fe_267 : fld (f_235 a_0) 8 = (v_254 : Int32).toInt := by rw [e_248]; rfl
        have fe_268 : fld (f_235 a_0) 9 = (v_256 : Int32).toInt := by rw [e_248]; rfl
        have fe_269 : fld (f_235 a_0) 10 = (v_258 : Int32).toInt := by rw [e_248]; rfl
        have fe_270 : fld (f_235 a_0) 12 = (v_261 : Int32).toInt := by rw [e_248]; rfl
        have fe_271 : fld (f_235 a_0) 20 = (v_265 : Int32).toInt := by rw [e_248]; rfl
        rw [fe_270] at x_237
        rw [fe_267, fe_244] at x_238
        rw [fe_268, fe_245] at x_239
        rw [fe_269, fe_246] at x_240
        rw [fe_271, fe_247] at x_241
        clear fe_244 fe_245 fe_246 fe_247 fe_267 fe_268 fe_269 fe_270 fe_271
        refine v_aload_n hC dX12_number_47 rfl ?_
        refine v_vi hC (rest := []) m_1 e_248 rfl mi_X12_good ms_X12_good (p_X12_good hW_242 k_0) mx_X12_good ml_X12_139 (by decide) rfl (cells1 := 0) (slots1 := 0) (by decide) (by decide) (Nat.le_of_ble_eq_true rfl) (Nat.le_of_ble_eq_true rfl) rfl (Nat.le_of_ble_eq_true rfl) dX12_number_48 (fun r_272 L_273 f_274 h_275 => ?_)
        obtain ⟨rfl, rfl, b_276, x_277⟩ := h_275
        have fe_280 : fld (f_235 a_0) 12 = (v_261 : Int32).toInt := by rw [e_248]; rfl
        rw [fe_280] at x_277
        clear fe_280
        try simp only [Int32.reduceToInt, Int64.reduceToInt] at x_277
        refine v_if_ne hC dX12_number_51 (tgt := 56) (by decide) (fun h_281 => ?_) (fun h_281 => ?_)
        · simp only [Int32.lt_iff_toInt_lt, Int32.le_iff_toInt_le, Int32.reduceToInt, ← Int32.toInt_inj] at h_281
          refine v_aload_n hC dX12_number_56 rfl ?_
          refine v_get hC fl_X12_131 m_1 e_248 rfl dX12_number_57 ?_
          refine v_istore_n hC dX12_number_60 (by decide) (lv' := [(3, .int v_260), (0, .ref a_0), (1, .int a_1), (2, .int a_2)]) rfl ?_
          refine v_aload_n hC dX12_number_61 rfl ?_
          refine v_vv hC (rest := []) m_1 e_248 rfl mi_X12_advance ms_X12_advance (p_X12_advance hW_242 k_0) mx_X12_advance ml_X12_156 (by decide) rfl (cells1 := 0) (slots1 := 0) (by decide) (by decide) (Nat.le_of_ble_eq_true rfl) (Nat.le_of_ble_eq_true rfl) rfl (Nat.le_of_ble_eq_true rfl) dX12_number_62 (fun L_283 f_284 h_285 => ?_)
          obtain ⟨rfl, hW_290, hF_291, x_286, x_287, x_288, x_289⟩ := h_285
          have fe_292 : fld (f_235 a_0) 8 = (v_254 : Int32).toInt := by rw [e_248]; rfl
          have fe_293 : fld (f_235 a_0) 12 = (v_261 : Int32).toInt := by rw [e_248]; rfl
          have fe_294 : fld (f_235 a_0) 20 = (v_265 : Int32).toInt := by rw [e_248]; rfl
          obtain ⟨v_296, v_297, v_299, v_301, v_303, v_305, v_307, v_308, v_309, v_310, v_312, e_295, b_298, b_300, b_302, b_304, b_306, b_311, b_313⟩ := hW_290.at m_1 t_2
          have fe_314 : fld (f_284 a_0) 8 = (v_301 : Int32).toInt := by rw [e_295]; rfl
          have fe_315 : fld (f_284 a_0) 9 = (v_303 : Int32).toInt := by rw [e_295]; rfl
          have fe_316 : fld (f_284 a_0) 10 = (v_305 : Int32).toInt := by rw [e_295]; rfl
          have fe_317 : fld (f_284 a_0) 12 = (v_308 : Int32).toInt := by rw [e_295]; rfl
          have fe_318 : fld (f_284 a_0) 20 = (v_312 : Int32).toInt := by rw [e_295]; rfl
          rw [fe_292, fe_315, fe_314] at x_286
          rw [fe_316, fe_315, fe_314] at x_287
          rw [fe_317, fe_293] at x_288
          rw [fe_318, fe_294] at x_289
          clear fe_292 fe_293 fe_294 fe_314 fe_315 fe_316 fe_317 fe_318
          refine v_iload_n hC dX12_number_65 rfl ?_
          have fe_319 : fld (f_284 a_0) 12 = (v_308 : Int32).toInt := by rw [e_295]; rfl
          have fe_320 : fld (f_284 a_0) 8 = (v_301 : Int32).toInt := by rw [e_295]; rfl
          have fe_321 : fld (f_284 a_0) 9 = (v_303 : Int32).toInt := by rw [e_295]; rfl
          have fe_322 : fld (f_284 a_0) 12 = (v_308 : Int32).toInt := by rw [e_295]; rfl
          have fe_323 : fld (f_284 a_0) 8 = (v_301 : Int32).toInt := by rw [e_295]; rfl
          have fe_324 : fld (f_284 a_0) 9 = (v_303 : Int32).toInt := by rw [e_295]; rfl
          have fe_325 : fld (f_284 a_0) 10 = (v_305 : Int32).toInt := by rw [e_295]; rfl
          have fe_326 : fld (f_284 a_0) 12 = (v_308 : Int32).toInt := by rw [e_295]; rfl
          have fe_327 : fld (f_284 a_0) 12 = (v_308 : Int32).toInt := by rw [e_295]; rfl
          have fe_328 : fld (f_284 a_0) 20 = (v_312 : Int32).toInt := by rw [e_295]; rfl
          have fe_329 : fld (f_284 a_0) 8 = (v_301 : Int32).toInt := by rw [e_295]; rfl
          have fe_330 : fld (f_284 a_0) 9 = (v_303 : Int32).toInt := by rw [e_295]; rfl
          have fe_331 : fld (f_284 a_0) 10 = (v_305 : Int32).toInt := by rw [e_295]; rfl
          have fe_332 : fld (f_284 a_0) 12 = (v_308 : Int32).toInt := by rw [e_295]; rfl
          exact hR _ _ _ _ _ _ _ dX12_number_66 rfl (Nat.le_of_ble_eq_true rfl) (Nat.le_of_ble_eq_true rfl) ⟨rfl, hW_290, ((hF_243.tr hF_291).mono rfl), (by simp only [fe_319, mz_43, true_and, and_true, or_true, true_or, false_or, or_false, false_and, and_false, not_true_eq_false, not_false_eq_true] <;> first | omega | (simp only [Int32.lt_iff_toInt_lt, Int32.le_iff_toInt_le, Int32.reduceToInt, ← Int32.toInt_inj, true_and, and_true, or_true, true_or, false_or, or_false, false_and, and_false, not_true_eq_false, not_false_eq_true] <;> omega)), (by simp only [fe_320, fe_321, fe_322, mz_41, mz_42, true_and, and_true, or_true, true_or, false_or, or_false, false_and, and_false, not_true_eq_false, not_false_eq_true] <;> first | omega | (simp only [Int32.lt_iff_toInt_lt, Int32.le_iff_toInt_le, Int32.reduceToInt, ← Int32.toInt_inj, true_and, and_true, or_true, true_or, false_or, or_false, false_and, and_false, not_true_eq_false, not_false_eq_true] <;> omega)), (by simp only [fe_323, fe_324, fe_325, fe_326, true_and, and_true, or_true, true_or, false_or, or_false, false_and, and_false, not_true_eq_false, not_false_eq_true] <;> first | omega | (simp only [Int32.lt_iff_toInt_lt, Int32.le_iff_toInt_le, Int32.reduceToInt, ← Int32.toInt_inj, true_and, and_true, or_true, true_or, false_or, or_false, false_and, and_false, not_true_eq_false, not_false_eq_true] <;> omega)), (by simp only [fe_327, true_and, and_true, or_true, true_or, false_or, or_false, false_and, and_false, not_true_eq_false, not_false_eq_true] <;> first | omega | (simp only [Int32.lt_iff_toInt_lt, Int32.le_iff_toInt_le, Int32.reduceToInt, ← Int32.toInt_inj, true_and, and_true, or_true, true_or, false_or, or_false, false_and, and_false, not_true_eq_false, not_false_eq_true] <;> omega)), (by simp only [fe_328, mz_44, true_and, and_true, or_true, true_or, false_or, or_false, false_and, and_false, not_true_eq_false, not_false_eq_true] <;> first | omega | (simp only [Int32.lt_iff_toInt_lt, Int32.le_iff_toInt_le, Int32.reduceToInt, ← Int32.toInt_inj, true_and, and_true, or_true, true_or, false_or, or_false, false_and, and_false, not_true_eq_false, not_false_eq_true] <;> omega)), (by simp only [fe_329, fe_330, fe_331, fe_332, mz_41, mz_42, mz_43, true_and, and_true, or_true, true_or, false_or, or_false, false_and, and_false, not_true_eq_false, not_false_eq_true] <;> first | omega | (simp only [Int32.lt_iff_toInt_lt, Int32.le_iff_toInt_le, Int32.reduceToInt, ← Int32.toInt_inj, true_and, and_true, or_true, true_or, false_or, or_false, false_and, and_false, not_true_eq_false, not_false_eq_true] <;> omega))⟩
        · simp only [Int32.lt_iff_toInt_lt, Int32.le_iff_toInt_le, Int32.reduceToInt, ← Int32.toInt_inj] at h_281
          refine v_iconst hC dX12_number_54 (v := 0) (by decide) ?_
          have fe_333 : fld (f_235 a_0) 12 = (v_261 : Int32).toInt := by rw [e_248]; rfl
          have fe_334 : fld (f_235 a_0) 8 = (v_254 : Int32).toInt := by rw [e_248]; rfl
          have fe_335 : fld (f_235 a_0) 9 = (v_256 : Int32).toInt := by rw [e_248]; rfl
          have fe_336 : fld (f_235 a_0) 12 = (v_261 : Int32).toInt := by rw [e_248]; rfl
          have fe_337 : fld (f_235 a_0) 8 = (v_254 : Int32).toInt := by rw [e_248]; rfl
          have fe_338 : fld (f_235 a_0) 9 = (v_256 : Int32).toInt := by rw [e_248]; rfl
          have fe_339 : fld (f_235 a_0) 10 = (v_258 : Int32).toInt := by rw [e_248]; rfl
          have fe_340 : fld (f_235 a_0) 12 = (v_261 : Int32).toInt := by rw [e_248]; rfl
          have fe_341 : fld (f_235 a_0) 12 = (v_261 : Int32).toInt := by rw [e_248]; rfl
          have fe_342 : fld (f_235 a_0) 20 = (v_265 : Int32).toInt := by rw [e_248]; rfl
          have fe_343 : fld (f_235 a_0) 8 = (v_254 : Int32).toInt := by rw [e_248]; rfl
          have fe_344 : fld (f_235 a_0) 9 = (v_256 : Int32).toInt := by rw [e_248]; rfl
          have fe_345 : fld (f_235 a_0) 10 = (v_258 : Int32).toInt := by rw [e_248]; rfl
          have fe_346 : fld (f_235 a_0) 12 = (v_261 : Int32).toInt := by rw [e_248]; rfl
          exact hR _ _ _ _ _ _ _ dX12_number_55 rfl (Nat.le_of_ble_eq_true rfl) (Nat.le_of_ble_eq_true rfl) ⟨rfl, hW_242, (hF_243.mono rfl), (by simp only [fe_333, mz_43, true_and, and_true, or_true, true_or, false_or, or_false, false_and, and_false, not_true_eq_false, not_false_eq_true] <;> first | omega | (simp only [Int32.lt_iff_toInt_lt, Int32.le_iff_toInt_le, Int32.reduceToInt, ← Int32.toInt_inj, true_and, and_true, or_true, true_or, false_or, or_false, false_and, and_false, not_true_eq_false, not_false_eq_true] <;> omega)), (by simp only [fe_334, fe_335, fe_336, mz_41, mz_42, true_and, and_true, or_true, true_or, false_or, or_false, false_and, and_false, not_true_eq_false, not_false_eq_true] <;> first | omega | (simp only [Int32.lt_iff_toInt_lt, Int32.le_iff_toInt_le, Int32.reduceToInt, ← Int32.toInt_inj, true_and, and_true, or_true, true_or, false_or, or_false, false_and, and_false, not_true_eq_false, not_false_eq_true] <;> omega)), (by simp only [fe_337, fe_338, fe_339, fe_340, true_and, and_true, or_true, true_or, false_or, or_false, false_and, and_false, not_true_eq_false, not_false_eq_true] <;> first | omega | (simp only [Int32.lt_iff_toInt_lt, Int32.le_iff_toInt_le, Int32.reduceToInt, ← Int32.toInt_inj, true_and, and_true, or_true, true_or, false_or, or_false, false_and, and_false, not_true_eq_false, not_false_eq_true] <;> omega)), (by simp only [fe_341, true_and, and_true, or_true, true_or, false_or, or_false, false_and, and_false, not_true_eq_false, not_false_eq_true] <;> first | omega | (simp only [Int32.lt_iff_toInt_lt, Int32.le_iff_toInt_le, Int32.reduceToInt, ← Int32.toInt_inj, true_and, and_true, or_true, true_or, false_or, or_false, false_and, and_false, not_true_eq_false, not_false_eq_true] <;> omega)), (by simp only [fe_342, mz_44, true_and, and_true, or_true, true_or, false_or, or_false, false_and, and_false, not_true_eq_false, not_false_eq_true] <;> first | omega | (simp only [Int32.lt_iff_toInt_lt, Int32.le_iff_toInt_le, Int32.reduceToInt, ← Int32.toInt_inj, true_and, and_true, or_true, true_or, false_or, or_false, false_and, and_false, not_true_eq_false, not_false_eq_true] <;> omega)), (by simp only [fe_343, fe_344, fe_345, fe_346, mz_41, mz_42, mz_43, true_and, and_true, or_true, true_or, false_or, or_false, false_and, and_false, not_true_eq_false, not_false_eq_true] <;> first | omega | (simp only [Int32.lt_iff_toInt_lt, Int32.le_iff_toInt_le, Int32.reduceToInt, ← Int32.toInt_inj, true_and, and_true, or_true, true_or, false_or, or_false, false_and, and_false, not_true_eq_false, not_false_eq_true] <;> omega))⟩
  · simp only [Int32.lt_iff_toInt_lt, Int32.le_iff_toInt_le, Int32.reduceToInt, ← Int32.toInt_inj] at h_54
    refine v_aload_n hC dX12_number_7 rfl ?_
    refine v_get hC fl_X12_120 m_1 e_22 rfl dX12_number_8 ?_
    refine v_iconst hC dX12_number_11 (v := 2) (by decide) ?_
    refine v_icmp_eq hC dX12_number_12 (tgt := 20) (by decide) (fun h_347 => ?_) (fun h_347 => ?_)
    · simp only [Int32.lt_iff_toInt_lt, Int32.le_iff_toInt_le, Int32.reduceToInt, ← Int32.toInt_inj] at h_347
      refine v_aload_n hC dX12_number_20 rfl ?_
      refine v_vi hC (rest := []) m_1 e_22 rfl mi_X12_good ms_X12_good (p_X12_good hW k_0) mx_X12_good ml_X12_139 (by decide) rfl (cells1 := 0) (slots1 := 0) (by decide) (by decide) (Nat.le_of_ble_eq_true rfl) (Nat.le_of_ble_eq_true rfl) rfl (Nat.le_of_ble_eq_true rfl) dX12_number_21 (fun r_348 L_349 f_350 h_351 => ?_)
      obtain ⟨rfl, rfl, b_352, x_353⟩ := h_351
      have fe_356 : fld (f a_0) 12 = (v_35 : Int32).toInt := by rw [e_22]; rfl
      rw [fe_356] at x_353
      clear fe_356
      try simp only [Int32.reduceToInt, Int64.reduceToInt] at x_353
      refine v_if_eq hC dX12_number_24 (tgt := 47) (by decide) (fun h_357 => ?_) (fun h_357 => ?_)
      · simp only [Int32.lt_iff_toInt_lt, Int32.le_iff_toInt_le, Int32.reduceToInt, ← Int32.toInt_inj] at h_357
        refine v_aload_n hC dX12_number_47 rfl ?_
        refine v_vi hC (rest := []) m_1 e_22 rfl mi_X12_good ms_X12_good (p_X12_good hW k_0) mx_X12_good ml_X12_139 (by decide) rfl (cells1 := 0) (slots1 := 0) (by decide) (by decide) (Nat.le_of_ble_eq_true rfl) (Nat.le_of_ble_eq_true rfl) rfl (Nat.le_of_ble_eq_true rfl) dX12_number_48 (fun r_358 L_359 f_360 h_361 => ?_)
        obtain ⟨rfl, rfl, b_362, x_363⟩ := h_361
        have fe_366 : fld (f a_0) 12 = (v_35 : Int32).toInt := by rw [e_22]; rfl
        rw [fe_366] at x_363
        clear fe_366
        try simp only [Int32.reduceToInt, Int64.reduceToInt] at x_363
        refine v_if_ne hC dX12_number_51 (tgt := 56) (by decide) (fun h_367 => ?_) (fun h_367 => ?_)
        · simp only [Int32.lt_iff_toInt_lt, Int32.le_iff_toInt_le, Int32.reduceToInt, ← Int32.toInt_inj] at h_367
          refine v_aload_n hC dX12_number_56 rfl ?_
          refine v_get hC fl_X12_131 m_1 e_22 rfl dX12_number_57 ?_
          refine v_istore_n hC dX12_number_60 (by decide) (lv' := [(3, .int v_34), (0, .ref a_0), (1, .int a_1), (2, .int a_2)]) rfl ?_
          refine v_aload_n hC dX12_number_61 rfl ?_
          refine v_vv hC (rest := []) m_1 e_22 rfl mi_X12_advance ms_X12_advance (p_X12_advance hW k_0) mx_X12_advance ml_X12_156 (by decide) rfl (cells1 := 0) (slots1 := 0) (by decide) (by decide) (Nat.le_of_ble_eq_true rfl) (Nat.le_of_ble_eq_true rfl) rfl (Nat.le_of_ble_eq_true rfl) dX12_number_62 (fun L_369 f_370 h_371 => ?_)
          obtain ⟨rfl, hW_376, hF_377, x_372, x_373, x_374, x_375⟩ := h_371
          have fe_378 : fld (f a_0) 8 = (v_28 : Int32).toInt := by rw [e_22]; rfl
          have fe_379 : fld (f a_0) 12 = (v_35 : Int32).toInt := by rw [e_22]; rfl
          have fe_380 : fld (f a_0) 20 = (v_39 : Int32).toInt := by rw [e_22]; rfl
          obtain ⟨v_382, v_383, v_385, v_387, v_389, v_391, v_393, v_394, v_395, v_396, v_398, e_381, b_384, b_386, b_388, b_390, b_392, b_397, b_399⟩ := hW_376.at m_1 t_2
          have fe_400 : fld (f_370 a_0) 8 = (v_387 : Int32).toInt := by rw [e_381]; rfl
          have fe_401 : fld (f_370 a_0) 9 = (v_389 : Int32).toInt := by rw [e_381]; rfl
          have fe_402 : fld (f_370 a_0) 10 = (v_391 : Int32).toInt := by rw [e_381]; rfl
          have fe_403 : fld (f_370 a_0) 12 = (v_394 : Int32).toInt := by rw [e_381]; rfl
          have fe_404 : fld (f_370 a_0) 20 = (v_398 : Int32).toInt := by rw [e_381]; rfl
          rw [fe_378, fe_401, fe_400] at x_372
          rw [fe_402, fe_401, fe_400] at x_373
          rw [fe_403, fe_379] at x_374
          rw [fe_404, fe_380] at x_375
          clear fe_378 fe_379 fe_380 fe_400 fe_401 fe_402 fe_403 fe_404
          refine v_iload_n hC dX12_number_65 rfl ?_
          have fe_405 : fld (f_370 a_0) 12 = (v_394 : Int32).toInt := by rw [e_381]; rfl
          have fe_406 : fld (f_370 a_0) 8 = (v_387 : Int32).toInt := by rw [e_381]; rfl
          have fe_407 : fld (f_370 a_0) 9 = (v_389 : Int32).toInt := by rw [e_381]; rfl
          have fe_408 : fld (f_370 a_0) 12 = (v_394 : Int32).toInt := by rw [e_381]; rfl
          have fe_409 : fld (f_370 a_0) 8 = (v_387 : Int32).toInt := by rw [e_381]; rfl
          have fe_410 : fld (f_370 a_0) 9 = (v_389 : Int32).toInt := by rw [e_381]; rfl
          have fe_411 : fld (f_370 a_0) 10 = (v_391 : Int32).toInt := by rw [e_381]; rfl
          have fe_412 : fld (f_370 a_0) 12 = (v_394 : Int32).toInt := by rw [e_381]; rfl
          have fe_413 : fld (f_370 a_0) 12 = (v_394 : Int32).toInt := by rw [e_381]; rfl
          have fe_414 : fld (f_370 a_0) 20 = (v_398 : Int32).toInt := by rw [e_381]; rfl
          have fe_415 : fld (f_370 a_0) 8 = (v_387 : Int32).toInt := by rw [e_381]; rfl
          have fe_416 : fld (f_370 a_0) 9 = (v_389 : Int32).toInt := by rw [e_381]; rfl
          have fe_417 : fld (f_370 a_0) 10 = (v_391 : Int32).toInt := by rw [e_381]; rfl
          have fe_418 : fld (f_370 a_0) 12 = (v_394 : Int32).toInt := by rw [e_381]; rfl
          exact hR _ _ _ _ _ _ _ dX12_number_66 rfl (Nat.le_of_ble_eq_true rfl) (Nat.le_of_ble_eq_true rfl) ⟨rfl, hW_376, (hF_377.mono rfl), (by simp only [fe_405, mz_43, true_and, and_true, or_true, true_or, false_or, or_false, false_and, and_false, not_true_eq_false, not_false_eq_true] <;> first | omega | (simp only [Int32.lt_iff_toInt_lt, Int32.le_iff_toInt_le, Int32.reduceToInt, ← Int32.toInt_inj, true_and, and_true, or_true, true_or, false_or, or_false, false_and, and_false, not_true_eq_false, not_false_eq_true] <;> omega)), (by simp only [fe_406, fe_407, fe_408, mz_41, mz_42, true_and, and_true, or_true, true_or, false_or, or_false, false_and, and_false, not_true_eq_false, not_false_eq_true] <;> first | omega | (simp only [Int32.lt_iff_toInt_lt, Int32.le_iff_toInt_le, Int32.reduceToInt, ← Int32.toInt_inj, true_and, and_true, or_true, true_or, false_or, or_false, false_and, and_false, not_true_eq_false, not_false_eq_true] <;> omega)), (by simp only [fe_409, fe_410, fe_411, fe_412, true_and, and_true, or_true, true_or, false_or, or_false, false_and, and_false, not_true_eq_false, not_false_eq_true] <;> first | omega | (simp only [Int32.lt_iff_toInt_lt, Int32.le_iff_toInt_le, Int32.reduceToInt, ← Int32.toInt_inj, true_and, and_true, or_true, true_or, false_or, or_false, false_and, and_false, not_true_eq_false, not_false_eq_true] <;> omega)), (by simp only [fe_413, true_and, and_true, or_true, true_or, false_or, or_false, false_and, and_false, not_true_eq_false, not_false_eq_true] <;> first | omega | (simp only [Int32.lt_iff_toInt_lt, Int32.le_iff_toInt_le, Int32.reduceToInt, ← Int32.toInt_inj, true_and, and_true, or_true, true_or, false_or, or_false, false_and, and_false, not_true_eq_false, not_false_eq_true] <;> omega)), (by simp only [fe_414, mz_44, true_and, and_true, or_true, true_or, false_or, or_false, false_and, and_false, not_true_eq_false, not_false_eq_true] <;> first | omega | (simp only [Int32.lt_iff_toInt_lt, Int32.le_iff_toInt_le, Int32.reduceToInt, ← Int32.toInt_inj, true_and, and_true, or_true, true_or, false_or, or_false, false_and, and_false, not_true_eq_false, not_false_eq_true] <;> omega)), (by simp only [fe_415, fe_416, fe_417, fe_418, mz_41, mz_42, mz_43, true_and, and_true, or_true, true_or, false_or, or_false, false_and, and_false, not_true_eq_false, not_false_eq_true] <;> first | omega | (simp only [Int32.lt_iff_toInt_lt, Int32.le_iff_toInt_le, Int32.reduceToInt, ← Int32.toInt_inj, true_and, and_true, or_true, true_or, false_or, or_false, false_and, and_false, not_true_eq_false, not_false_eq_true] <;> omega))⟩
        · simp only [Int32.lt_iff_toInt_lt, Int32.le_iff_toInt_le, Int32.reduceToInt, ← Int32.toInt_inj] at h_367
          refine v_iconst hC dX12_number_54 (v := 0) (by decide) ?_
          have fe_419 : fld (f a_0) 12 = (v_35 : Int32).toInt := by rw [e_22]; rfl
          have fe_420 : fld (f a_0) 8 = (v_28 : Int32).toInt := by rw [e_22]; rfl
          have fe_421 : fld (f a_0) 9 = (v_30 : Int32).toInt := by rw [e_22]; rfl
          have fe_422 : fld (f a_0) 12 = (v_35 : Int32).toInt := by rw [e_22]; rfl
          have fe_423 : fld (f a_0) 8 = (v_28 : Int32).toInt := by rw [e_22]; rfl
          have fe_424 : fld (f a_0) 9 = (v_30 : Int32).toInt := by rw [e_22]; rfl
          have fe_425 : fld (f a_0) 10 = (v_32 : Int32).toInt := by rw [e_22]; rfl
          have fe_426 : fld (f a_0) 12 = (v_35 : Int32).toInt := by rw [e_22]; rfl
          have fe_427 : fld (f a_0) 12 = (v_35 : Int32).toInt := by rw [e_22]; rfl
          have fe_428 : fld (f a_0) 20 = (v_39 : Int32).toInt := by rw [e_22]; rfl
          have fe_429 : fld (f a_0) 8 = (v_28 : Int32).toInt := by rw [e_22]; rfl
          have fe_430 : fld (f a_0) 9 = (v_30 : Int32).toInt := by rw [e_22]; rfl
          have fe_431 : fld (f a_0) 10 = (v_32 : Int32).toInt := by rw [e_22]; rfl
          have fe_432 : fld (f a_0) 12 = (v_35 : Int32).toInt := by rw [e_22]; rfl
          exact hR _ _ _ _ _ _ _ dX12_number_55 rfl (Nat.le_of_ble_eq_true rfl) (Nat.le_of_ble_eq_true rfl) ⟨rfl, hW, FR.rf, (by simp only [fe_419, mz_43, true_and, and_true, or_true, true_or, false_or, or_false, false_and, and_false, not_true_eq_false, not_false_eq_true] <;> first | omega | (simp only [Int32.lt_iff_toInt_lt, Int32.le_iff_toInt_le, Int32.reduceToInt, ← Int32.toInt_inj, true_and, and_true, or_true, true_or, false_or, or_false, false_and, and_false, not_true_eq_false, not_false_eq_true] <;> omega)), (by simp only [fe_420, fe_421, fe_422, mz_41, mz_42, true_and, and_true, or_true, true_or, false_or, or_false, false_and, and_false, not_true_eq_false, not_false_eq_true] <;> first | omega | (simp only [Int32.lt_iff_toInt_lt, Int32.le_iff_toInt_le, Int32.reduceToInt, ← Int32.toInt_inj, true_and, and_true, or_true, true_or, false_or, or_false, false_and, and_false, not_true_eq_false, not_false_eq_true] <;> omega)), (by simp only [fe_423, fe_424, fe_425, fe_426, true_and, and_true, or_true, true_or, false_or, or_false, false_and, and_false, not_true_eq_false, not_false_eq_true] <;> first | omega | (simp only [Int32.lt_iff_toInt_lt, Int32.le_iff_toInt_le, Int32.reduceToInt, ← Int32.toInt_inj, true_and, and_true, or_true, true_or, false_or, or_false, false_and, and_false, not_true_eq_false, not_false_eq_true] <;> omega)), (by simp only [fe_427, true_and, and_true, or_true, true_or, false_or, or_false, false_and, and_false, not_true_eq_false, not_false_eq_true] <;> first | omega | (simp only [Int32.lt_iff_toInt_lt, Int32.le_iff_toInt_le, Int32.reduceToInt, ← Int32.toInt_inj, true_and, and_true, or_true, true_or, false_or, or_false, false_and, and_false, not_true_eq_false, not_false_eq_true] <;> omega)), (by simp only [fe_428, mz_44, true_and, and_true, or_true, true_or, false_or, or_false, false_and, and_false, not_true_eq_false, not_false_eq_true] <;> first | omega | (simp only [Int32.lt_iff_toInt_lt, Int32.le_iff_toInt_le, Int32.reduceToInt, ← Int32.toInt_inj, true_and, and_true, or_true, true_or, false_or, or_false, false_and, and_false, not_true_eq_false, not_false_eq_true] <;> omega)), (by simp only [fe_429, fe_430, fe_431, fe_432, mz_41, mz_42, mz_43, true_and, and_true, or_true, true_or, false_or, or_false, false_and, and_false, not_true_eq_false, not_false_eq_true] <;> first | omega | (simp only [Int32.lt_iff_toInt_lt, Int32.le_iff_toInt_le, Int32.reduceToInt, ← Int32.toInt_inj, true_and, and_true, or_true, true_or, false_or, or_false, false_and, and_false, not_true_eq_false, not_false_eq_true] <;> omega))⟩
      · simp only [Int32.lt_iff_toInt_lt, Int32.le_iff_toInt_le, Int32.reduceToInt, ← Int32.toInt_inj] at h_357
        refine v_aload_n hC dX12_number_27 rfl ?_
        refine v_get hC fl_X12_131 m_1 e_22 rfl dX12_number_28 ?_
        obtain ⟨v_433, h_434⟩ : ∃ v9 : Int64, v_34.toInt64 = v9 := ⟨_, rfl⟩
        refine v_i2l hC dX12_number_31 h_434 ?_
        have h_435 : v_433.toInt = v_34.toInt := by rw [← h_434]; exact Int32.toInt_toInt64 _
        refine v_iload_n hC dX12_number_32 rfl ?_
        obtain ⟨v_436, h_437⟩ : ∃ v9 : Int64, a_1.toInt64 = v9 := ⟨_, rfl⟩
        refine v_i2l hC dX12_number_33 h_437 ?_
        have h_438 : v_436.toInt = a_1.toInt := by rw [← h_437]; exact Int32.toInt_toInt64 _
        refine v_iload_n hC dX12_number_34 rfl ?_
        obtain ⟨v_439, h_440⟩ : ∃ v9 : Int64, a_2.toInt64 = v9 := ⟨_, rfl⟩
        refine v_i2l hC dX12_number_35 h_440 ?_
        have h_441 : v_439.toInt = a_2.toInt := by rw [← h_440]; exact Int32.toInt_toInt64 _
        refine v_si hC (rest := []) mt_X12_in (p_X12_in hW) mx_X12_in ml_X12_79 (by decide) rfl (cells1 := 0) (slots1 := 0) (by decide) (by decide) (Nat.le_of_ble_eq_true rfl) (Nat.le_of_ble_eq_true rfl) rfl (Nat.le_of_ble_eq_true rfl) dX12_number_36 (fun r_442 L_443 f_444 h_445 => ?_)
        obtain ⟨rfl, rfl, b_446, x_447⟩ := h_445
        try simp only [Int32.reduceToInt, Int64.reduceToInt] at x_447
        refine v_if_ne hC dX12_number_39 (tgt := 47) (by decide) (fun h_450 => ?_) (fun h_450 => ?_)
        · simp only [Int32.lt_iff_toInt_lt, Int32.le_iff_toInt_le, Int32.reduceToInt, ← Int32.toInt_inj] at h_450
          refine v_aload_n hC dX12_number_47 rfl ?_
          refine v_vi hC (rest := []) m_1 e_22 rfl mi_X12_good ms_X12_good (p_X12_good hW k_0) mx_X12_good ml_X12_139 (by decide) rfl (cells1 := 0) (slots1 := 0) (by decide) (by decide) (Nat.le_of_ble_eq_true rfl) (Nat.le_of_ble_eq_true rfl) rfl (Nat.le_of_ble_eq_true rfl) dX12_number_48 (fun r_451 L_452 f_453 h_454 => ?_)
          obtain ⟨rfl, rfl, b_455, x_456⟩ := h_454
          have fe_459 : fld (f a_0) 12 = (v_35 : Int32).toInt := by rw [e_22]; rfl
          rw [fe_459] at x_456
          clear fe_459
          try simp only [Int32.reduceToInt, Int64.reduceToInt] at x_456
          refine v_if_ne hC dX12_number_51 (tgt := 56) (by decide) (fun h_460 => ?_) (fun h_460 => ?_)
          · simp only [Int32.lt_iff_toInt_lt, Int32.le_iff_toInt_le, Int32.reduceToInt, ← Int32.toInt_inj] at h_460
            refine v_aload_n hC dX12_number_56 rfl ?_
            refine v_get hC fl_X12_131 m_1 e_22 rfl dX12_number_57 ?_
            refine v_istore_n hC dX12_number_60 (by decide) (lv' := [(3, .int v_34), (0, .ref a_0), (1, .int a_1), (2, .int a_2)]) rfl ?_
            refine v_aload_n hC dX12_number_61 rfl ?_
            refine v_vv hC (rest := []) m_1 e_22 rfl mi_X12_advance ms_X12_advance (p_X12_advance hW k_0) mx_X12_advance ml_X12_156 (by decide) rfl (cells1 := 0) (slots1 := 0) (by decide) (by decide) (Nat.le_of_ble_eq_true rfl) (Nat.le_of_ble_eq_true rfl) rfl (Nat.le_of_ble_eq_true rfl) dX12_number_62 (fun L_462 f_463 h_464 => ?_)
            obtain ⟨rfl, hW_469, hF_470, x_465, x_466, x_467, x_468⟩ := h_464
            have fe_471 : fld (f a_0) 8 = (v_28 : Int32).toInt := by rw [e_22]; rfl
            have fe_472 : fld (f a_0) 12 = (v_35 : Int32).toInt := by rw [e_22]; rfl
            have fe_473 : fld (f a_0) 20 = (v_39 : Int32).toInt := by rw [e_22]; rfl
            obtain ⟨v_475, v_476, v_478, v_480, v_482, v_484, v_486, v_487, v_488, v_489, v_491, e_474, b_477, b_479, b_481, b_483, b_485, b_490, b_492⟩ := hW_469.at m_1 t_2
            have fe_493 : fld (f_463 a_0) 8 = (v_480 : Int32).toInt := by rw [e_474]; rfl
            have fe_494 : fld (f_463 a_0) 9 = (v_482 : Int32).toInt := by rw [e_474]; rfl
            have fe_495 : fld (f_463 a_0) 10 = (v_484 : Int32).toInt := by rw [e_474]; rfl
            have fe_496 : fld (f_463 a_0) 12 = (v_487 : Int32).toInt := by rw [e_474]; rfl
            have fe_497 : fld (f_463 a_0) 20 = (v_491 : Int32).toInt := by rw [e_474]; rfl
            rw [fe_471, fe_494, fe_493] at x_465
            rw [fe_495, fe_494, fe_493] at x_466
            rw [fe_496, fe_472] at x_467
            rw [fe_497, fe_473] at x_468
            clear fe_471 fe_472 fe_473 fe_493 fe_494 fe_495 fe_496 fe_497
            refine v_iload_n hC dX12_number_65 rfl ?_
            have fe_498 : fld (f_463 a_0) 12 = (v_487 : Int32).toInt := by rw [e_474]; rfl
            have fe_499 : fld (f_463 a_0) 8 = (v_480 : Int32).toInt := by rw [e_474]; rfl
            have fe_500 : fld (f_463 a_0) 9 = (v_482 : Int32).toInt := by rw [e_474]; rfl
            have fe_501 : fld (f_463 a_0) 12 = (v_487 : Int32).toInt := by rw [e_474]; rfl
            have fe_502 : fld (f_463 a_0) 8 = (v_480 : Int32).toInt := by rw [e_474]; rfl
            have fe_503 : fld (f_463 a_0) 9 = (v_482 : Int32).toInt := by rw [e_474]; rfl
            have fe_504 : fld (f_463 a_0) 10 = (v_484 : Int32).toInt := by rw [e_474]; rfl
            have fe_505 : fld (f_463 a_0) 12 = (v_487 : Int32).toInt := by rw [e_474]; rfl
            have fe_506 : fld (f_463 a_0) 12 = (v_487 : Int32).toInt := by rw [e_474]; rfl
            have fe_507 : fld (f_463 a_0) 20 = (v_491 : Int32).toInt := by rw [e_474]; rfl
            have fe_508 : fld (f_463 a_0) 8 = (v_480 : Int32).toInt := by rw [e_474]; rfl
            have fe_509 : fld (f_463 a_0) 9 = (v_482 : Int32).toInt := by rw [e_474]; rfl
            have fe_510 : fld (f_463 a_0) 10 = (v_484 : Int32).toInt := by rw [e_474]; rfl
            have fe_511 : fld (f_463 a_0) 12 = (v_487 : Int32).toInt := by rw [e_474]; rfl
            exact hR _ _ _ _ _ _ _ dX12_number_66 rfl (Nat.le_of_ble_eq_true rfl) (Nat.le_of_ble_eq_true rfl) ⟨rfl, hW_469, (hF_470.mono rfl), (by simp only [fe_498, mz_43, true_and, and_true, or_true, true_or, false_or, or_false, false_and, and_false, not_true_eq_false, not_false_eq_true] <;> first | omega | (simp only [Int32.lt_iff_toInt_lt, Int32.le_iff_toInt_le, Int32.reduceToInt, ← Int32.toInt_inj, true_and, and_true, or_true, true_or, false_or, or_false, false_and, and_false, not_true_eq_false, not_false_eq_true] <;> omega)), (by simp only [fe_499, fe_500, fe_501, mz_41, mz_42, true_and, and_true, or_true, true_or, false_or, or_false, false_and, and_false, not_true_eq_false, not_false_eq_true] <;> first | omega | (simp only [Int32.lt_iff_toInt_lt, Int32.le_iff_toInt_le, Int32.reduceToInt, ← Int32.toInt_inj, true_and, and_true, or_true, true_or, false_or, or_false, false_and, and_false, not_true_eq_false, not_false_eq_true] <;> omega)), (by simp only [fe_502, fe_503, fe_504, fe_505, true_and, and_true, or_true, true_or, false_or, or_false, false_and, and_false, not_true_eq_false, not_false_eq_true] <;> first | omega | (simp only [Int32.lt_iff_toInt_lt, Int32.le_iff_toInt_le, Int32.reduceToInt, ← Int32.toInt_inj, true_and, and_true, or_true, true_or, false_or, or_false, false_and, and_false, not_true_eq_false, not_false_eq_true] <;> omega)), (by simp only [fe_506, true_and, and_true, or_true, true_or, false_or, or_false, false_and, and_false, not_true_eq_false, not_false_eq_true] <;> first | omega | (simp only [Int32.lt_iff_toInt_lt, Int32.le_iff_toInt_le, Int32.reduceToInt, ← Int32.toInt_inj, true_and, and_true, or_true, true_or, false_or, or_false, false_and, and_false, not_true_eq_false, not_false_eq_true] <;> omega)), (by simp only [fe_507, mz_44, true_and, and_true, or_true, true_or, false_or, or_false, false_and, and_false, not_true_eq_false, not_false_eq_true] <;> first | omega | (simp only [Int32.lt_iff_toInt_lt, Int32.le_iff_toInt_le, Int32.reduceToInt, ← Int32.toInt_inj, true_and, and_true, or_true, true_or, false_or, or_false, false_and, and_false, not_true_eq_false, not_false_eq_true] <;> omega)), (by simp only [fe_508, fe_509, fe_510, fe_511, mz_41, mz_42, mz_43, true_and, and_true, or_true, true_or, false_or, or_false, false_and, and_false, not_true_eq_false, not_false_eq_true] <;> first | omega | (simp only [Int32.lt_iff_toInt_lt, Int32.le_iff_toInt_le, Int32.reduceToInt, ← Int32.toInt_inj, true_and, and_true, or_true, true_or, false_or, or_false, false_and, and_false, not_true_eq_false, not_false_eq_true] <;> omega))⟩
          · simp only [Int32.lt_iff_toInt_lt, Int32.le_iff_toInt_le, Int32.reduceToInt, ← Int32.toInt_inj] at h_460
            refine v_iconst hC dX12_number_54 (v := 0) (by decide) ?_
            have fe_512 : fld (f a_0) 12 = (v_35 : Int32).toInt := by rw [e_22]; rfl
            have fe_513 : fld (f a_0) 8 = (v_28 : Int32).toInt := by rw [e_22]; rfl
            have fe_514 : fld (f a_0) 9 = (v_30 : Int32).toInt := by rw [e_22]; rfl
            have fe_515 : fld (f a_0) 12 = (v_35 : Int32).toInt := by rw [e_22]; rfl
            have fe_516 : fld (f a_0) 8 = (v_28 : Int32).toInt := by rw [e_22]; rfl
            have fe_517 : fld (f a_0) 9 = (v_30 : Int32).toInt := by rw [e_22]; rfl
            have fe_518 : fld (f a_0) 10 = (v_32 : Int32).toInt := by rw [e_22]; rfl
            have fe_519 : fld (f a_0) 12 = (v_35 : Int32).toInt := by rw [e_22]; rfl
            have fe_520 : fld (f a_0) 12 = (v_35 : Int32).toInt := by rw [e_22]; rfl
            have fe_521 : fld (f a_0) 20 = (v_39 : Int32).toInt := by rw [e_22]; rfl
            have fe_522 : fld (f a_0) 8 = (v_28 : Int32).toInt := by rw [e_22]; rfl
            have fe_523 : fld (f a_0) 9 = (v_30 : Int32).toInt := by rw [e_22]; rfl
            have fe_524 : fld (f a_0) 10 = (v_32 : Int32).toInt := by rw [e_22]; rfl
            have fe_525 : fld (f a_0) 12 = (v_35 : Int32).toInt := by rw [e_22]; rfl
            exact hR _ _ _ _ _ _ _ dX12_number_55 rfl (Nat.le_of_ble_eq_true rfl) (Nat.le_of_ble_eq_true rfl) ⟨rfl, hW, FR.rf, (by simp only [fe_512, mz_43, true_and, and_true, or_true, true_or, false_or, or_false, false_and, and_false, not_true_eq_false, not_false_eq_true] <;> first | omega | (simp only [Int32.lt_iff_toInt_lt, Int32.le_iff_toInt_le, Int32.reduceToInt, ← Int32.toInt_inj, true_and, and_true, or_true, true_or, false_or, or_false, false_and, and_false, not_true_eq_false, not_false_eq_true] <;> omega)), (by simp only [fe_513, fe_514, fe_515, mz_41, mz_42, true_and, and_true, or_true, true_or, false_or, or_false, false_and, and_false, not_true_eq_false, not_false_eq_true] <;> first | omega | (simp only [Int32.lt_iff_toInt_lt, Int32.le_iff_toInt_le, Int32.reduceToInt, ← Int32.toInt_inj, true_and, and_true, or_true, true_or, false_or, or_false, false_and, and_false, not_true_eq_false, not_false_eq_true] <;> omega)), (by simp only [fe_516, fe_517, fe_518, fe_519, true_and, and_true, or_true, true_or, false_or, or_false, false_and, and_false, not_true_eq_false, not_false_eq_true] <;> first | omega | (simp only [Int32.lt_iff_toInt_lt, Int32.le_iff_toInt_le, Int32.reduceToInt, ← Int32.toInt_inj, true_and, and_true, or_true, true_or, false_or, or_false, false_and, and_false, not_true_eq_false, not_false_eq_true] <;> omega)), (by simp only [fe_520, true_and, and_true, or_true, true_or, false_or, or_false, false_and, and_false, not_true_eq_false, not_false_eq_true] <;> first | omega | (simp only [Int32.lt_iff_toInt_lt, Int32.le_iff_toInt_le, Int32.reduceToInt, ← Int32.toInt_inj, true_and, and_true, or_true, true_or, false_or, or_false, false_and, and_false, not_true_eq_false, not_false_eq_true] <;> omega)), (by simp only [fe_521, mz_44, true_and, and_true, or_true, true_or, false_or, or_false, false_and, and_false, not_true_eq_false, not_false_eq_true] <;> first | omega | (simp only [Int32.lt_iff_toInt_lt, Int32.le_iff_toInt_le, Int32.reduceToInt, ← Int32.toInt_inj, true_and, and_true, or_true, true_or, false_or, or_false, false_and, and_false, not_true_eq_false, not_false_eq_true] <;> omega)), (by simp only [fe_522, fe_523, fe_524, fe_525, mz_41, mz_42, mz_43, true_and, and_true, or_true, true_or, false_or, or_false, false_and, and_false, not_true_eq_false, not_false_eq_true] <;> first | omega | (simp only [Int32.lt_iff_toInt_lt, Int32.le_iff_toInt_le, Int32.reduceToInt, ← Int32.toInt_inj, true_and, and_true, or_true, true_or, false_or, or_false, false_and, and_false, not_true_eq_false, not_false_eq_true] <;> omega))⟩
        · simp only [Int32.lt_iff_toInt_lt, Int32.le_iff_toInt_le, Int32.reduceToInt, ← Int32.toInt_inj] at h_450
          refine v_aload_n hC dX12_number_42 rfl ?_
          refine v_iconst hC dX12_number_43 (v := 2) (by decide) ?_
          refine v_vv hC (rest := []) m_1 e_22 rfl mi_X12_errs ms_X12_errs (p_X12_errs hW k_0 (by decide)) mx_X12_errs ml_X12_162 (by decide) rfl (cells1 := 0) (slots1 := 0) (by decide) (by decide) (Nat.le_of_ble_eq_true rfl) (Nat.le_of_ble_eq_true rfl) rfl (Nat.le_of_ble_eq_true rfl) dX12_number_44 (fun L_527 f_528 h_529 => ?_)
          obtain ⟨rfl, hW_535, hF_536, x_530, x_531, x_532, x_533, x_534⟩ := h_529
          have fe_537 : fld (f a_0) 8 = (v_28 : Int32).toInt := by rw [e_22]; rfl
          have fe_538 : fld (f a_0) 9 = (v_30 : Int32).toInt := by rw [e_22]; rfl
          have fe_539 : fld (f a_0) 10 = (v_32 : Int32).toInt := by rw [e_22]; rfl
          have fe_540 : fld (f a_0) 20 = (v_39 : Int32).toInt := by rw [e_22]; rfl
          obtain ⟨v_542, v_543, v_545, v_547, v_549, v_551, v_553, v_554, v_555, v_556, v_558, e_541, b_544, b_546, b_548, b_550, b_552, b_557, b_559⟩ := hW_535.at m_1 t_2
          have fe_560 : fld (f_528 a_0) 8 = (v_547 : Int32).toInt := by rw [e_541]; rfl
          have fe_561 : fld (f_528 a_0) 9 = (v_549 : Int32).toInt := by rw [e_541]; rfl
          have fe_562 : fld (f_528 a_0) 10 = (v_551 : Int32).toInt := by rw [e_541]; rfl
          have fe_563 : fld (f_528 a_0) 12 = (v_554 : Int32).toInt := by rw [e_541]; rfl
          have fe_564 : fld (f_528 a_0) 20 = (v_558 : Int32).toInt := by rw [e_541]; rfl
          rw [fe_563] at x_530
          rw [fe_560, fe_537] at x_531
          rw [fe_561, fe_538] at x_532
          rw [fe_562, fe_539] at x_533
          rw [fe_564, fe_540] at x_534
          clear fe_537 fe_538 fe_539 fe_540 fe_560 fe_561 fe_562 fe_563 fe_564
          refine v_aload_n hC dX12_number_47 rfl ?_
          refine v_vi hC (rest := []) m_1 e_541 rfl mi_X12_good ms_X12_good (p_X12_good hW_535 k_0) mx_X12_good ml_X12_139 (by decide) rfl (cells1 := 0) (slots1 := 0) (by decide) (by decide) (Nat.le_of_ble_eq_true rfl) (Nat.le_of_ble_eq_true rfl) rfl (Nat.le_of_ble_eq_true rfl) dX12_number_48 (fun r_565 L_566 f_567 h_568 => ?_)
          obtain ⟨rfl, rfl, b_569, x_570⟩ := h_568
          have fe_573 : fld (f_528 a_0) 12 = (v_554 : Int32).toInt := by rw [e_541]; rfl
          rw [fe_573] at x_570
          clear fe_573
          try simp only [Int32.reduceToInt, Int64.reduceToInt] at x_570
          refine v_if_ne hC dX12_number_51 (tgt := 56) (by decide) (fun h_574 => ?_) (fun h_574 => ?_)
          · simp only [Int32.lt_iff_toInt_lt, Int32.le_iff_toInt_le, Int32.reduceToInt, ← Int32.toInt_inj] at h_574
            refine v_aload_n hC dX12_number_56 rfl ?_
            refine v_get hC fl_X12_131 m_1 e_541 rfl dX12_number_57 ?_
            refine v_istore_n hC dX12_number_60 (by decide) (lv' := [(3, .int v_553), (0, .ref a_0), (1, .int a_1), (2, .int a_2)]) rfl ?_
            refine v_aload_n hC dX12_number_61 rfl ?_
            refine v_vv hC (rest := []) m_1 e_541 rfl mi_X12_advance ms_X12_advance (p_X12_advance hW_535 k_0) mx_X12_advance ml_X12_156 (by decide) rfl (cells1 := 0) (slots1 := 0) (by decide) (by decide) (Nat.le_of_ble_eq_true rfl) (Nat.le_of_ble_eq_true rfl) rfl (Nat.le_of_ble_eq_true rfl) dX12_number_62 (fun L_576 f_577 h_578 => ?_)
            obtain ⟨rfl, hW_583, hF_584, x_579, x_580, x_581, x_582⟩ := h_578
            have fe_585 : fld (f_528 a_0) 8 = (v_547 : Int32).toInt := by rw [e_541]; rfl
            have fe_586 : fld (f_528 a_0) 12 = (v_554 : Int32).toInt := by rw [e_541]; rfl
            have fe_587 : fld (f_528 a_0) 20 = (v_558 : Int32).toInt := by rw [e_541]; rfl
            obtain ⟨v_589, v_590, v_592, v_594, v_596, v_598, v_600, v_601, v_602, v_603, v_605, e_588, b_591, b_593, b_595, b_597, b_599, b_604, b_606⟩ := hW_583.at m_1 t_2
            have fe_607 : fld (f_577 a_0) 8 = (v_594 : Int32).toInt := by rw [e_588]; rfl
            have fe_608 : fld (f_577 a_0) 9 = (v_596 : Int32).toInt := by rw [e_588]; rfl
            have fe_609 : fld (f_577 a_0) 10 = (v_598 : Int32).toInt := by rw [e_588]; rfl
            have fe_610 : fld (f_577 a_0) 12 = (v_601 : Int32).toInt := by rw [e_588]; rfl
            have fe_611 : fld (f_577 a_0) 20 = (v_605 : Int32).toInt := by rw [e_588]; rfl
            rw [fe_585, fe_608, fe_607] at x_579
            rw [fe_609, fe_608, fe_607] at x_580
            rw [fe_610, fe_586] at x_581
            rw [fe_611, fe_587] at x_582
            clear fe_585 fe_586 fe_587 fe_607 fe_608 fe_609 fe_610 fe_611
            refine v_iload_n hC dX12_number_65 rfl ?_
            have fe_612 : fld (f_577 a_0) 12 = (v_601 : Int32).toInt := by rw [e_588]; rfl
            have fe_613 : fld (f_577 a_0) 8 = (v_594 : Int32).toInt := by rw [e_588]; rfl
            have fe_614 : fld (f_577 a_0) 9 = (v_596 : Int32).toInt := by rw [e_588]; rfl
            have fe_615 : fld (f_577 a_0) 12 = (v_601 : Int32).toInt := by rw [e_588]; rfl
            have fe_616 : fld (f_577 a_0) 8 = (v_594 : Int32).toInt := by rw [e_588]; rfl
            have fe_617 : fld (f_577 a_0) 9 = (v_596 : Int32).toInt := by rw [e_588]; rfl
            have fe_618 : fld (f_577 a_0) 10 = (v_598 : Int32).toInt := by rw [e_588]; rfl
            have fe_619 : fld (f_577 a_0) 12 = (v_601 : Int32).toInt := by rw [e_588]; rfl
            have fe_620 : fld (f_577 a_0) 12 = (v_601 : Int32).toInt := by rw [e_588]; rfl
            have fe_621 : fld (f_577 a_0) 20 = (v_605 : Int32).toInt := by rw [e_588]; rfl
            have fe_622 : fld (f_577 a_0) 8 = (v_594 : Int32).toInt := by rw [e_588]; rfl
            have fe_623 : fld (f_577 a_0) 9 = (v_596 : Int32).toInt := by rw [e_588]; rfl
            have fe_624 : fld (f_577 a_0) 10 = (v_598 : Int32).toInt := by rw [e_588]; rfl
            have fe_625 : fld (f_577 a_0) 12 = (v_601 : Int32).toInt := by rw [e_588]; rfl
            exact hR _ _ _ _ _ _ _ dX12_number_66 rfl (Nat.le_of_ble_eq_true rfl) (Nat.le_of_ble_eq_true rfl) ⟨rfl, hW_583, ((hF_536.tr hF_584).mono rfl), (by simp only [fe_612, mz_43, true_and, and_true, or_true, true_or, false_or, or_false, false_and, and_false, not_true_eq_false, not_false_eq_true] <;> first | omega | (simp only [Int32.lt_iff_toInt_lt, Int32.le_iff_toInt_le, Int32.reduceToInt, ← Int32.toInt_inj, true_and, and_true, or_true, true_or, false_or, or_false, false_and, and_false, not_true_eq_false, not_false_eq_true] <;> omega)), (by simp only [fe_613, fe_614, fe_615, mz_41, mz_42, true_and, and_true, or_true, true_or, false_or, or_false, false_and, and_false, not_true_eq_false, not_false_eq_true] <;> first | omega | (simp only [Int32.lt_iff_toInt_lt, Int32.le_iff_toInt_le, Int32.reduceToInt, ← Int32.toInt_inj, true_and, and_true, or_true, true_or, false_or, or_false, false_and, and_false, not_true_eq_false, not_false_eq_true] <;> omega)), (by simp only [fe_616, fe_617, fe_618, fe_619, true_and, and_true, or_true, true_or, false_or, or_false, false_and, and_false, not_true_eq_false, not_false_eq_true] <;> first | omega | (simp only [Int32.lt_iff_toInt_lt, Int32.le_iff_toInt_le, Int32.reduceToInt, ← Int32.toInt_inj, true_and, and_true, or_true, true_or, false_or, or_false, false_and, and_false, not_true_eq_false, not_false_eq_true] <;> omega)), (by simp only [fe_620, true_and, and_true, or_true, true_or, false_or, or_false, false_and, and_false, not_true_eq_false, not_false_eq_true] <;> first | omega | (simp only [Int32.lt_iff_toInt_lt, Int32.le_iff_toInt_le, Int32.reduceToInt, ← Int32.toInt_inj, true_and, and_true, or_true, true_or, false_or, or_false, false_and, and_false, not_true_eq_false, not_false_eq_true] <;> omega)), (by simp only [fe_621, mz_44, true_and, and_true, or_true, true_or, false_or, or_false, false_and, and_false, not_true_eq_false, not_false_eq_true] <;> first | omega | (simp only [Int32.lt_iff_toInt_lt, Int32.le_iff_toInt_le, Int32.reduceToInt, ← Int32.toInt_inj, true_and, and_true, or_true, true_or, false_or, or_false, false_and, and_false, not_true_eq_false, not_false_eq_true] <;> omega)), (by simp only [fe_622, fe_623, fe_624, fe_625, mz_41, mz_42, mz_43, true_and, and_true, or_true, true_or, false_or, or_false, false_and, and_false, not_true_eq_false, not_false_eq_true] <;> first | omega | (simp only [Int32.lt_iff_toInt_lt, Int32.le_iff_toInt_le, Int32.reduceToInt, ← Int32.toInt_inj, true_and, and_true, or_true, true_or, false_or, or_false, false_and, and_false, not_true_eq_false, not_false_eq_true] <;> omega))⟩
          · simp only [Int32.lt_iff_toInt_lt, Int32.le_iff_toInt_le, Int32.reduceToInt, ← Int32.toInt_inj] at h_574
            refine v_iconst hC dX12_number_54 (v := 0) (by decide) ?_
            have fe_626 : fld (f_528 a_0) 12 = (v_554 : Int32).toInt := by rw [e_541]; rfl
            have fe_627 : fld (f_528 a_0) 8 = (v_547 : Int32).toInt := by rw [e_541]; rfl
            have fe_628 : fld (f_528 a_0) 9 = (v_549 : Int32).toInt := by rw [e_541]; rfl
            have fe_629 : fld (f_528 a_0) 12 = (v_554 : Int32).toInt := by rw [e_541]; rfl
            have fe_630 : fld (f_528 a_0) 8 = (v_547 : Int32).toInt := by rw [e_541]; rfl
            have fe_631 : fld (f_528 a_0) 9 = (v_549 : Int32).toInt := by rw [e_541]; rfl
            have fe_632 : fld (f_528 a_0) 10 = (v_551 : Int32).toInt := by rw [e_541]; rfl
            have fe_633 : fld (f_528 a_0) 12 = (v_554 : Int32).toInt := by rw [e_541]; rfl
            have fe_634 : fld (f_528 a_0) 12 = (v_554 : Int32).toInt := by rw [e_541]; rfl
            have fe_635 : fld (f_528 a_0) 20 = (v_558 : Int32).toInt := by rw [e_541]; rfl
            have fe_636 : fld (f_528 a_0) 8 = (v_547 : Int32).toInt := by rw [e_541]; rfl
            have fe_637 : fld (f_528 a_0) 9 = (v_549 : Int32).toInt := by rw [e_541]; rfl
            have fe_638 : fld (f_528 a_0) 10 = (v_551 : Int32).toInt := by rw [e_541]; rfl
            have fe_639 : fld (f_528 a_0) 12 = (v_554 : Int32).toInt := by rw [e_541]; rfl
            exact hR _ _ _ _ _ _ _ dX12_number_55 rfl (Nat.le_of_ble_eq_true rfl) (Nat.le_of_ble_eq_true rfl) ⟨rfl, hW_535, (hF_536.mono rfl), (by simp only [fe_626, mz_43, true_and, and_true, or_true, true_or, false_or, or_false, false_and, and_false, not_true_eq_false, not_false_eq_true] <;> first | omega | (simp only [Int32.lt_iff_toInt_lt, Int32.le_iff_toInt_le, Int32.reduceToInt, ← Int32.toInt_inj, true_and, and_true, or_true, true_or, false_or, or_false, false_and, and_false, not_true_eq_false, not_false_eq_true] <;> omega)), (by simp only [fe_627, fe_628, fe_629, mz_41, mz_42, true_and, and_true, or_true, true_or, false_or, or_false, false_and, and_false, not_true_eq_false, not_false_eq_true] <;> first | omega | (simp only [Int32.lt_iff_toInt_lt, Int32.le_iff_toInt_le, Int32.reduceToInt, ← Int32.toInt_inj, true_and, and_true, or_true, true_or, false_or, or_false, false_and, and_false, not_true_eq_false, not_false_eq_true] <;> omega)), (by simp only [fe_630, fe_631, fe_632, fe_633, true_and, and_true, or_true, true_or, false_or, or_false, false_and, and_false, not_true_eq_false, not_false_eq_true] <;> first | omega | (simp only [Int32.lt_iff_toInt_lt, Int32.le_iff_toInt_le, Int32.reduceToInt, ← Int32.toInt_inj, true_and, and_true, or_true, true_or, false_or, or_false, false_and, and_false, not_true_eq_false, not_false_eq_true] <;> omega)), (by simp only [fe_634, true_and, and_true, or_true, true_or, false_or, or_false, false_and, and_false, not_true_eq_false, not_false_eq_true] <;> first | omega | (simp only [Int32.lt_iff_toInt_lt, Int32.le_iff_toInt_le, Int32.reduceToInt, ← Int32.toInt_inj, true_and, and_true, or_true, true_or, false_or, or_false, false_and, and_false, not_true_eq_false, not_false_eq_true] <;> omega)), (by simp only [fe_635, mz_44, true_and, and_true, or_true, true_or, false_or, or_false, false_and, and_false, not_true_eq_false, not_false_eq_true] <;> first | omega | (simp only [Int32.lt_iff_toInt_lt, Int32.le_iff_toInt_le, Int32.reduceToInt, ← Int32.toInt_inj, true_and, and_true, or_true, true_or, false_or, or_false, false_and, and_false, not_true_eq_false, not_false_eq_true] <;> omega)), (by simp only [fe_636, fe_637, fe_638, fe_639, mz_41, mz_42, mz_43, true_and, and_true, or_true, true_or, false_or, or_false, false_and, and_false, not_true_eq_false, not_false_eq_true] <;> first | omega | (simp only [Int32.lt_iff_toInt_lt, Int32.le_iff_toInt_le, Int32.reduceToInt, ← Int32.toInt_inj, true_and, and_true, or_true, true_or, false_or, or_false, false_and, and_false, not_true_eq_false, not_false_eq_true] <;> omega))⟩
    · simp only [Int32.lt_iff_toInt_lt, Int32.le_iff_toInt_le, Int32.reduceToInt, ← Int32.toInt_inj] at h_347
      refine v_aload_n hC dX12_number_15 rfl ?_
      refine v_iconst hC dX12_number_16 (v := 1) (by decide) ?_
      refine v_vv hC (rest := []) m_1 e_22 rfl mi_X12_errs ms_X12_errs (p_X12_errs hW k_0 (by decide)) mx_X12_errs ml_X12_162 (by decide) rfl (cells1 := 0) (slots1 := 0) (by decide) (by decide) (Nat.le_of_ble_eq_true rfl) (Nat.le_of_ble_eq_true rfl) rfl (Nat.le_of_ble_eq_true rfl) dX12_number_17 (fun L_641 f_642 h_643 => ?_)
      obtain ⟨rfl, hW_649, hF_650, x_644, x_645, x_646, x_647, x_648⟩ := h_643
      have fe_651 : fld (f a_0) 8 = (v_28 : Int32).toInt := by rw [e_22]; rfl
      have fe_652 : fld (f a_0) 9 = (v_30 : Int32).toInt := by rw [e_22]; rfl
      have fe_653 : fld (f a_0) 10 = (v_32 : Int32).toInt := by rw [e_22]; rfl
      have fe_654 : fld (f a_0) 20 = (v_39 : Int32).toInt := by rw [e_22]; rfl
      obtain ⟨v_656, v_657, v_659, v_661, v_663, v_665, v_667, v_668, v_669, v_670, v_672, e_655, b_658, b_660, b_662, b_664, b_666, b_671, b_673⟩ := hW_649.at m_1 t_2
      have fe_674 : fld (f_642 a_0) 8 = (v_661 : Int32).toInt := by rw [e_655]; rfl
      have fe_675 : fld (f_642 a_0) 9 = (v_663 : Int32).toInt := by rw [e_655]; rfl
      have fe_676 : fld (f_642 a_0) 10 = (v_665 : Int32).toInt := by rw [e_655]; rfl
      have fe_677 : fld (f_642 a_0) 12 = (v_668 : Int32).toInt := by rw [e_655]; rfl
      have fe_678 : fld (f_642 a_0) 20 = (v_672 : Int32).toInt := by rw [e_655]; rfl
      rw [fe_677] at x_644
      rw [fe_674, fe_651] at x_645
      rw [fe_675, fe_652] at x_646
      rw [fe_676, fe_653] at x_647
      rw [fe_678, fe_654] at x_648
      clear fe_651 fe_652 fe_653 fe_654 fe_674 fe_675 fe_676 fe_677 fe_678
      refine v_aload_n hC dX12_number_20 rfl ?_
      refine v_vi hC (rest := []) m_1 e_655 rfl mi_X12_good ms_X12_good (p_X12_good hW_649 k_0) mx_X12_good ml_X12_139 (by decide) rfl (cells1 := 0) (slots1 := 0) (by decide) (by decide) (Nat.le_of_ble_eq_true rfl) (Nat.le_of_ble_eq_true rfl) rfl (Nat.le_of_ble_eq_true rfl) dX12_number_21 (fun r_679 L_680 f_681 h_682 => ?_)
      obtain ⟨rfl, rfl, b_683, x_684⟩ := h_682
      have fe_687 : fld (f_642 a_0) 12 = (v_668 : Int32).toInt := by rw [e_655]; rfl
      rw [fe_687] at x_684
      clear fe_687
      try simp only [Int32.reduceToInt, Int64.reduceToInt] at x_684
      refine v_if_eq hC dX12_number_24 (tgt := 47) (by decide) (fun h_688 => ?_) (fun h_688 => ?_)
      · simp only [Int32.lt_iff_toInt_lt, Int32.le_iff_toInt_le, Int32.reduceToInt, ← Int32.toInt_inj] at h_688
        refine v_aload_n hC dX12_number_47 rfl ?_
        refine v_vi hC (rest := []) m_1 e_655 rfl mi_X12_good ms_X12_good (p_X12_good hW_649 k_0) mx_X12_good ml_X12_139 (by decide) rfl (cells1 := 0) (slots1 := 0) (by decide) (by decide) (Nat.le_of_ble_eq_true rfl) (Nat.le_of_ble_eq_true rfl) rfl (Nat.le_of_ble_eq_true rfl) dX12_number_48 (fun r_689 L_690 f_691 h_692 => ?_)
        obtain ⟨rfl, rfl, b_693, x_694⟩ := h_692
        have fe_697 : fld (f_642 a_0) 12 = (v_668 : Int32).toInt := by rw [e_655]; rfl
        rw [fe_697] at x_694
        clear fe_697
        try simp only [Int32.reduceToInt, Int64.reduceToInt] at x_694
        refine v_if_ne hC dX12_number_51 (tgt := 56) (by decide) (fun h_698 => ?_) (fun h_698 => ?_)
        · simp only [Int32.lt_iff_toInt_lt, Int32.le_iff_toInt_le, Int32.reduceToInt, ← Int32.toInt_inj] at h_698
          refine v_aload_n hC dX12_number_56 rfl ?_
          refine v_get hC fl_X12_131 m_1 e_655 rfl dX12_number_57 ?_
          refine v_istore_n hC dX12_number_60 (by decide) (lv' := [(3, .int v_667), (0, .ref a_0), (1, .int a_1), (2, .int a_2)]) rfl ?_
          refine v_aload_n hC dX12_number_61 rfl ?_
          refine v_vv hC (rest := []) m_1 e_655 rfl mi_X12_advance ms_X12_advance (p_X12_advance hW_649 k_0) mx_X12_advance ml_X12_156 (by decide) rfl (cells1 := 0) (slots1 := 0) (by decide) (by decide) (Nat.le_of_ble_eq_true rfl) (Nat.le_of_ble_eq_true rfl) rfl (Nat.le_of_ble_eq_true rfl) dX12_number_62 (fun L_700 f_701 h_702 => ?_)
          obtain ⟨rfl, hW_707, hF_708, x_703, x_704, x_705, x_706⟩ := h_702
          have fe_709 : fld (f_642 a_0) 8 = (v_661 : Int32).toInt := by rw [e_655]; rfl
          have fe_710 : fld (f_642 a_0) 12 = (v_668 : Int32).toInt := by rw [e_655]; rfl
          have fe_711 : fld (f_642 a_0) 20 = (v_672 : Int32).toInt := by rw [e_655]; rfl
          obtain ⟨v_713, v_714, v_716, v_718, v_720, v_722, v_724, v_725, v_726, v_727, v_729, e_712, b_715, b_717, b_719, b_721, b_723, b_728, b_730⟩ := hW_707.at m_1 t_2
          have fe_731 : fld (f_701 a_0) 8 = (v_718 : Int32).toInt := by rw [e_712]; rfl
          have fe_732 : fld (f_701 a_0) 9 = (v_720 : Int32).toInt := by rw [e_712]; rfl
          have fe_733 : fld (f_701 a_0) 10 = (v_722 : Int32).toInt := by rw [e_712]; rfl
          have fe_734 : fld (f_701 a_0) 12 = (v_725 : Int32).toInt := by rw [e_712]; rfl
          have fe_735 : fld (f_701 a_0) 20 = (v_729 : Int32).toInt := by rw [e_712]; rfl
          rw [fe_709, fe_732, fe_731] at x_703
          rw [fe_733, fe_732, fe_731] at x_704
          rw [fe_734, fe_710] at x_705
          rw [fe_735, fe_711] at x_706
          clear fe_709 fe_710 fe_711 fe_731 fe_732 fe_733 fe_734 fe_735
          refine v_iload_n hC dX12_number_65 rfl ?_
          have fe_736 : fld (f_701 a_0) 12 = (v_725 : Int32).toInt := by rw [e_712]; rfl
          have fe_737 : fld (f_701 a_0) 8 = (v_718 : Int32).toInt := by rw [e_712]; rfl
          have fe_738 : fld (f_701 a_0) 9 = (v_720 : Int32).toInt := by rw [e_712]; rfl
          have fe_739 : fld (f_701 a_0) 12 = (v_725 : Int32).toInt := by rw [e_712]; rfl
          have fe_740 : fld (f_701 a_0) 8 = (v_718 : Int32).toInt := by rw [e_712]; rfl
          have fe_741 : fld (f_701 a_0) 9 = (v_720 : Int32).toInt := by rw [e_712]; rfl
          have fe_742 : fld (f_701 a_0) 10 = (v_722 : Int32).toInt := by rw [e_712]; rfl
          have fe_743 : fld (f_701 a_0) 12 = (v_725 : Int32).toInt := by rw [e_712]; rfl
          have fe_744 : fld (f_701 a_0) 12 = (v_725 : Int32).toInt := by rw [e_712]; rfl
          have fe_745 : fld (f_701 a_0) 20 = (v_729 : Int32).toInt := by rw [e_712]; rfl
          have fe_746 : fld (f_701 a_0) 8 = (v_718 : Int32).toInt := by rw [e_712]; rfl
          have fe_747 : fld (f_701 a_0) 9 = (v_720 : Int32).toInt := by rw [e_712]; rfl
          have fe_748 : fld (f_701 a_0) 10 = (v_722 : Int32).toInt := by rw [e_712]; rfl
          have fe_749 : fld (f_701 a_0) 12 = (v_725 : Int32).toInt := by rw [e_712]; rfl
          exact hR _ _ _ _ _ _ _ dX12_number_66 rfl (Nat.le_of_ble_eq_true rfl) (Nat.le_of_ble_eq_true rfl) ⟨rfl, hW_707, ((hF_650.tr hF_708).mono rfl), (by simp only [fe_736, mz_43, true_and, and_true, or_true, true_or, false_or, or_false, false_and, and_false, not_true_eq_false, not_false_eq_true] <;> first | omega | (simp only [Int32.lt_iff_toInt_lt, Int32.le_iff_toInt_le, Int32.reduceToInt, ← Int32.toInt_inj, true_and, and_true, or_true, true_or, false_or, or_false, false_and, and_false, not_true_eq_false, not_false_eq_true] <;> omega)), (by simp only [fe_737, fe_738, fe_739, mz_41, mz_42, true_and, and_true, or_true, true_or, false_or, or_false, false_and, and_false, not_true_eq_false, not_false_eq_true] <;> first | omega | (simp only [Int32.lt_iff_toInt_lt, Int32.le_iff_toInt_le, Int32.reduceToInt, ← Int32.toInt_inj, true_and, and_true, or_true, true_or, false_or, or_false, false_and, and_false, not_true_eq_false, not_false_eq_true] <;> omega)), (by simp only [fe_740, fe_741, fe_742, fe_743, true_and, and_true, or_true, true_or, false_or, or_false, false_and, and_false, not_true_eq_false, not_false_eq_true] <;> first | omega | (simp only [Int32.lt_iff_toInt_lt, Int32.le_iff_toInt_le, Int32.reduceToInt, ← Int32.toInt_inj, true_and, and_true, or_true, true_or, false_or, or_false, false_and, and_false, not_true_eq_false, not_false_eq_true] <;> omega)), (by simp only [fe_744, true_and, and_true, or_true, true_or, false_or, or_false, false_and, and_false, not_true_eq_false, not_false_eq_true] <;> first | omega | (simp only [Int32.lt_iff_toInt_lt, Int32.le_iff_toInt_le, Int32.reduceToInt, ← Int32.toInt_inj, true_and, and_true, or_true, true_or, false_or, or_false, false_and, and_false, not_true_eq_false, not_false_eq_true] <;> omega)), (by simp only [fe_745, mz_44, true_and, and_true, or_true, true_or, false_or, or_false, false_and, and_false, not_true_eq_false, not_false_eq_true] <;> first | omega | (simp only [Int32.lt_iff_toInt_lt, Int32.le_iff_toInt_le, Int32.reduceToInt, ← Int32.toInt_inj, true_and, and_true, or_true, true_or, false_or, or_false, false_and, and_false, not_true_eq_false, not_false_eq_true] <;> omega)), (by simp only [fe_746, fe_747, fe_748, fe_749, mz_41, mz_42, mz_43, true_and, and_true, or_true, true_or, false_or, or_false, false_and, and_false, not_true_eq_false, not_false_eq_true] <;> first | omega | (simp only [Int32.lt_iff_toInt_lt, Int32.le_iff_toInt_le, Int32.reduceToInt, ← Int32.toInt_inj, true_and, and_true, or_true, true_or, false_or, or_false, false_and, and_false, not_true_eq_false, not_false_eq_true] <;> omega))⟩
        · simp only [Int32.lt_iff_toInt_lt, Int32.le_iff_toInt_le, Int32.reduceToInt, ← Int32.toInt_inj] at h_698
          refine v_iconst hC dX12_number_54 (v := 0) (by decide) ?_
          have fe_750 : fld (f_642 a_0) 12 = (v_668 : Int32).toInt := by rw [e_655]; rfl
          have fe_751 : fld (f_642 a_0) 8 = (v_661 : Int32).toInt := by rw [e_655]; rfl
          have fe_752 : fld (f_642 a_0) 9 = (v_663 : Int32).toInt := by rw [e_655]; rfl
          have fe_753 : fld (f_642 a_0) 12 = (v_668 : Int32).toInt := by rw [e_655]; rfl
          have fe_754 : fld (f_642 a_0) 8 = (v_661 : Int32).toInt := by rw [e_655]; rfl
          have fe_755 : fld (f_642 a_0) 9 = (v_663 : Int32).toInt := by rw [e_655]; rfl
          have fe_756 : fld (f_642 a_0) 10 = (v_665 : Int32).toInt := by rw [e_655]; rfl
          have fe_757 : fld (f_642 a_0) 12 = (v_668 : Int32).toInt := by rw [e_655]; rfl
          have fe_758 : fld (f_642 a_0) 12 = (v_668 : Int32).toInt := by rw [e_655]; rfl
          have fe_759 : fld (f_642 a_0) 20 = (v_672 : Int32).toInt := by rw [e_655]; rfl
          have fe_760 : fld (f_642 a_0) 8 = (v_661 : Int32).toInt := by rw [e_655]; rfl
          have fe_761 : fld (f_642 a_0) 9 = (v_663 : Int32).toInt := by rw [e_655]; rfl
          have fe_762 : fld (f_642 a_0) 10 = (v_665 : Int32).toInt := by rw [e_655]; rfl
          have fe_763 : fld (f_642 a_0) 12 = (v_668 : Int32).toInt := by rw [e_655]; rfl
          exact hR _ _ _ _ _ _ _ dX12_number_55 rfl (Nat.le_of_ble_eq_true rfl) (Nat.le_of_ble_eq_true rfl) ⟨rfl, hW_649, (hF_650.mono rfl), (by simp only [fe_750, mz_43, true_and, and_true, or_true, true_or, false_or, or_false, false_and, and_false, not_true_eq_false, not_false_eq_true] <;> first | omega | (simp only [Int32.lt_iff_toInt_lt, Int32.le_iff_toInt_le, Int32.reduceToInt, ← Int32.toInt_inj, true_and, and_true, or_true, true_or, false_or, or_false, false_and, and_false, not_true_eq_false, not_false_eq_true] <;> omega)), (by simp only [fe_751, fe_752, fe_753, mz_41, mz_42, true_and, and_true, or_true, true_or, false_or, or_false, false_and, and_false, not_true_eq_false, not_false_eq_true] <;> first | omega | (simp only [Int32.lt_iff_toInt_lt, Int32.le_iff_toInt_le, Int32.reduceToInt, ← Int32.toInt_inj, true_and, and_true, or_true, true_or, false_or, or_false, false_and, and_false, not_true_eq_false, not_false_eq_true] <;> omega)), (by simp only [fe_754, fe_755, fe_756, fe_757, true_and, and_true, or_true, true_or, false_or, or_false, false_and, and_false, not_true_eq_false, not_false_eq_true] <;> first | omega | (simp only [Int32.lt_iff_toInt_lt, Int32.le_iff_toInt_le, Int32.reduceToInt, ← Int32.toInt_inj, true_and, and_true, or_true, true_or, false_or, or_false, false_and, and_false, not_true_eq_false, not_false_eq_true] <;> omega)), (by simp only [fe_758, true_and, and_true, or_true, true_or, false_or, or_false, false_and, and_false, not_true_eq_false, not_false_eq_true] <;> first | omega | (simp only [Int32.lt_iff_toInt_lt, Int32.le_iff_toInt_le, Int32.reduceToInt, ← Int32.toInt_inj, true_and, and_true, or_true, true_or, false_or, or_false, false_and, and_false, not_true_eq_false, not_false_eq_true] <;> omega)), (by simp only [fe_759, mz_44, true_and, and_true, or_true, true_or, false_or, or_false, false_and, and_false, not_true_eq_false, not_false_eq_true] <;> first | omega | (simp only [Int32.lt_iff_toInt_lt, Int32.le_iff_toInt_le, Int32.reduceToInt, ← Int32.toInt_inj, true_and, and_true, or_true, true_or, false_or, or_false, false_and, and_false, not_true_eq_false, not_false_eq_true] <;> omega)), (by simp only [fe_760, fe_761, fe_762, fe_763, mz_41, mz_42, mz_43, true_and, and_true, or_true, true_or, false_or, or_false, false_and, and_false, not_true_eq_false, not_false_eq_true] <;> first | omega | (simp only [Int32.lt_iff_toInt_lt, Int32.le_iff_toInt_le, Int32.reduceToInt, ← Int32.toInt_inj, true_and, and_true, or_true, true_or, false_or, or_false, false_and, and_false, not_true_eq_false, not_false_eq_true] <;> omega))⟩
      · simp only [Int32.lt_iff_toInt_lt, Int32.le_iff_toInt_le, Int32.reduceToInt, ← Int32.toInt_inj] at h_688
        refine v_aload_n hC dX12_number_27 rfl ?_
        refine v_get hC fl_X12_131 m_1 e_655 rfl dX12_number_28 ?_
        obtain ⟨v_764, h_765⟩ : ∃ v9 : Int64, v_667.toInt64 = v9 := ⟨_, rfl⟩
        refine v_i2l hC dX12_number_31 h_765 ?_
        have h_766 : v_764.toInt = v_667.toInt := by rw [← h_765]; exact Int32.toInt_toInt64 _
        refine v_iload_n hC dX12_number_32 rfl ?_
        obtain ⟨v_767, h_768⟩ : ∃ v9 : Int64, a_1.toInt64 = v9 := ⟨_, rfl⟩
        refine v_i2l hC dX12_number_33 h_768 ?_
        have h_769 : v_767.toInt = a_1.toInt := by rw [← h_768]; exact Int32.toInt_toInt64 _
        refine v_iload_n hC dX12_number_34 rfl ?_
        obtain ⟨v_770, h_771⟩ : ∃ v9 : Int64, a_2.toInt64 = v9 := ⟨_, rfl⟩
        refine v_i2l hC dX12_number_35 h_771 ?_
        have h_772 : v_770.toInt = a_2.toInt := by rw [← h_771]; exact Int32.toInt_toInt64 _
        refine v_si hC (rest := []) mt_X12_in (p_X12_in hW_649) mx_X12_in ml_X12_79 (by decide) rfl (cells1 := 0) (slots1 := 0) (by decide) (by decide) (Nat.le_of_ble_eq_true rfl) (Nat.le_of_ble_eq_true rfl) rfl (Nat.le_of_ble_eq_true rfl) dX12_number_36 (fun r_773 L_774 f_775 h_776 => ?_)
        obtain ⟨rfl, rfl, b_777, x_778⟩ := h_776
        try simp only [Int32.reduceToInt, Int64.reduceToInt] at x_778
        refine v_if_ne hC dX12_number_39 (tgt := 47) (by decide) (fun h_781 => ?_) (fun h_781 => ?_)
        · simp only [Int32.lt_iff_toInt_lt, Int32.le_iff_toInt_le, Int32.reduceToInt, ← Int32.toInt_inj] at h_781
          refine v_aload_n hC dX12_number_47 rfl ?_
          refine v_vi hC (rest := []) m_1 e_655 rfl mi_X12_good ms_X12_good (p_X12_good hW_649 k_0) mx_X12_good ml_X12_139 (by decide) rfl (cells1 := 0) (slots1 := 0) (by decide) (by decide) (Nat.le_of_ble_eq_true rfl) (Nat.le_of_ble_eq_true rfl) rfl (Nat.le_of_ble_eq_true rfl) dX12_number_48 (fun r_782 L_783 f_784 h_785 => ?_)
          obtain ⟨rfl, rfl, b_786, x_787⟩ := h_785
          have fe_790 : fld (f_642 a_0) 12 = (v_668 : Int32).toInt := by rw [e_655]; rfl
          rw [fe_790] at x_787
          clear fe_790
          try simp only [Int32.reduceToInt, Int64.reduceToInt] at x_787
          refine v_if_ne hC dX12_number_51 (tgt := 56) (by decide) (fun h_791 => ?_) (fun h_791 => ?_)
          · simp only [Int32.lt_iff_toInt_lt, Int32.le_iff_toInt_le, Int32.reduceToInt, ← Int32.toInt_inj] at h_791
            refine v_aload_n hC dX12_number_56 rfl ?_
            refine v_get hC fl_X12_131 m_1 e_655 rfl dX12_number_57 ?_
            refine v_istore_n hC dX12_number_60 (by decide) (lv' := [(3, .int v_667), (0, .ref a_0), (1, .int a_1), (2, .int a_2)]) rfl ?_
            refine v_aload_n hC dX12_number_61 rfl ?_
            refine v_vv hC (rest := []) m_1 e_655 rfl mi_X12_advance ms_X12_advance (p_X12_advance hW_649 k_0) mx_X12_advance ml_X12_156 (by decide) rfl (cells1 := 0) (slots1 := 0) (by decide) (by decide) (Nat.le_of_ble_eq_true rfl) (Nat.le_of_ble_eq_true rfl) rfl (Nat.le_of_ble_eq_true rfl) dX12_number_62 (fun L_793 f_794 h_795 => ?_)
            obtain ⟨rfl, hW_800, hF_801, x_796, x_797, x_798, x_799⟩ := h_795
            have fe_802 : fld (f_642 a_0) 8 = (v_661 : Int32).toInt := by rw [e_655]; rfl
            have fe_803 : fld (f_642 a_0) 12 = (v_668 : Int32).toInt := by rw [e_655]; rfl
            have fe_804 : fld (f_642 a_0) 20 = (v_672 : Int32).toInt := by rw [e_655]; rfl
            obtain ⟨v_806, v_807, v_809, v_811, v_813, v_815, v_817, v_818, v_819, v_820, v_822, e_805, b_808, b_810, b_812, b_814, b_816, b_821, b_823⟩ := hW_800.at m_1 t_2
            have fe_824 : fld (f_794 a_0) 8 = (v_811 : Int32).toInt := by rw [e_805]; rfl
            have fe_825 : fld (f_794 a_0) 9 = (v_813 : Int32).toInt := by rw [e_805]; rfl
            have fe_826 : fld (f_794 a_0) 10 = (v_815 : Int32).toInt := by rw [e_805]; rfl
            have fe_827 : fld (f_794 a_0) 12 = (v_818 : Int32).toInt := by rw [e_805]; rfl
            have fe_828 : fld (f_794 a_0) 20 = (v_822 : Int32).toInt := by rw [e_805]; rfl
            rw [fe_802, fe_825, fe_824] at x_796
            rw [fe_826, fe_825, fe_824] at x_797
            rw [fe_827, fe_803] at x_798
            rw [fe_828, fe_804] at x_799
            clear fe_802 fe_803 fe_804 fe_824 fe_825 fe_826 fe_827 fe_828
            refine v_iload_n hC dX12_number_65 rfl ?_
            have fe_829 : fld (f_794 a_0) 12 = (v_818 : Int32).toInt := by rw [e_805]; rfl
            have fe_830 : fld (f_794 a_0) 8 = (v_811 : Int32).toInt := by rw [e_805]; rfl
            have fe_831 : fld (f_794 a_0) 9 = (v_813 : Int32).toInt := by rw [e_805]; rfl
            have fe_832 : fld (f_794 a_0) 12 = (v_818 : Int32).toInt := by rw [e_805]; rfl
            have fe_833 : fld (f_794 a_0) 8 = (v_811 : Int32).toInt := by rw [e_805]; rfl
            have fe_834 : fld (f_794 a_0) 9 = (v_813 : Int32).toInt := by rw [e_805]; rfl
            have fe_835 : fld (f_794 a_0) 10 = (v_815 : Int32).toInt := by rw [e_805]; rfl
            have fe_836 : fld (f_794 a_0) 12 = (v_818 : Int32).toInt := by rw [e_805]; rfl
            have fe_837 : fld (f_794 a_0) 12 = (v_818 : Int32).toInt := by rw [e_805]; rfl
            have fe_838 : fld (f_794 a_0) 20 = (v_822 : Int32).toInt := by rw [e_805]; rfl
            have fe_839 : fld (f_794 a_0) 8 = (v_811 : Int32).toInt := by rw [e_805]; rfl
            have fe_840 : fld (f_794 a_0) 9 = (v_813 : Int32).toInt := by rw [e_805]; rfl
            have fe_841 : fld (f_794 a_0) 10 = (v_815 : Int32).toInt := by rw [e_805]; rfl
            have fe_842 : fld (f_794 a_0) 12 = (v_818 : Int32).toInt := by rw [e_805]; rfl
            exact hR _ _ _ _ _ _ _ dX12_number_66 rfl (Nat.le_of_ble_eq_true rfl) (Nat.le_of_ble_eq_true rfl) ⟨rfl, hW_800, ((hF_650.tr hF_801).mono rfl), (by simp only [fe_829, mz_43, true_and, and_true, or_true, true_or, false_or, or_false, false_and, and_false, not_true_eq_false, not_false_eq_true] <;> first | omega | (simp only [Int32.lt_iff_toInt_lt, Int32.le_iff_toInt_le, Int32.reduceToInt, ← Int32.toInt_inj, true_and, and_true, or_true, true_or, false_or, or_false, false_and, and_false, not_true_eq_false, not_false_eq_true] <;> omega)), (by simp only [fe_830, fe_831, fe_832, mz_41, mz_42, true_and, and_true, or_true, true_or, false_or, or_false, false_and, and_false, not_true_eq_false, not_false_eq_true] <;> first | omega | (simp only [Int32.lt_iff_toInt_lt, Int32.le_iff_toInt_le, Int32.reduceToInt, ← Int32.toInt_inj, true_and, and_true, or_true, true_or, false_or, or_false, false_and, and_false, not_true_eq_false, not_false_eq_true] <;> omega)), (by simp only [fe_833, fe_834, fe_835, fe_836, true_and, and_true, or_true, true_or, false_or, or_false, false_and, and_false, not_true_eq_false, not_false_eq_true] <;> first | omega | (simp only [Int32.lt_iff_toInt_lt, Int32.le_iff_toInt_le, Int32.reduceToInt, ← Int32.toInt_inj, true_and, and_true, or_true, true_or, false_or, or_false, false_and, and_false, not_true_eq_false, not_false_eq_true] <;> omega)), (by simp only [fe_837, true_and, and_true, or_true, true_or, false_or, or_false, false_and, and_false, not_true_eq_false, not_false_eq_true] <;> first | omega | (simp only [Int32.lt_iff_toInt_lt, Int32.le_iff_toInt_le, Int32.reduceToInt, ← Int32.toInt_inj, true_and, and_true, or_true, true_or, false_or, or_false, false_and, and_false, not_true_eq_false, not_false_eq_true] <;> omega)), (by simp only [fe_838, mz_44, true_and, and_true, or_true, true_or, false_or, or_false, false_and, and_false, not_true_eq_false, not_false_eq_true] <;> first | omega | (simp only [Int32.lt_iff_toInt_lt, Int32.le_iff_toInt_le, Int32.reduceToInt, ← Int32.toInt_inj, true_and, and_true, or_true, true_or, false_or, or_false, false_and, and_false, not_true_eq_false, not_false_eq_true] <;> omega)), (by simp only [fe_839, fe_840, fe_841, fe_842, mz_41, mz_42, mz_43, true_and, and_true, or_true, true_or, false_or, or_false, false_and, and_false, not_true_eq_false, not_false_eq_true] <;> first | omega | (simp only [Int32.lt_iff_toInt_lt, Int32.le_iff_toInt_le, Int32.reduceToInt, ← Int32.toInt_inj, true_and, and_true, or_true, true_or, false_or, or_false, false_and, and_false, not_true_eq_false, not_false_eq_true] <;> omega))⟩
          · simp only [Int32.lt_iff_toInt_lt, Int32.le_iff_toInt_le, Int32.reduceToInt, ← Int32.toInt_inj] at h_791
            refine v_iconst hC dX12_number_54 (v := 0) (by decide) ?_
            have fe_843 : fld (f_642 a_0) 12 = (v_668 : Int32).toInt := by rw [e_655]; rfl
            have fe_844 : fld (f_642 a_0) 8 = (v_661 : Int32).toInt := by rw [e_655]; rfl
            have fe_845 : fld (f_642 a_0) 9 = (v_663 : Int32).toInt := by rw [e_655]; rfl
            have fe_846 : fld (f_642 a_0) 12 = (v_668 : Int32).toInt := by rw [e_655]; rfl
            have fe_847 : fld (f_642 a_0) 8 = (v_661 : Int32).toInt := by rw [e_655]; rfl
            have fe_848 : fld (f_642 a_0) 9 = (v_663 : Int32).toInt := by rw [e_655]; rfl
            have fe_849 : fld (f_642 a_0) 10 = (v_665 : Int32).toInt := by rw [e_655]; rfl
            have fe_850 : fld (f_642 a_0) 12 = (v_668 : Int32).toInt := by rw [e_655]; rfl
            have fe_851 : fld (f_642 a_0) 12 = (v_668 : Int32).toInt := by rw [e_655]; rfl
            have fe_852 : fld (f_642 a_0) 20 = (v_672 : Int32).toInt := by rw [e_655]; rfl
            have fe_853 : fld (f_642 a_0) 8 = (v_661 : Int32).toInt := by rw [e_655]; rfl
            have fe_854 : fld (f_642 a_0) 9 = (v_663 : Int32).toInt := by rw [e_655]; rfl
            have fe_855 : fld (f_642 a_0) 10 = (v_665 : Int32).toInt := by rw [e_655]; rfl
            have fe_856 : fld (f_642 a_0) 12 = (v_668 : Int32).toInt := by rw [e_655]; rfl
            exact hR _ _ _ _ _ _ _ dX12_number_55 rfl (Nat.le_of_ble_eq_true rfl) (Nat.le_of_ble_eq_true rfl) ⟨rfl, hW_649, (hF_650.mono rfl), (by simp only [fe_843, mz_43, true_and, and_true, or_true, true_or, false_or, or_false, false_and, and_false, not_true_eq_false, not_false_eq_true] <;> first | omega | (simp only [Int32.lt_iff_toInt_lt, Int32.le_iff_toInt_le, Int32.reduceToInt, ← Int32.toInt_inj, true_and, and_true, or_true, true_or, false_or, or_false, false_and, and_false, not_true_eq_false, not_false_eq_true] <;> omega)), (by simp only [fe_844, fe_845, fe_846, mz_41, mz_42, true_and, and_true, or_true, true_or, false_or, or_false, false_and, and_false, not_true_eq_false, not_false_eq_true] <;> first | omega | (simp only [Int32.lt_iff_toInt_lt, Int32.le_iff_toInt_le, Int32.reduceToInt, ← Int32.toInt_inj, true_and, and_true, or_true, true_or, false_or, or_false, false_and, and_false, not_true_eq_false, not_false_eq_true] <;> omega)), (by simp only [fe_847, fe_848, fe_849, fe_850, true_and, and_true, or_true, true_or, false_or, or_false, false_and, and_false, not_true_eq_false, not_false_eq_true] <;> first | omega | (simp only [Int32.lt_iff_toInt_lt, Int32.le_iff_toInt_le, Int32.reduceToInt, ← Int32.toInt_inj, true_and, and_true, or_true, true_or, false_or, or_false, false_and, and_false, not_true_eq_false, not_false_eq_true] <;> omega)), (by simp only [fe_851, true_and, and_true, or_true, true_or, false_or, or_false, false_and, and_false, not_true_eq_false, not_false_eq_true] <;> first | omega | (simp only [Int32.lt_iff_toInt_lt, Int32.le_iff_toInt_le, Int32.reduceToInt, ← Int32.toInt_inj, true_and, and_true, or_true, true_or, false_or, or_false, false_and, and_false, not_true_eq_false, not_false_eq_true] <;> omega)), (by simp only [fe_852, mz_44, true_and, and_true, or_true, true_or, false_or, or_false, false_and, and_false, not_true_eq_false, not_false_eq_true] <;> first | omega | (simp only [Int32.lt_iff_toInt_lt, Int32.le_iff_toInt_le, Int32.reduceToInt, ← Int32.toInt_inj, true_and, and_true, or_true, true_or, false_or, or_false, false_and, and_false, not_true_eq_false, not_false_eq_true] <;> omega)), (by simp only [fe_853, fe_854, fe_855, fe_856, mz_41, mz_42, mz_43, true_and, and_true, or_true, true_or, false_or, or_false, false_and, and_false, not_true_eq_false, not_false_eq_true] <;> first | omega | (simp only [Int32.lt_iff_toInt_lt, Int32.le_iff_toInt_le, Int32.reduceToInt, ← Int32.toInt_inj, true_and, and_true, or_true, true_or, false_or, or_false, false_and, and_false, not_true_eq_false, not_false_eq_true] <;> omega))⟩
        · simp only [Int32.lt_iff_toInt_lt, Int32.le_iff_toInt_le, Int32.reduceToInt, ← Int32.toInt_inj] at h_781
          refine v_aload_n hC dX12_number_42 rfl ?_
          refine v_iconst hC dX12_number_43 (v := 2) (by decide) ?_
          refine v_vv hC (rest := []) m_1 e_655 rfl mi_X12_errs ms_X12_errs (p_X12_errs hW_649 k_0 (by decide)) mx_X12_errs ml_X12_162 (by decide) rfl (cells1 := 0) (slots1 := 0) (by decide) (by decide) (Nat.le_of_ble_eq_true rfl) (Nat.le_of_ble_eq_true rfl) rfl (Nat.le_of_ble_eq_true rfl) dX12_number_44 (fun L_858 f_859 h_860 => ?_)
          obtain ⟨rfl, hW_866, hF_867, x_861, x_862, x_863, x_864, x_865⟩ := h_860
          have fe_868 : fld (f_642 a_0) 8 = (v_661 : Int32).toInt := by rw [e_655]; rfl
          have fe_869 : fld (f_642 a_0) 9 = (v_663 : Int32).toInt := by rw [e_655]; rfl
          have fe_870 : fld (f_642 a_0) 10 = (v_665 : Int32).toInt := by rw [e_655]; rfl
          have fe_871 : fld (f_642 a_0) 20 = (v_672 : Int32).toInt := by rw [e_655]; rfl
          obtain ⟨v_873, v_874, v_876, v_878, v_880, v_882, v_884, v_885, v_886, v_887, v_889, e_872, b_875, b_877, b_879, b_881, b_883, b_888, b_890⟩ := hW_866.at m_1 t_2
          have fe_891 : fld (f_859 a_0) 8 = (v_878 : Int32).toInt := by rw [e_872]; rfl
          have fe_892 : fld (f_859 a_0) 9 = (v_880 : Int32).toInt := by rw [e_872]; rfl
          have fe_893 : fld (f_859 a_0) 10 = (v_882 : Int32).toInt := by rw [e_872]; rfl
          have fe_894 : fld (f_859 a_0) 12 = (v_885 : Int32).toInt := by rw [e_872]; rfl
          have fe_895 : fld (f_859 a_0) 20 = (v_889 : Int32).toInt := by rw [e_872]; rfl
          rw [fe_894] at x_861
          rw [fe_891, fe_868] at x_862
          rw [fe_892, fe_869] at x_863
          rw [fe_893, fe_870] at x_864
          rw [fe_895, fe_871] at x_865
          clear fe_868 fe_869 fe_870 fe_871 fe_891 fe_892 fe_893 fe_894 fe_895
          refine v_aload_n hC dX12_number_47 rfl ?_
          refine v_vi hC (rest := []) m_1 e_872 rfl mi_X12_good ms_X12_good (p_X12_good hW_866 k_0) mx_X12_good ml_X12_139 (by decide) rfl (cells1 := 0) (slots1 := 0) (by decide) (by decide) (Nat.le_of_ble_eq_true rfl) (Nat.le_of_ble_eq_true rfl) rfl (Nat.le_of_ble_eq_true rfl) dX12_number_48 (fun r_896 L_897 f_898 h_899 => ?_)
          obtain ⟨rfl, rfl, b_900, x_901⟩ := h_899
          have fe_904 : fld (f_859 a_0) 12 = (v_885 : Int32).toInt := by rw [e_872]; rfl
          rw [fe_904] at x_901
          clear fe_904
          try simp only [Int32.reduceToInt, Int64.reduceToInt] at x_901
          refine v_if_ne hC dX12_number_51 (tgt := 56) (by decide) (fun h_905 => ?_) (fun h_905 => ?_)
          · simp only [Int32.lt_iff_toInt_lt, Int32.le_iff_toInt_le, Int32.reduceToInt, ← Int32.toInt_inj] at h_905
            refine v_aload_n hC dX12_number_56 rfl ?_
            refine v_get hC fl_X12_131 m_1 e_872 rfl dX12_number_57 ?_
            refine v_istore_n hC dX12_number_60 (by decide) (lv' := [(3, .int v_884), (0, .ref a_0), (1, .int a_1), (2, .int a_2)]) rfl ?_
            refine v_aload_n hC dX12_number_61 rfl ?_
            refine v_vv hC (rest := []) m_1 e_872 rfl mi_X12_advance ms_X12_advance (p_X12_advance hW_866 k_0) mx_X12_advance ml_X12_156 (by decide) rfl (cells1 := 0) (slots1 := 0) (by decide) (by decide) (Nat.le_of_ble_eq_true rfl) (Nat.le_of_ble_eq_true rfl) rfl (Nat.le_of_ble_eq_true rfl) dX12_number_62 (fun L_907 f_908 h_909 => ?_)
            obtain ⟨rfl, hW_914, hF_915, x_910, x_911, x_912, x_913⟩ := h_909
            have fe_916 : fld (f_859 a_0) 8 = (v_878 : Int32).toInt := by rw [e_872]; rfl
            have fe_917 : fld (f_859 a_0) 12 = (v_885 : Int32).toInt := by rw [e_872]; rfl
            have fe_918 : fld (f_859 a_0) 20 = (v_889 : Int32).toInt := by rw [e_872]; rfl
            obtain ⟨v_920, v_921, v_923, v_925, v_927, v_929, v_931, v_932, v_933, v_934, v_936, e_919, b_922, b_924, b_926, b_928, b_930, b_935, b_937⟩ := hW_914.at m_1 t_2
            have fe_938 : fld (f_908 a_0) 8 = (v_925 : Int32).toInt := by rw [e_919]; rfl
            have fe_939 : fld (f_908 a_0) 9 = (v_927 : Int32).toInt := by rw [e_919]; rfl
            have fe_940 : fld (f_908 a_0) 10 = (v_929 : Int32).toInt := by rw [e_919]; rfl
            have fe_941 : fld (f_908 a_0) 12 = (v_932 : Int32).toInt := by rw [e_919]; rfl
            have fe_942 : fld (f_908 a_0) 20 = (v_936 : Int32).toInt := by rw [e_919]; rfl
            rw [fe_916, fe_939, fe_938] at x_910
            rw [fe_940, fe_939, fe_938] at x_911
            rw [fe_941, fe_917] at x_912
            rw [fe_942, fe_918] at x_913
            clear fe_916 fe_917 fe_918 fe_938 fe_939 fe_940 fe_941 fe_942
            refine v_iload_n hC dX12_number_65 rfl ?_
            have fe_943 : fld (f_908 a_0) 12 = (v_932 : Int32).toInt := by rw [e_919]; rfl
            have fe_944 : fld (f_908 a_0) 8 = (v_925 : Int32).toInt := by rw [e_919]; rfl
            have fe_945 : fld (f_908 a_0) 9 = (v_927 : Int32).toInt := by rw [e_919]; rfl
            have fe_946 : fld (f_908 a_0) 12 = (v_932 : Int32).toInt := by rw [e_919]; rfl
            have fe_947 : fld (f_908 a_0) 8 = (v_925 : Int32).toInt := by rw [e_919]; rfl
            have fe_948 : fld (f_908 a_0) 9 = (v_927 : Int32).toInt := by rw [e_919]; rfl
            have fe_949 : fld (f_908 a_0) 10 = (v_929 : Int32).toInt := by rw [e_919]; rfl
            have fe_950 : fld (f_908 a_0) 12 = (v_932 : Int32).toInt := by rw [e_919]; rfl
            have fe_951 : fld (f_908 a_0) 12 = (v_932 : Int32).toInt := by rw [e_919]; rfl
            have fe_952 : fld (f_908 a_0) 20 = (v_936 : Int32).toInt := by rw [e_919]; rfl
            have fe_953 : fld (f_908 a_0) 8 = (v_925 : Int32).toInt := by rw [e_919]; rfl
            have fe_954 : fld (f_908 a_0) 9 = (v_927 : Int32).toInt := by rw [e_919]; rfl
            have fe_955 : fld (f_908 a_0) 10 = (v_929 : Int32).toInt := by rw [e_919]; rfl
            have fe_956 : fld (f_908 a_0) 12 = (v_932 : Int32).toInt := by rw [e_919]; rfl
            exact hR _ _ _ _ _ _ _ dX12_number_66 rfl (Nat.le_of_ble_eq_true rfl) (Nat.le_of_ble_eq_true rfl) ⟨rfl, hW_914, (((hF_650.tr hF_867).tr hF_915).mono rfl), (by simp only [fe_943, mz_43, true_and, and_true, or_true, true_or, false_or, or_false, false_and, and_false, not_true_eq_false, not_false_eq_true] <;> first | omega | (simp only [Int32.lt_iff_toInt_lt, Int32.le_iff_toInt_le, Int32.reduceToInt, ← Int32.toInt_inj, true_and, and_true, or_true, true_or, false_or, or_false, false_and, and_false, not_true_eq_false, not_false_eq_true] <;> omega)), (by simp only [fe_944, fe_945, fe_946, mz_41, mz_42, true_and, and_true, or_true, true_or, false_or, or_false, false_and, and_false, not_true_eq_false, not_false_eq_true] <;> first | omega | (simp only [Int32.lt_iff_toInt_lt, Int32.le_iff_toInt_le, Int32.reduceToInt, ← Int32.toInt_inj, true_and, and_true, or_true, true_or, false_or, or_false, false_and, and_false, not_true_eq_false, not_false_eq_true] <;> omega)), (by simp only [fe_947, fe_948, fe_949, fe_950, true_and, and_true, or_true, true_or, false_or, or_false, false_and, and_false, not_true_eq_false, not_false_eq_true] <;> first | omega | (simp only [Int32.lt_iff_toInt_lt, Int32.le_iff_toInt_le, Int32.reduceToInt, ← Int32.toInt_inj, true_and, and_true, or_true, true_or, false_or, or_false, false_and, and_false, not_true_eq_false, not_false_eq_true] <;> omega)), (by simp only [fe_951, true_and, and_true, or_true, true_or, false_or, or_false, false_and, and_false, not_true_eq_false, not_false_eq_true] <;> first | omega | (simp only [Int32.lt_iff_toInt_lt, Int32.le_iff_toInt_le, Int32.reduceToInt, ← Int32.toInt_inj, true_and, and_true, or_true, true_or, false_or, or_false, false_and, and_false, not_true_eq_false, not_false_eq_true] <;> omega)), (by simp only [fe_952, mz_44, true_and, and_true, or_true, true_or, false_or, or_false, false_and, and_false, not_true_eq_false, not_false_eq_true] <;> first | omega | (simp only [Int32.lt_iff_toInt_lt, Int32.le_iff_toInt_le, Int32.reduceToInt, ← Int32.toInt_inj, true_and, and_true, or_true, true_or, false_or, or_false, false_and, and_false, not_true_eq_false, not_false_eq_true] <;> omega)), (by simp only [fe_953, fe_954, fe_955, fe_956, mz_41, mz_42, mz_43, true_and, and_true, or_true, true_or, false_or, or_false, false_and, and_false, not_true_eq_false, not_false_eq_true] <;> first | omega | (simp only [Int32.lt_iff_toInt_lt, Int32.le_iff_toInt_le, Int32.reduceToInt, ← Int32.toInt_inj, true_and, and_true, or_true, true_or, false_or, or_false, false_and, and_false, not_true_eq_false, not_false_eq_true] <;> omega))⟩
          · simp only [Int32.lt_iff_toInt_lt, Int32.le_iff_toInt_le, Int32.reduceToInt, ← Int32.toInt_inj] at h_905
            refine v_iconst hC dX12_number_54 (v := 0) (by decide) ?_
            have fe_957 : fld (f_859 a_0) 12 = (v_885 : Int32).toInt := by rw [e_872]; rfl
            have fe_958 : fld (f_859 a_0) 8 = (v_878 : Int32).toInt := by rw [e_872]; rfl
            have fe_959 : fld (f_859 a_0) 9 = (v_880 : Int32).toInt := by rw [e_872]; rfl
            have fe_960 : fld (f_859 a_0) 12 = (v_885 : Int32).toInt := by rw [e_872]; rfl
            have fe_961 : fld (f_859 a_0) 8 = (v_878 : Int32).toInt := by rw [e_872]; rfl
            have fe_962 : fld (f_859 a_0) 9 = (v_880 : Int32).toInt := by rw [e_872]; rfl
            have fe_963 : fld (f_859 a_0) 10 = (v_882 : Int32).toInt := by rw [e_872]; rfl
            have fe_964 : fld (f_859 a_0) 12 = (v_885 : Int32).toInt := by rw [e_872]; rfl
            have fe_965 : fld (f_859 a_0) 12 = (v_885 : Int32).toInt := by rw [e_872]; rfl
            have fe_966 : fld (f_859 a_0) 20 = (v_889 : Int32).toInt := by rw [e_872]; rfl
            have fe_967 : fld (f_859 a_0) 8 = (v_878 : Int32).toInt := by rw [e_872]; rfl
            have fe_968 : fld (f_859 a_0) 9 = (v_880 : Int32).toInt := by rw [e_872]; rfl
            have fe_969 : fld (f_859 a_0) 10 = (v_882 : Int32).toInt := by rw [e_872]; rfl
            have fe_970 : fld (f_859 a_0) 12 = (v_885 : Int32).toInt := by rw [e_872]; rfl
            exact hR _ _ _ _ _ _ _ dX12_number_55 rfl (Nat.le_of_ble_eq_true rfl) (Nat.le_of_ble_eq_true rfl) ⟨rfl, hW_866, ((hF_650.tr hF_867).mono rfl), (by simp only [fe_957, mz_43, true_and, and_true, or_true, true_or, false_or, or_false, false_and, and_false, not_true_eq_false, not_false_eq_true] <;> first | omega | (simp only [Int32.lt_iff_toInt_lt, Int32.le_iff_toInt_le, Int32.reduceToInt, ← Int32.toInt_inj, true_and, and_true, or_true, true_or, false_or, or_false, false_and, and_false, not_true_eq_false, not_false_eq_true] <;> omega)), (by simp only [fe_958, fe_959, fe_960, mz_41, mz_42, true_and, and_true, or_true, true_or, false_or, or_false, false_and, and_false, not_true_eq_false, not_false_eq_true] <;> first | omega | (simp only [Int32.lt_iff_toInt_lt, Int32.le_iff_toInt_le, Int32.reduceToInt, ← Int32.toInt_inj, true_and, and_true, or_true, true_or, false_or, or_false, false_and, and_false, not_true_eq_false, not_false_eq_true] <;> omega)), (by simp only [fe_961, fe_962, fe_963, fe_964, true_and, and_true, or_true, true_or, false_or, or_false, false_and, and_false, not_true_eq_false, not_false_eq_true] <;> first | omega | (simp only [Int32.lt_iff_toInt_lt, Int32.le_iff_toInt_le, Int32.reduceToInt, ← Int32.toInt_inj, true_and, and_true, or_true, true_or, false_or, or_false, false_and, and_false, not_true_eq_false, not_false_eq_true] <;> omega)), (by simp only [fe_965, true_and, and_true, or_true, true_or, false_or, or_false, false_and, and_false, not_true_eq_false, not_false_eq_true] <;> first | omega | (simp only [Int32.lt_iff_toInt_lt, Int32.le_iff_toInt_le, Int32.reduceToInt, ← Int32.toInt_inj, true_and, and_true, or_true, true_or, false_or, or_false, false_and, and_false, not_true_eq_false, not_false_eq_true] <;> omega)), (by simp only [fe_966, mz_44, true_and, and_true, or_true, true_or, false_or, or_false, false_and, and_false, not_true_eq_false, not_false_eq_true] <;> first | omega | (simp only [Int32.lt_iff_toInt_lt, Int32.le_iff_toInt_le, Int32.reduceToInt, ← Int32.toInt_inj, true_and, and_true, or_true, true_or, false_or, or_false, false_and, and_false, not_true_eq_false, not_false_eq_true] <;> omega)), (by simp only [fe_967, fe_968, fe_969, fe_970, mz_41, mz_42, mz_43, true_and, and_true, or_true, true_or, false_or, or_false, false_and, and_false, not_true_eq_false, not_false_eq_true] <;> first | omega | (simp only [Int32.lt_iff_toInt_lt, Int32.le_iff_toInt_le, Int32.reduceToInt, ← Int32.toInt_inj, true_and, and_true, or_true, true_or, false_or, or_false, false_and, and_false, not_true_eq_false, not_false_eq_true] <;> omega))⟩
set_option maxRecDepth 100000 in
set_option maxHeartbeats 8000000 in
theorem p_X12_needs {l : Launch} {E : Ez} {L : List Nat} {f : Nat → va_E} {T : Nat → va_E → Prop} {a_0 : Nat} {a_1 : Nat} {q : Nat → Nat} (hW : WT T L f) (k_0 : isM T L E a_0 q) (ha_1 : a_1 < 77) : CV l yX12_needs cX12_needs 2 6 0 0 E [.ref a_0, .ref (eK E a_1)] L f (fun L1 f1 => L = L1 ∧ WT T L f1 ∧ FR [12] f f1 ∧ (¬ fld (f1 a_0) 12 = 0 ∨ ((iw (f a_0) (f (q 4)) a_1).toInt = 1 ∧ fld (f a_0) 8 ≤ fld (f1 a_0) 9 ∧ fld (f1 a_0) 9 ≤ fld (f1 a_0) 8)) ∧ (¬ fld (f1 a_0) 12 = 0 ∨ fld (f1 a_0) 10 = 0 ∨ fld (f1 a_0) 9 < fld (f1 a_0) 8) ∧ (¬ fld (f1 a_0) 12 = 0 ∨ fld (f a_0) 12 = 0) ∧ fld (f1 a_0) 20 = fld (f a_0) 20 ∧ (¬ fld (f1 a_0) 12 = 0 ∨ (fld (f a_0) 12 = 0 ∧ (iw (f a_0) (f (q 4)) a_1).toInt = 1 ∧ fld (f a_0) 8 ≤ fld (f1 a_0) 9 ∧ fld (f1 a_0) 9 ≤ fld (f1 a_0) 8 ∧ (fld (f1 a_0) 10 = 0 ∨ fld (f1 a_0) 9 < fld (f1 a_0) 8)))) := by
  refine cv_of (by decide) (Nat.le_of_ble_eq_true rfl) (fun z hz hnm hC hR => ?_)
  have hC : Cx z E cX12_needs RX12 2 6 0 0 := hC
  subst hz
  show V z E 2 0 0 L f 0 [(0, .ref a_0), (1, .ref (eK E a_1))] []
  obtain ⟨m_1, t_2, nq_21, k_3, k_4, k_5, k_6, k_7, k_8, k_9, k_10, k_11, k_12, k_13, k_14, k_15, k_16, k_17, k_18, k_19, k_20⟩ := id k_0
  obtain ⟨v_23, v_24, v_26, v_28, v_30, v_32, v_34, v_35, v_36, v_37, v_39, e_22, b_25, b_27, b_29, b_31, b_33, b_38, b_40⟩ := hW.at m_1 t_2
  have mz_41 : fld (f a_0) 8 = v_28.toInt := by rw [e_22]; rfl
  have mz_42 : fld (f a_0) 12 = v_35.toInt := by rw [e_22]; rfl
  have mz_43 : fld (f a_0) 20 = v_39.toInt := by rw [e_22]; rfl
  refine v_aload_n hC dX12_needs_0 rfl ?_
  refine v_aload_n hC dX12_needs_1 rfl ?_
  refine v_vi hC (rest := []) m_1 e_22 rfl mi_X12_takes ms_X12_takes (p_X12_takes hW k_0 ha_1) mx_X12_takes ml_X12_159 (by decide) rfl (cells1 := 0) (slots1 := 0) (by decide) (by decide) (Nat.le_of_ble_eq_true rfl) (Nat.le_of_ble_eq_true rfl) rfl (Nat.le_of_ble_eq_true rfl) dX12_needs_2 (fun r_44 L_45 f_46 h_47 => ?_)
  obtain ⟨rfl, hW_52, hF_53, rfl, x_48, x_49, x_50, x_51⟩ := h_47
  have fe_54 : fld (f a_0) 8 = (v_28 : Int32).toInt := by rw [e_22]; rfl
  have fe_55 : fld (f a_0) 9 = (v_30 : Int32).toInt := by rw [e_22]; rfl
  have fe_56 : fld (f a_0) 10 = (v_32 : Int32).toInt := by rw [e_22]; rfl
  have fe_57 : fld (f a_0) 12 = (v_35 : Int32).toInt := by rw [e_22]; rfl
  have fe_58 : fld (f a_0) 20 = (v_39 : Int32).toInt := by rw [e_22]; rfl
  have ib_59 := iw_b (f a_0) (f (q 4)) a_1
  rw [fe_57, fe_56, fe_54, fe_55] at ib_59
  obtain ⟨v_61, v_62, v_64, v_66, v_68, v_70, v_72, v_73, v_74, v_75, v_77, e_60, b_63, b_65, b_67, b_69, b_71, b_76, b_78⟩ := hW_52.at m_1 t_2
  have fe_79 : fld (f_46 a_0) 8 = (v_66 : Int32).toInt := by rw [e_60]; rfl
  have fe_80 : fld (f_46 a_0) 9 = (v_68 : Int32).toInt := by rw [e_60]; rfl
  have fe_81 : fld (f_46 a_0) 10 = (v_70 : Int32).toInt := by rw [e_60]; rfl
  have fe_82 : fld (f_46 a_0) 12 = (v_73 : Int32).toInt := by rw [e_60]; rfl
  have fe_83 : fld (f_46 a_0) 20 = (v_77 : Int32).toInt := by rw [e_60]; rfl
  rw [fe_54, fe_80, fe_79, fe_81] at x_48
  rw [fe_79, fe_54, fe_80, fe_55, fe_81, fe_56] at x_49
  rw [fe_82, fe_57] at x_50
  rw [fe_83, fe_58] at x_51
  clear fe_54 fe_55 fe_56 fe_57 fe_58 fe_79 fe_80 fe_81 fe_82 fe_83
  try simp only [Int32.reduceToInt, Int64.reduceToInt] at x_48
  try simp only [Int32.reduceToInt, Int64.reduceToInt] at x_49
  try simp only [Int32.reduceToInt, Int64.reduceToInt] at x_50
  try simp only [Int32.reduceToInt, Int64.reduceToInt] at x_51
  refine v_if_ne hC dX12_needs_5 (tgt := 13) (by decide) (fun h_84 => ?_) (fun h_84 => ?_)
  · simp only [Int32.lt_iff_toInt_lt, Int32.le_iff_toInt_le, Int32.reduceToInt, ← Int32.toInt_inj] at h_84
    have fe_85 : fld (f_46 a_0) 8 = (v_66 : Int32).toInt := by rw [e_60]; rfl
    have fe_86 : fld (f_46 a_0) 9 = (v_68 : Int32).toInt := by rw [e_60]; rfl
    have fe_87 : fld (f_46 a_0) 12 = (v_73 : Int32).toInt := by rw [e_60]; rfl
    have fe_88 : fld (f_46 a_0) 8 = (v_66 : Int32).toInt := by rw [e_60]; rfl
    have fe_89 : fld (f_46 a_0) 9 = (v_68 : Int32).toInt := by rw [e_60]; rfl
    have fe_90 : fld (f_46 a_0) 10 = (v_70 : Int32).toInt := by rw [e_60]; rfl
    have fe_91 : fld (f_46 a_0) 12 = (v_73 : Int32).toInt := by rw [e_60]; rfl
    have fe_92 : fld (f_46 a_0) 12 = (v_73 : Int32).toInt := by rw [e_60]; rfl
    have fe_93 : fld (f_46 a_0) 20 = (v_77 : Int32).toInt := by rw [e_60]; rfl
    have fe_94 : fld (f_46 a_0) 8 = (v_66 : Int32).toInt := by rw [e_60]; rfl
    have fe_95 : fld (f_46 a_0) 9 = (v_68 : Int32).toInt := by rw [e_60]; rfl
    have fe_96 : fld (f_46 a_0) 10 = (v_70 : Int32).toInt := by rw [e_60]; rfl
    have fe_97 : fld (f_46 a_0) 12 = (v_73 : Int32).toInt := by rw [e_60]; rfl
    exact hR _ _ _ _ _ _ dX12_needs_13 (Nat.le_of_ble_eq_true rfl) (Nat.le_of_ble_eq_true rfl) ⟨rfl, hW_52, (hF_53.mono rfl), (by simp only [fe_85, fe_86, fe_87, mz_41, true_and, and_true, or_true, true_or, false_or, or_false, false_and, and_false, not_true_eq_false, not_false_eq_true] <;> first | omega | (simp only [Int32.lt_iff_toInt_lt, Int32.le_iff_toInt_le, Int32.reduceToInt, ← Int32.toInt_inj, true_and, and_true, or_true, true_or, false_or, or_false, false_and, and_false, not_true_eq_false, not_false_eq_true] <;> omega)), (by simp only [fe_88, fe_89, fe_90, fe_91, true_and, and_true, or_true, true_or, false_or, or_false, false_and, and_false, not_true_eq_false, not_false_eq_true] <;> first | omega | (simp only [Int32.lt_iff_toInt_lt, Int32.le_iff_toInt_le, Int32.reduceToInt, ← Int32.toInt_inj, true_and, and_true, or_true, true_or, false_or, or_false, false_and, and_false, not_true_eq_false, not_false_eq_true] <;> omega)), (by simp only [fe_92, mz_42, true_and, and_true, or_true, true_or, false_or, or_false, false_and, and_false, not_true_eq_false, not_false_eq_true] <;> first | omega | (simp only [Int32.lt_iff_toInt_lt, Int32.le_iff_toInt_le, Int32.reduceToInt, ← Int32.toInt_inj, true_and, and_true, or_true, true_or, false_or, or_false, false_and, and_false, not_true_eq_false, not_false_eq_true] <;> omega)), (by simp only [fe_93, mz_43, true_and, and_true, or_true, true_or, false_or, or_false, false_and, and_false, not_true_eq_false, not_false_eq_true] <;> first | omega | (simp only [Int32.lt_iff_toInt_lt, Int32.le_iff_toInt_le, Int32.reduceToInt, ← Int32.toInt_inj, true_and, and_true, or_true, true_or, false_or, or_false, false_and, and_false, not_true_eq_false, not_false_eq_true] <;> omega)), (by simp only [fe_94, fe_95, fe_96, fe_97, mz_41, mz_42, true_and, and_true, or_true, true_or, false_or, or_false, false_and, and_false, not_true_eq_false, not_false_eq_true] <;> first | omega | (simp only [Int32.lt_iff_toInt_lt, Int32.le_iff_toInt_le, Int32.reduceToInt, ← Int32.toInt_inj, true_and, and_true, or_true, true_or, false_or, or_false, false_and, and_false, not_true_eq_false, not_false_eq_true] <;> omega))⟩
  · simp only [Int32.lt_iff_toInt_lt, Int32.le_iff_toInt_le, Int32.reduceToInt, ← Int32.toInt_inj] at h_84
    refine v_aload_n hC dX12_needs_8 rfl ?_
    refine v_iconst hC dX12_needs_9 (v := 1) (by decide) ?_
    refine v_vv hC (rest := []) m_1 e_60 rfl mi_X12_errs ms_X12_errs (p_X12_errs hW_52 k_0 (by decide)) mx_X12_errs ml_X12_162 (by decide) rfl (cells1 := 0) (slots1 := 0) (by decide) (by decide) (Nat.le_of_ble_eq_true rfl) (Nat.le_of_ble_eq_true rfl) rfl (Nat.le_of_ble_eq_true rfl) dX12_needs_10 (fun L_99 f_100 h_101 => ?_)
    obtain ⟨rfl, hW_107, hF_108, x_102, x_103, x_104, x_105, x_106⟩ := h_101
    have fe_109 : fld (f_46 a_0) 8 = (v_66 : Int32).toInt := by rw [e_60]; rfl
    have fe_110 : fld (f_46 a_0) 9 = (v_68 : Int32).toInt := by rw [e_60]; rfl
    have fe_111 : fld (f_46 a_0) 10 = (v_70 : Int32).toInt := by rw [e_60]; rfl
    have fe_112 : fld (f_46 a_0) 20 = (v_77 : Int32).toInt := by rw [e_60]; rfl
    obtain ⟨v_114, v_115, v_117, v_119, v_121, v_123, v_125, v_126, v_127, v_128, v_130, e_113, b_116, b_118, b_120, b_122, b_124, b_129, b_131⟩ := hW_107.at m_1 t_2
    have fe_132 : fld (f_100 a_0) 8 = (v_119 : Int32).toInt := by rw [e_113]; rfl
    have fe_133 : fld (f_100 a_0) 9 = (v_121 : Int32).toInt := by rw [e_113]; rfl
    have fe_134 : fld (f_100 a_0) 10 = (v_123 : Int32).toInt := by rw [e_113]; rfl
    have fe_135 : fld (f_100 a_0) 12 = (v_126 : Int32).toInt := by rw [e_113]; rfl
    have fe_136 : fld (f_100 a_0) 20 = (v_130 : Int32).toInt := by rw [e_113]; rfl
    rw [fe_135] at x_102
    rw [fe_132, fe_109] at x_103
    rw [fe_133, fe_110] at x_104
    rw [fe_134, fe_111] at x_105
    rw [fe_136, fe_112] at x_106
    clear fe_109 fe_110 fe_111 fe_112 fe_132 fe_133 fe_134 fe_135 fe_136
    have fe_137 : fld (f_100 a_0) 8 = (v_119 : Int32).toInt := by rw [e_113]; rfl
    have fe_138 : fld (f_100 a_0) 9 = (v_121 : Int32).toInt := by rw [e_113]; rfl
    have fe_139 : fld (f_100 a_0) 12 = (v_126 : Int32).toInt := by rw [e_113]; rfl
    have fe_140 : fld (f_100 a_0) 8 = (v_119 : Int32).toInt := by rw [e_113]; rfl
    have fe_141 : fld (f_100 a_0) 9 = (v_121 : Int32).toInt := by rw [e_113]; rfl
    have fe_142 : fld (f_100 a_0) 10 = (v_123 : Int32).toInt := by rw [e_113]; rfl
    have fe_143 : fld (f_100 a_0) 12 = (v_126 : Int32).toInt := by rw [e_113]; rfl
    have fe_144 : fld (f_100 a_0) 12 = (v_126 : Int32).toInt := by rw [e_113]; rfl
    have fe_145 : fld (f_100 a_0) 20 = (v_130 : Int32).toInt := by rw [e_113]; rfl
    have fe_146 : fld (f_100 a_0) 8 = (v_119 : Int32).toInt := by rw [e_113]; rfl
    have fe_147 : fld (f_100 a_0) 9 = (v_121 : Int32).toInt := by rw [e_113]; rfl
    have fe_148 : fld (f_100 a_0) 10 = (v_123 : Int32).toInt := by rw [e_113]; rfl
    have fe_149 : fld (f_100 a_0) 12 = (v_126 : Int32).toInt := by rw [e_113]; rfl
    exact hR _ _ _ _ _ _ dX12_needs_13 (Nat.le_of_ble_eq_true rfl) (Nat.le_of_ble_eq_true rfl) ⟨rfl, hW_107, ((hF_53.tr hF_108).mono rfl), (by simp only [fe_137, fe_138, fe_139, mz_41, true_and, and_true, or_true, true_or, false_or, or_false, false_and, and_false, not_true_eq_false, not_false_eq_true] <;> first | omega | (simp only [Int32.lt_iff_toInt_lt, Int32.le_iff_toInt_le, Int32.reduceToInt, ← Int32.toInt_inj, true_and, and_true, or_true, true_or, false_or, or_false, false_and, and_false, not_true_eq_false, not_false_eq_true] <;> omega)), (by simp only [fe_140, fe_141, fe_142, fe_143, true_and, and_true, or_true, true_or, false_or, or_false, false_and, and_false, not_true_eq_false, not_false_eq_true] <;> first | omega | (simp only [Int32.lt_iff_toInt_lt, Int32.le_iff_toInt_le, Int32.reduceToInt, ← Int32.toInt_inj, true_and, and_true, or_true, true_or, false_or, or_false, false_and, and_false, not_true_eq_false, not_false_eq_true] <;> omega)), (by simp only [fe_144, mz_42, true_and, and_true, or_true, true_or, false_or, or_false, false_and, and_false, not_true_eq_false, not_false_eq_true] <;> first | omega | (simp only [Int32.lt_iff_toInt_lt, Int32.le_iff_toInt_le, Int32.reduceToInt, ← Int32.toInt_inj, true_and, and_true, or_true, true_or, false_or, or_false, false_and, and_false, not_true_eq_false, not_false_eq_true] <;> omega)), (by simp only [fe_145, mz_43, true_and, and_true, or_true, true_or, false_or, or_false, false_and, and_false, not_true_eq_false, not_false_eq_true] <;> first | omega | (simp only [Int32.lt_iff_toInt_lt, Int32.le_iff_toInt_le, Int32.reduceToInt, ← Int32.toInt_inj, true_and, and_true, or_true, true_or, false_or, or_false, false_and, and_false, not_true_eq_false, not_false_eq_true] <;> omega)), (by simp only [fe_146, fe_147, fe_148, fe_149, mz_41, mz_42, true_and, and_true, or_true, true_or, false_or, or_false, false_and, and_false, not_true_eq_false, not_false_eq_true] <;> first | omega | (simp only [Int32.lt_iff_toInt_lt, Int32.le_iff_toInt_le, Int32.reduceToInt, ← Int32.toInt_inj, true_and, and_true, or_true, true_or, false_or, or_false, false_and, and_false, not_true_eq_false, not_false_eq_true] <;> omega))⟩
set_option maxRecDepth 100000 in
set_option maxHeartbeats 8000000 in
theorem p_X12_told {l : Launch} {E : Ez} {L : List Nat} {f : Nat → va_E} {T : Nat → va_E → Prop} {a_0 : Nat} {a_1 : Nat} {a_2 : Int32} {a_3 : Int32} {q : Nat → Nat} (hW : WT T L f) (k_0 : isM T L E a_0 q) (ha_1 : a_1 < 77) : CI l yX12_told cX12_told 4 .int 7 0 0 E [.ref a_0, .ref (eK E a_1), .int a_2, .int a_3] L f (fun r L1 f1 => L = L1 ∧ WT T L f1 ∧ FR [12] f f1 ∧ (¬ fld (f1 a_0) 12 = 0 ∨ (fld (f a_0) 12 = 0 ∧ a_2.toInt ≤ r.toInt ∧ r.toInt ≤ a_3.toInt)) ∧ (¬ fld (f1 a_0) 12 = 0 ∨ (fld (f a_0) 8 ≤ fld (f1 a_0) 9 ∧ fld (f1 a_0) 9 ≤ fld (f1 a_0) 8)) ∧ (¬ fld (f1 a_0) 12 = 0 ∨ fld (f1 a_0) 10 = 0 ∨ fld (f1 a_0) 9 < fld (f1 a_0) 8) ∧ (fld (f1 a_0) 12 = 0 ∨ r.toInt = 0) ∧ fld (f1 a_0) 20 = fld (f a_0) 20 ∧ (¬ fld (f1 a_0) 12 = 0 ∨ (fld (f a_0) 12 = 0 ∧ a_2.toInt ≤ r.toInt ∧ r.toInt ≤ a_3.toInt ∧ fld (f a_0) 8 ≤ fld (f1 a_0) 9 ∧ fld (f1 a_0) 9 ≤ fld (f1 a_0) 8 ∧ (fld (f1 a_0) 10 = 0 ∨ fld (f1 a_0) 9 < fld (f1 a_0) 8)))) := by
  refine ci_of (by decide) (Nat.le_of_ble_eq_true rfl) (fun z hz hnm hC hR => ?_)
  have hC : Cx z E cX12_told RX12 4 7 0 0 := hC
  subst hz
  show V z E 4 0 0 L f 0 [(0, .ref a_0), (1, .ref (eK E a_1)), (2, .int a_2), (3, .int a_3)] []
  obtain ⟨m_1, t_2, nq_21, k_3, k_4, k_5, k_6, k_7, k_8, k_9, k_10, k_11, k_12, k_13, k_14, k_15, k_16, k_17, k_18, k_19, k_20⟩ := id k_0
  obtain ⟨v_23, v_24, v_26, v_28, v_30, v_32, v_34, v_35, v_36, v_37, v_39, e_22, b_25, b_27, b_29, b_31, b_33, b_38, b_40⟩ := hW.at m_1 t_2
  have mz_41 : fld (f a_0) 8 = v_28.toInt := by rw [e_22]; rfl
  have mz_42 : fld (f a_0) 12 = v_35.toInt := by rw [e_22]; rfl
  have mz_43 : fld (f a_0) 20 = v_39.toInt := by rw [e_22]; rfl
  refine v_aload_n hC dX12_told_0 rfl ?_
  refine v_aload_n hC dX12_told_1 rfl ?_
  refine v_vv hC (rest := []) m_1 e_22 rfl mi_X12_needs ms_X12_needs (p_X12_needs hW k_0 ha_1) mx_X12_needs ml_X12_166 (by decide) rfl (cells1 := 0) (slots1 := 0) (by decide) (by decide) (Nat.le_of_ble_eq_true rfl) (Nat.le_of_ble_eq_true rfl) rfl (Nat.le_of_ble_eq_true rfl) dX12_told_2 (fun L_45 f_46 h_47 => ?_)
  obtain ⟨rfl, hW_52, hF_53, x_48, x_49, x_50, x_51, -⟩ := h_47
  have fe_54 : fld (f a_0) 8 = (v_28 : Int32).toInt := by rw [e_22]; rfl
  have fe_55 : fld (f a_0) 9 = (v_30 : Int32).toInt := by rw [e_22]; rfl
  have fe_56 : fld (f a_0) 10 = (v_32 : Int32).toInt := by rw [e_22]; rfl
  have fe_57 : fld (f a_0) 12 = (v_35 : Int32).toInt := by rw [e_22]; rfl
  have fe_58 : fld (f a_0) 20 = (v_39 : Int32).toInt := by rw [e_22]; rfl
  have ib_59 := iw_b (f a_0) (f (q 4)) a_1
  rw [fe_57, fe_56, fe_54, fe_55] at ib_59
  obtain ⟨v_61, v_62, v_64, v_66, v_68, v_70, v_72, v_73, v_74, v_75, v_77, e_60, b_63, b_65, b_67, b_69, b_71, b_76, b_78⟩ := hW_52.at m_1 t_2
  have fe_79 : fld (f_46 a_0) 8 = (v_66 : Int32).toInt := by rw [e_60]; rfl
  have fe_80 : fld (f_46 a_0) 9 = (v_68 : Int32).toInt := by rw [e_60]; rfl
  have fe_81 : fld (f_46 a_0) 10 = (v_70 : Int32).toInt := by rw [e_60]; rfl
  have fe_82 : fld (f_46 a_0) 12 = (v_73 : Int32).toInt := by rw [e_60]; rfl
  have fe_83 : fld (f_46 a_0) 20 = (v_77 : Int32).toInt := by rw [e_60]; rfl
  rw [fe_82, fe_54, fe_80, fe_79] at x_48
  rw [fe_82, fe_81, fe_80, fe_79] at x_49
  rw [fe_82, fe_57] at x_50
  rw [fe_83, fe_58] at x_51
  clear fe_54 fe_55 fe_56 fe_57 fe_58 fe_79 fe_80 fe_81 fe_82 fe_83
  refine v_aload_n hC dX12_told_5 rfl ?_
  refine v_iload_n hC dX12_told_6 rfl ?_
  refine v_iload_n hC dX12_told_7 rfl ?_
  refine v_vi hC (rest := []) m_1 e_60 rfl mi_X12_number ms_X12_number (p_X12_number hW_52 k_0) mx_X12_number ml_X12_170 (by decide) rfl (cells1 := 0) (slots1 := 0) (by decide) (by decide) (Nat.le_of_ble_eq_true rfl) (Nat.le_of_ble_eq_true rfl) rfl (Nat.le_of_ble_eq_true rfl) dX12_told_8 (fun r_84 L_85 f_86 h_87 => ?_)
  obtain ⟨rfl, hW_93, hF_94, x_88, x_89, x_90, x_91, x_92, -⟩ := h_87
  have fe_95 : fld (f_46 a_0) 8 = (v_66 : Int32).toInt := by rw [e_60]; rfl
  have fe_96 : fld (f_46 a_0) 10 = (v_70 : Int32).toInt := by rw [e_60]; rfl
  have fe_97 : fld (f_46 a_0) 12 = (v_73 : Int32).toInt := by rw [e_60]; rfl
  have fe_98 : fld (f_46 a_0) 20 = (v_77 : Int32).toInt := by rw [e_60]; rfl
  obtain ⟨v_100, v_101, v_103, v_105, v_107, v_109, v_111, v_112, v_113, v_114, v_116, e_99, b_102, b_104, b_106, b_108, b_110, b_115, b_117⟩ := hW_93.at m_1 t_2
  have fe_118 : fld (f_86 a_0) 8 = (v_105 : Int32).toInt := by rw [e_99]; rfl
  have fe_119 : fld (f_86 a_0) 9 = (v_107 : Int32).toInt := by rw [e_99]; rfl
  have fe_120 : fld (f_86 a_0) 10 = (v_109 : Int32).toInt := by rw [e_99]; rfl
  have fe_121 : fld (f_86 a_0) 12 = (v_112 : Int32).toInt := by rw [e_99]; rfl
  have fe_122 : fld (f_86 a_0) 20 = (v_116 : Int32).toInt := by rw [e_99]; rfl
  rw [fe_121, fe_97] at x_88
  rw [fe_121, fe_96, fe_95, fe_119, fe_118] at x_89
  rw [fe_121, fe_120, fe_119, fe_118] at x_90
  rw [fe_121] at x_91
  rw [fe_122, fe_98] at x_92
  clear fe_95 fe_96 fe_97 fe_98 fe_118 fe_119 fe_120 fe_121 fe_122
  try simp only [Int32.reduceToInt, Int64.reduceToInt] at x_88
  try simp only [Int32.reduceToInt, Int64.reduceToInt] at x_89
  try simp only [Int32.reduceToInt, Int64.reduceToInt] at x_90
  try simp only [Int32.reduceToInt, Int64.reduceToInt] at x_91
  try simp only [Int32.reduceToInt, Int64.reduceToInt] at x_92
  have fe_123 : fld (f_86 a_0) 12 = (v_112 : Int32).toInt := by rw [e_99]; rfl
  have fe_124 : fld (f_86 a_0) 8 = (v_105 : Int32).toInt := by rw [e_99]; rfl
  have fe_125 : fld (f_86 a_0) 9 = (v_107 : Int32).toInt := by rw [e_99]; rfl
  have fe_126 : fld (f_86 a_0) 12 = (v_112 : Int32).toInt := by rw [e_99]; rfl
  have fe_127 : fld (f_86 a_0) 8 = (v_105 : Int32).toInt := by rw [e_99]; rfl
  have fe_128 : fld (f_86 a_0) 9 = (v_107 : Int32).toInt := by rw [e_99]; rfl
  have fe_129 : fld (f_86 a_0) 10 = (v_109 : Int32).toInt := by rw [e_99]; rfl
  have fe_130 : fld (f_86 a_0) 12 = (v_112 : Int32).toInt := by rw [e_99]; rfl
  have fe_131 : fld (f_86 a_0) 12 = (v_112 : Int32).toInt := by rw [e_99]; rfl
  have fe_132 : fld (f_86 a_0) 20 = (v_116 : Int32).toInt := by rw [e_99]; rfl
  have fe_133 : fld (f_86 a_0) 8 = (v_105 : Int32).toInt := by rw [e_99]; rfl
  have fe_134 : fld (f_86 a_0) 9 = (v_107 : Int32).toInt := by rw [e_99]; rfl
  have fe_135 : fld (f_86 a_0) 10 = (v_109 : Int32).toInt := by rw [e_99]; rfl
  have fe_136 : fld (f_86 a_0) 12 = (v_112 : Int32).toInt := by rw [e_99]; rfl
  exact hR _ _ _ _ _ _ _ dX12_told_11 rfl (Nat.le_of_ble_eq_true rfl) (Nat.le_of_ble_eq_true rfl) ⟨rfl, hW_93, ((hF_53.tr hF_94).mono rfl), (by simp only [fe_123, mz_42, true_and, and_true, or_true, true_or, false_or, or_false, false_and, and_false, not_true_eq_false, not_false_eq_true] <;> first | omega | (simp only [Int32.lt_iff_toInt_lt, Int32.le_iff_toInt_le, Int32.reduceToInt, ← Int32.toInt_inj, true_and, and_true, or_true, true_or, false_or, or_false, false_and, and_false, not_true_eq_false, not_false_eq_true] <;> omega)), (by simp only [fe_124, fe_125, fe_126, mz_41, true_and, and_true, or_true, true_or, false_or, or_false, false_and, and_false, not_true_eq_false, not_false_eq_true] <;> first | omega | (simp only [Int32.lt_iff_toInt_lt, Int32.le_iff_toInt_le, Int32.reduceToInt, ← Int32.toInt_inj, true_and, and_true, or_true, true_or, false_or, or_false, false_and, and_false, not_true_eq_false, not_false_eq_true] <;> omega)), (by simp only [fe_127, fe_128, fe_129, fe_130, true_and, and_true, or_true, true_or, false_or, or_false, false_and, and_false, not_true_eq_false, not_false_eq_true] <;> first | omega | (simp only [Int32.lt_iff_toInt_lt, Int32.le_iff_toInt_le, Int32.reduceToInt, ← Int32.toInt_inj, true_and, and_true, or_true, true_or, false_or, or_false, false_and, and_false, not_true_eq_false, not_false_eq_true] <;> omega)), (by simp only [fe_131, true_and, and_true, or_true, true_or, false_or, or_false, false_and, and_false, not_true_eq_false, not_false_eq_true] <;> first | omega | (simp only [Int32.lt_iff_toInt_lt, Int32.le_iff_toInt_le, Int32.reduceToInt, ← Int32.toInt_inj, true_and, and_true, or_true, true_or, false_or, or_false, false_and, and_false, not_true_eq_false, not_false_eq_true] <;> omega)), (by simp only [fe_132, mz_43, true_and, and_true, or_true, true_or, false_or, or_false, false_and, and_false, not_true_eq_false, not_false_eq_true] <;> first | omega | (simp only [Int32.lt_iff_toInt_lt, Int32.le_iff_toInt_le, Int32.reduceToInt, ← Int32.toInt_inj, true_and, and_true, or_true, true_or, false_or, or_false, false_and, and_false, not_true_eq_false, not_false_eq_true] <;> omega)), (by simp only [fe_133, fe_134, fe_135, fe_136, mz_41, mz_42, true_and, and_true, or_true, true_or, false_or, or_false, false_and, and_false, not_true_eq_false, not_false_eq_true] <;> first | omega | (simp only [Int32.lt_iff_toInt_lt, Int32.le_iff_toInt_le, Int32.reduceToInt, ← Int32.toInt_inj, true_and, and_true, or_true, true_or, false_or, or_false, false_and, and_false, not_true_eq_false, not_false_eq_true] <;> omega))⟩
set_option maxRecDepth 100000 in
set_option maxHeartbeats 8000000 in
theorem p_X12_readLoss {l : Launch} {E : Ez} {L : List Nat} {f : Nat → va_E} {T : Nat → va_E → Prop} {a_0 : Nat} {q : Nat → Nat} {g_f : Nat → Int32} (hW : WT T L f) (k_0 : isM T L E a_0 q) (e_f : f (q 14) = aI E 2076 g_f) (o_f : FOK g_f) (hLB : 0 ≤ (g_f 6).toInt ∧ (g_f 6).toInt ≤ 12) (hLO : LO g_f) : CV l yX12_readLoss cX12_readLoss 4 8 0 0 E [.ref a_0] L f (fun L1 f1 => L = L1 ∧ WT T L f1 ∧ FR [12, 2176] f f1 ∧ (∃ g9 : Nat → Int32, f1 (q 14) = aI E 2076 g9 ∧ FOK g9 ∧ (0 ≤ (g9 6).toInt ∧ (g9 6).toInt ≤ 12) ∧ (¬ fld (f1 a_0) 12 = 0 ∨ LO g9)) ∧ (¬ fld (f1 a_0) 12 = 0 ∨ (fld (f a_0) 12 = 0 ∧ fld (f a_0) 8 < fld (f1 a_0) 8))) := by
  refine cv_of (by decide) (Nat.le_of_ble_eq_true rfl) (fun z hz hnm hC hR => ?_)
  have hC : Cx z E cX12_readLoss RX12 4 8 0 0 := hC
  subst hz
  show V z E 4 0 0 L f 0 [(0, .ref a_0)] []
  obtain ⟨m_1, t_2, nq_21, k_3, k_4, k_5, k_6, k_7, k_8, k_9, k_10, k_11, k_12, k_13, k_14, k_15, k_16, k_17, k_18, k_19, k_20⟩ := id k_0
  obtain ⟨m_22, t_23⟩ := id k_8
  obtain ⟨v_25, v_26, v_27, v_28, v_29, v_30, v_31, v_32, v_33, v_34, v_35, e_24, -, -, -, -, -, -, -⟩ := hW.at m_1 t_2
  have mz_36 : fld (f a_0) 8 = v_28.toInt := by rw [e_24]; rfl
  have mz_37 : fld (f a_0) 12 = v_32.toInt := by rw [e_24]; rfl
  refine v_sipush hC dX12_readLoss_0 (v := 1012) (by decide) ?_
  refine v_iconst hC dX12_readLoss_3 (v := 3) (by decide) ?_
  refine v_aload_n hC dX12_readLoss_4 rfl ?_
  refine v_get hC fl_X12_34 m_1 e_24 rfl dX12_readLoss_5 ?_
  refine v_bipush hC dX12_readLoss_8 (v := 6) (by decide) ?_
  refine v_iald hC m_22 e_f (vp_in_iff.mpr (by decide)) (v := g_f 6) rfl dX12_readLoss_10 ?_
  obtain ⟨v_38, h_39⟩ : ∃ v9 : Int32, (3 : Int32) * (g_f 6) = v9 := ⟨_, rfl⟩
  refine v_imul hC dX12_readLoss_11 h_39 ?_
  have h_40 := mul_v 3 12 36 h_39 (by decide) (by first | omega | (simp only [Int32.lt_iff_toInt_lt, Int32.le_iff_toInt_le, Int32.reduceToInt, ← Int32.toInt_inj, true_and, and_true, or_true, true_or, false_or, or_false, false_and, and_false, not_true_eq_false, not_false_eq_true] <;> omega)) (by decide) (by decide)
  try simp only [Int32.reduceToInt] at h_40
  obtain ⟨v_41, h_42⟩ : ∃ v9 : Int32, (1012 : Int32) + v_38 = v9 := ⟨_, rfl⟩
  refine v_iadd hC dX12_readLoss_12 h_42 ?_
  have h_43 := add_v h_42 (by first | omega | (simp only [Int32.lt_iff_toInt_lt, Int32.le_iff_toInt_le, Int32.reduceToInt, ← Int32.toInt_inj, true_and, and_true, or_true, true_or, false_or, or_false, false_and, and_false, not_true_eq_false, not_false_eq_true] <;> omega)) (by first | omega | (simp only [Int32.lt_iff_toInt_lt, Int32.le_iff_toInt_le, Int32.reduceToInt, ← Int32.toInt_inj, true_and, and_true, or_true, true_or, false_or, or_false, false_and, and_false, not_true_eq_false, not_false_eq_true] <;> omega))
  try simp only [Int32.reduceToInt] at h_43
  refine v_istore_n hC dX12_readLoss_13 (by decide) (lv' := [(1, .int v_41), (0, .ref a_0)]) rfl ?_
  refine v_aload_n hC dX12_readLoss_14 rfl ?_
  refine v_ldcwS hC sr_X12_287 dX12_readLoss_15 ?_
  refine v_vi hC (rest := []) m_1 e_24 rfl mi_X12_is ms_X12_is (p_X12_is hW k_0 (by decide)) mx_X12_is ml_X12_152 (by decide) rfl (cells1 := 0) (slots1 := 0) (by decide) (by decide) (Nat.le_of_ble_eq_true rfl) (Nat.le_of_ble_eq_true rfl) rfl (Nat.le_of_ble_eq_true rfl) dX12_readLoss_18 (fun r_44 L_45 f_46 h_47 => ?_)
  obtain ⟨rfl, rfl, rfl⟩ := h_47
  have jn_65 : ∀ (v_66 : Int32) (b_67 : (0 ≤ v_66.toInt ∧ v_66.toInt ≤ 1)), V z E 4 0 0 L f 49 [(1, .int v_41), (0, .ref a_0)] [.int v_66] := by
    intro v_66 b_67
    refine v_istore_n hC dX12_readLoss_49 (by decide) (lv' := [(2, .int v_66), (1, .int v_41), (0, .ref a_0)]) rfl ?_
    refine v_iload_n hC dX12_readLoss_50 rfl ?_
    refine v_if_ne hC dX12_readLoss_51 (tgt := 59) (by decide) (fun h_68 => ?_) (fun h_68 => ?_)
    · simp only [Int32.lt_iff_toInt_lt, Int32.le_iff_toInt_le, Int32.reduceToInt, ← Int32.toInt_inj] at h_68
      have nb_69 : (1 ≤ v_66.toInt ∧ v_66.toInt ≤ 1) := by omega
      refine v_iload_n hC dX12_readLoss_59 rfl ?_
      refine v_if_eq_f hC dX12_readLoss_60 (tgt := 80) (by decide) (by first | omega | (simp only [Int32.lt_iff_toInt_lt, Int32.le_iff_toInt_le, Int32.reduceToInt, ← Int32.toInt_inj, true_and, and_true, or_true, true_or, false_or, or_false, false_and, and_false, not_true_eq_false, not_false_eq_true] <;> omega)) ?_
      refine v_aload_n hC dX12_readLoss_63 rfl ?_
      refine v_get hC fl_X12_34 m_1 e_24 rfl dX12_readLoss_64 ?_
      refine v_bipush hC dX12_readLoss_67 (v := 6) (by decide) ?_
      refine v_iald hC m_22 e_f (vp_in_iff.mpr (by decide)) (v := g_f 6) rfl dX12_readLoss_69 ?_
      refine v_bipush hC dX12_readLoss_70 (v := 12) (by decide) ?_
      refine v_icmp_ne hC dX12_readLoss_72 (tgt := 80) (by decide) (fun h_70 => ?_) (fun h_70 => ?_)
      · simp only [Int32.lt_iff_toInt_lt, Int32.le_iff_toInt_le, Int32.reduceToInt, ← Int32.toInt_inj] at h_70
        have nb_71 : (0 ≤ (g_f 6).toInt ∧ (g_f 6).toInt ≤ 11) := by omega
        refine v_aload_n hC dX12_readLoss_80 rfl ?_
        refine v_vi hC (rest := []) m_1 e_24 rfl mi_X12_good ms_X12_good (p_X12_good hW k_0) mx_X12_good ml_X12_139 (by decide) rfl (cells1 := 0) (slots1 := 0) (by decide) (by decide) (Nat.le_of_ble_eq_true rfl) (Nat.le_of_ble_eq_true rfl) rfl (Nat.le_of_ble_eq_true rfl) dX12_readLoss_81 (fun r_72 L_73 f_74 h_75 => ?_)
        obtain ⟨rfl, rfl, b_76, x_77⟩ := h_75
        have fe_80 : fld (f a_0) 12 = (v_32 : Int32).toInt := by rw [e_24]; rfl
        rw [fe_80] at x_77
        clear fe_80
        try simp only [Int32.reduceToInt, Int64.reduceToInt] at x_77
        refine v_if_ne hC dX12_readLoss_84 (tgt := 88) (by decide) (fun h_81 => ?_) (fun h_81 => ?_)
        · simp only [Int32.lt_iff_toInt_lt, Int32.le_iff_toInt_le, Int32.reduceToInt, ← Int32.toInt_inj] at h_81
          have nb_82 : (1 ≤ r_72.toInt ∧ r_72.toInt ≤ 1) := by omega
          have g0_83 := gd_t x_77 h_81
          clear x_77
          refine v_aload_n hC dX12_readLoss_88 rfl ?_
          refine v_ldcwS hC sr_X12_287 dX12_readLoss_89 ?_
          refine v_vi hC (rest := []) m_1 e_24 rfl mi_X12_takes ms_X12_takes (p_X12_takes hW k_0 (by decide)) mx_X12_takes ml_X12_159 (by decide) rfl (cells1 := 0) (slots1 := 0) (by decide) (by decide) (Nat.le_of_ble_eq_true rfl) (Nat.le_of_ble_eq_true rfl) rfl (Nat.le_of_ble_eq_true rfl) dX12_readLoss_92 (fun r_85 L_86 f_87 h_88 => ?_)
          obtain ⟨rfl, hW_92, hF_93, rfl, x_89, x_90, x_91, -⟩ := h_88
          have fe_94 : fld (f a_0) 8 = (v_28 : Int32).toInt := by rw [e_24]; rfl
          have fe_95 : fld (f a_0) 9 = (v_29 : Int32).toInt := by rw [e_24]; rfl
          have fe_96 : fld (f a_0) 10 = (v_30 : Int32).toInt := by rw [e_24]; rfl
          have fe_97 : fld (f a_0) 12 = (v_32 : Int32).toInt := by rw [e_24]; rfl
          have hf_98 := hF_93.at e_f rfl
          obtain ⟨v_100, v_101, v_102, v_103, v_104, v_105, v_106, v_107, v_108, v_109, v_110, e_99, -, -, -, -, -, -, -⟩ := hW_92.at m_1 t_2
          have fe_111 : fld (f_87 a_0) 8 = (v_103 : Int32).toInt := by rw [e_99]; rfl
          have fe_112 : fld (f_87 a_0) 9 = (v_104 : Int32).toInt := by rw [e_99]; rfl
          have fe_113 : fld (f_87 a_0) 10 = (v_105 : Int32).toInt := by rw [e_99]; rfl
          have fe_114 : fld (f_87 a_0) 12 = (v_107 : Int32).toInt := by rw [e_99]; rfl
          rw [fe_94, fe_112, fe_111, fe_113] at x_89
          rw [fe_111, fe_94, fe_112, fe_95, fe_113, fe_96] at x_90
          rw [fe_114, fe_97] at x_91
          clear fe_94 fe_95 fe_96 fe_97 fe_111 fe_112 fe_113 fe_114
          try simp only [Int32.reduceToInt, Int64.reduceToInt] at x_89
          try simp only [Int32.reduceToInt, Int64.reduceToInt] at x_90
          try simp only [Int32.reduceToInt, Int64.reduceToInt] at x_91
          refine v_if_eq hC dX12_readLoss_95 (tgt := 193) (by decide) (fun h_115 => ?_) (fun h_115 => ?_)
          · simp only [Int32.lt_iff_toInt_lt, Int32.le_iff_toInt_le, Int32.reduceToInt, ← Int32.toInt_inj] at h_115
            refine v_aload_n hC dX12_readLoss_193 rfl ?_
            refine v_ldcwS hC sr_X12_289 dX12_readLoss_194 ?_
            refine v_vi hC (rest := []) m_1 e_99 rfl mi_X12_takes ms_X12_takes (p_X12_takes hW_92 k_0 (by decide)) mx_X12_takes ml_X12_159 (by decide) rfl (cells1 := 0) (slots1 := 0) (by decide) (by decide) (Nat.le_of_ble_eq_true rfl) (Nat.le_of_ble_eq_true rfl) rfl (Nat.le_of_ble_eq_true rfl) dX12_readLoss_197 (fun r_116 L_117 f_118 h_119 => ?_)
            obtain ⟨rfl, hW_123, hF_124, rfl, x_120, x_121, x_122, -⟩ := h_119
            have fe_125 : fld (f_87 a_0) 8 = (v_103 : Int32).toInt := by rw [e_99]; rfl
            have fe_126 : fld (f_87 a_0) 9 = (v_104 : Int32).toInt := by rw [e_99]; rfl
            have fe_127 : fld (f_87 a_0) 10 = (v_105 : Int32).toInt := by rw [e_99]; rfl
            have fe_128 : fld (f_87 a_0) 12 = (v_107 : Int32).toInt := by rw [e_99]; rfl
            have hf_129 := hF_124.at hf_98 rfl
            obtain ⟨v_131, v_132, v_133, v_134, v_135, v_136, v_137, v_138, v_139, v_140, v_141, e_130, -, -, -, -, -, -, -⟩ := hW_123.at m_1 t_2
            have fe_142 : fld (f_118 a_0) 8 = (v_134 : Int32).toInt := by rw [e_130]; rfl
            have fe_143 : fld (f_118 a_0) 9 = (v_135 : Int32).toInt := by rw [e_130]; rfl
            have fe_144 : fld (f_118 a_0) 10 = (v_136 : Int32).toInt := by rw [e_130]; rfl
            have fe_145 : fld (f_118 a_0) 12 = (v_138 : Int32).toInt := by rw [e_130]; rfl
            rw [fe_125, fe_143, fe_142, fe_144] at x_120
            rw [fe_142, fe_125, fe_143, fe_126, fe_144, fe_127] at x_121
            rw [fe_145, fe_128] at x_122
            clear fe_125 fe_126 fe_127 fe_128 fe_142 fe_143 fe_144 fe_145
            try simp only [Int32.reduceToInt, Int64.reduceToInt] at x_120
            try simp only [Int32.reduceToInt, Int64.reduceToInt] at x_121
            try simp only [Int32.reduceToInt, Int64.reduceToInt] at x_122
            refine v_if_eq hC dX12_readLoss_200 (tgt := 247) (by decide) (fun h_146 => ?_) (fun h_146 => ?_)
            · simp only [Int32.lt_iff_toInt_lt, Int32.le_iff_toInt_le, Int32.reduceToInt, ← Int32.toInt_inj] at h_146
              refine v_aload_n hC dX12_readLoss_247 rfl ?_
              refine v_vv hC (rest := []) m_1 e_130 rfl mi_X12_advance ms_X12_advance (p_X12_advance hW_123 k_0) mx_X12_advance ml_X12_156 (by decide) rfl (cells1 := 0) (slots1 := 0) (by decide) (by decide) (Nat.le_of_ble_eq_true rfl) (Nat.le_of_ble_eq_true rfl) rfl (Nat.le_of_ble_eq_true rfl) dX12_readLoss_248 (fun L_148 f_149 h_150 => ?_)
              obtain ⟨rfl, hW_154, hF_155, x_151, x_152, x_153, -⟩ := h_150
              have fe_156 : fld (f_118 a_0) 8 = (v_134 : Int32).toInt := by rw [e_130]; rfl
              have fe_157 : fld (f_118 a_0) 12 = (v_138 : Int32).toInt := by rw [e_130]; rfl
              have hf_158 := hF_155.at hf_129 rfl
              obtain ⟨v_160, v_161, v_162, v_163, v_164, v_165, v_166, v_167, v_168, v_169, v_170, e_159, -, -, -, -, -, -, -⟩ := hW_154.at m_1 t_2
              have fe_171 : fld (f_149 a_0) 8 = (v_163 : Int32).toInt := by rw [e_159]; rfl
              have fe_172 : fld (f_149 a_0) 9 = (v_164 : Int32).toInt := by rw [e_159]; rfl
              have fe_173 : fld (f_149 a_0) 10 = (v_165 : Int32).toInt := by rw [e_159]; rfl
              have fe_174 : fld (f_149 a_0) 12 = (v_167 : Int32).toInt := by rw [e_159]; rfl
              rw [fe_156, fe_172, fe_171] at x_151
              rw [fe_173, fe_172, fe_171] at x_152
              rw [fe_174, fe_157] at x_153
              clear fe_156 fe_157 fe_171 fe_172 fe_173 fe_174
              refine v_aload_n hC dX12_readLoss_251 rfl ?_
              refine v_get hC fl_X12_34 m_1 e_159 rfl dX12_readLoss_252 ?_
              refine v_iload_n hC dX12_readLoss_255 rfl ?_
              refine v_iconst hC dX12_readLoss_256 (v := 3) (by decide) ?_
              refine v_iast hC m_22 hf_158 (vp_in_iff.mpr (by first | omega | (simp only [Int32.lt_iff_toInt_lt, Int32.le_iff_toInt_le, Int32.reduceToInt, ← Int32.toInt_inj, true_and, and_true, or_true, true_or, false_or, or_false, false_and, and_false, not_true_eq_false, not_false_eq_true] <;> omega))) dX12_readLoss_257 (fun f_175 hf_176 hk_177 => ?_)
              have hW_179 := hW_154.up hf_176 hk_177 t_23 ⟨_, rfl, (o_f.up (by first | omega | (simp only [Int32.lt_iff_toInt_lt, Int32.le_iff_toInt_le, Int32.reduceToInt, ← Int32.toInt_inj, true_and, and_true, or_true, true_or, false_or, or_false, false_and, and_false, not_true_eq_false, not_false_eq_true] <;> omega)) (fun q1 q2 => (by first | omega | (simp only [Int32.lt_iff_toInt_lt, Int32.le_iff_toInt_le, Int32.reduceToInt, ← Int32.toInt_inj] at *; omega))) (fun k9 q1 q2 q3 => (by first | omega | (simp only [Int32.lt_iff_toInt_lt, Int32.le_iff_toInt_le, Int32.reduceToInt, ← Int32.toInt_inj] at *; omega))))⟩
              obtain ⟨g_178, hf_176, ok_180, eg_181⟩ : ∃ g9, f_175 (q 14) = aI E 2076 g9 ∧ FOK g9 ∧ g9 = upd g_f (v_41 : Int32).toNatClampNeg 3 := ⟨_, hf_176, (o_f.up (by first | omega | (simp only [Int32.lt_iff_toInt_lt, Int32.le_iff_toInt_le, Int32.reduceToInt, ← Int32.toInt_inj, true_and, and_true, or_true, true_or, false_or, or_false, false_and, and_false, not_true_eq_false, not_false_eq_true] <;> omega)) (fun q1 q2 => (by first | omega | (simp only [Int32.lt_iff_toInt_lt, Int32.le_iff_toInt_le, Int32.reduceToInt, ← Int32.toInt_inj] at *; omega))) (fun k9 q1 q2 q3 => (by first | omega | (simp only [Int32.lt_iff_toInt_lt, Int32.le_iff_toInt_le, Int32.reduceToInt, ← Int32.toInt_inj] at *; omega)))), rfl⟩
              have hf_182 := (hk_177 a_0 (ne_kd e_159 hf_158 rfl)).trans e_159
              have fr_183 := FR.w hk_177 hf_158 (k := 2176) rfl
              have lk_184 := lk_at (g0 := g_f) eg_181 (by omega) (by omega)
              have ag_185 := (AG.rf o_f).st eg_181 (by omega) (by omega)
              try simp only [Int32.reduceToInt] at lk_184
              refine v_aload_n hC dX12_readLoss_258 rfl ?_
              refine v_vv hC (rest := []) m_1 hf_182 rfl mi_X12_ends ms_X12_ends (p_X12_ends hW_179 k_0) mx_X12_ends ml_X12_178 (by decide) rfl (cells1 := 0) (slots1 := 0) (by decide) (by decide) (Nat.le_of_ble_eq_true rfl) (Nat.le_of_ble_eq_true rfl) rfl (Nat.le_of_ble_eq_true rfl) dX12_readLoss_259 (fun L_187 f_188 h_189 => ?_)
              obtain ⟨rfl, hW_191, hF_192, -, -, -, -, x_190⟩ := h_189
              have fe_193 : fld (f_175 a_0) 8 = (v_163 : Int32).toInt := by rw [hf_182]; rfl
              have fe_194 : fld (f_175 a_0) 10 = (v_165 : Int32).toInt := by rw [hf_182]; rfl
              have fe_195 : fld (f_175 a_0) 12 = (v_167 : Int32).toInt := by rw [hf_182]; rfl
              have hf_196 := hF_192.at hf_176 rfl
              obtain ⟨v_198, v_199, v_200, v_201, v_202, v_203, v_204, v_205, v_206, v_207, v_208, e_197, -, -, -, -, -, -, -⟩ := hW_191.at m_1 t_2
              have fe_209 : fld (f_188 a_0) 8 = (v_201 : Int32).toInt := by rw [e_197]; rfl
              have fe_210 : fld (f_188 a_0) 9 = (v_202 : Int32).toInt := by rw [e_197]; rfl
              have fe_211 : fld (f_188 a_0) 10 = (v_203 : Int32).toInt := by rw [e_197]; rfl
              have fe_212 : fld (f_188 a_0) 12 = (v_205 : Int32).toInt := by rw [e_197]; rfl
              rw [fe_212, fe_195, fe_194, fe_193, fe_210, fe_209, fe_211] at x_190
              clear fe_193 fe_194 fe_195 fe_209 fe_210 fe_211 fe_212
              refine v_aload_n hC dX12_readLoss_262 rfl ?_
              refine v_get hC fl_X12_34 m_1 e_197 rfl dX12_readLoss_263 ?_
              refine v_bipush hC dX12_readLoss_266 (v := 6) (by decide) ?_
              refine v_dup2 hC dX12_readLoss_268 rfl rfl ?_
              have l6_213 : (g_178 6).toInt = (g_f 6).toInt := congrArg Int32.toInt ag_185.2.1
              refine v_iald hC m_22 hf_196 (vp_in_iff.mpr (by decide)) (v := g_178 6) rfl dX12_readLoss_269 ?_
              refine v_iconst hC dX12_readLoss_270 (v := 1) (by decide) ?_
              obtain ⟨v_214, h_215⟩ : ∃ v9 : Int32, (g_178 6) + 1 = v9 := ⟨_, rfl⟩
              refine v_iadd hC dX12_readLoss_271 h_215 ?_
              have h_216 := add_v h_215 (by first | omega | (simp only [Int32.lt_iff_toInt_lt, Int32.le_iff_toInt_le, Int32.reduceToInt, ← Int32.toInt_inj, true_and, and_true, or_true, true_or, false_or, or_false, false_and, and_false, not_true_eq_false, not_false_eq_true] <;> omega)) (by first | omega | (simp only [Int32.lt_iff_toInt_lt, Int32.le_iff_toInt_le, Int32.reduceToInt, ← Int32.toInt_inj, true_and, and_true, or_true, true_or, false_or, or_false, false_and, and_false, not_true_eq_false, not_false_eq_true] <;> omega))
              try simp only [Int32.reduceToInt] at h_216
              refine v_iast hC m_22 hf_196 (vp_in_iff.mpr (by decide)) dX12_readLoss_272 (fun f_217 hf_218 hk_219 => ?_)
              have hW_221 := hW_191.up hf_218 hk_219 t_23 ⟨_, rfl, (ok_180.up (i := 6) (by decide) (fun q1 q2 => absurd (And.intro q1 q2) (by decide)) (fun k9 q1 q2 q3 => by simp only [Int32.reduceToInt] at q3; omega))⟩
              obtain ⟨g_220, hf_218, ok_222, eg_223⟩ : ∃ g9, f_217 (q 14) = aI E 2076 g9 ∧ FOK g9 ∧ g9 = upd g_178 (6 : Int32).toNatClampNeg v_214 := ⟨_, hf_218, (ok_180.up (i := 6) (by decide) (fun q1 q2 => absurd (And.intro q1 q2) (by decide)) (fun k9 q1 q2 q3 => by simp only [Int32.reduceToInt] at q3; omega)), rfl⟩
              have hf_224 := (hk_219 a_0 (ne_kd e_197 hf_196 rfl)).trans e_197
              have fr_225 := FR.w hk_219 hf_196 (k := 2176) rfl
              have ln6_226 := FOK.n6 ag_185.1 eg_223
              have ln6_226_t : (g_220 6).toInt = v_214.toInt := congrArg Int32.toInt ln6_226.2
              have fe_227 : fld (f_217 a_0) 12 = (v_205 : Int32).toInt := by rw [hf_224]; rfl
              have fe_232 : fld (f_217 a_0) 8 = (v_201 : Int32).toInt := by rw [hf_224]; rfl
              have fe_233 : fld (f_217 a_0) 12 = (v_205 : Int32).toInt := by rw [hf_224]; rfl
              exact hR _ _ _ _ _ _ dX12_readLoss_273 (Nat.le_of_ble_eq_true rfl) (Nat.le_of_ble_eq_true rfl) ⟨rfl, hW_221, ((((((hF_93.tr hF_124).tr hF_155).tr fr_183).tr hF_192).tr fr_225).mono rfl), ⟨_, hf_218, ln6_226.1, (by omega), (by rw [fe_227]; by_cases q9 : v_205.toInt = 0; have gp_228 := x_190.resolve_left (fun h9 => h9 q9); clear x_190; have gz_229 := x_153.symm.trans gp_228.1; have gz_230 := x_122.symm.trans gz_229; have gz_231 := x_91.symm.trans gz_230; exact .inr (LO.fin hLO ag_185 eg_223 (by omega) (by omega) (fun q8 => by omega)); exact .inl q9)⟩, (by simp only [fe_232, fe_233, mz_36, mz_37]; by_cases q9 : (v_205 : Int32).toInt = 0; have gp_234 := x_190.resolve_left (fun h9 => h9 q9); clear x_190; have gz_235 := x_153.symm.trans gp_234.1; have gz_236 := x_122.symm.trans gz_235; have gz_237 := x_91.symm.trans gz_236; (right; omega); exact .inl q9)⟩
            · simp only [Int32.lt_iff_toInt_lt, Int32.le_iff_toInt_le, Int32.reduceToInt, ← Int32.toInt_inj] at h_146
              refine v_aload_n hC dX12_readLoss_203 rfl ?_
              refine v_get hC fl_X12_34 m_1 e_130 rfl dX12_readLoss_204 ?_
              refine v_iload_n hC dX12_readLoss_207 rfl ?_
              refine v_iconst hC dX12_readLoss_208 (v := 2) (by decide) ?_
              refine v_iast hC m_22 hf_129 (vp_in_iff.mpr (by first | omega | (simp only [Int32.lt_iff_toInt_lt, Int32.le_iff_toInt_le, Int32.reduceToInt, ← Int32.toInt_inj, true_and, and_true, or_true, true_or, false_or, or_false, false_and, and_false, not_true_eq_false, not_false_eq_true] <;> omega))) dX12_readLoss_209 (fun f_238 hf_239 hk_240 => ?_)
              have hW_242 := hW_123.up hf_239 hk_240 t_23 ⟨_, rfl, (o_f.up (by first | omega | (simp only [Int32.lt_iff_toInt_lt, Int32.le_iff_toInt_le, Int32.reduceToInt, ← Int32.toInt_inj, true_and, and_true, or_true, true_or, false_or, or_false, false_and, and_false, not_true_eq_false, not_false_eq_true] <;> omega)) (fun q1 q2 => (by first | omega | (simp only [Int32.lt_iff_toInt_lt, Int32.le_iff_toInt_le, Int32.reduceToInt, ← Int32.toInt_inj] at *; omega))) (fun k9 q1 q2 q3 => (by first | omega | (simp only [Int32.lt_iff_toInt_lt, Int32.le_iff_toInt_le, Int32.reduceToInt, ← Int32.toInt_inj] at *; omega))))⟩
              obtain ⟨g_241, hf_239, ok_243, eg_244⟩ : ∃ g9, f_238 (q 14) = aI E 2076 g9 ∧ FOK g9 ∧ g9 = upd g_f (v_41 : Int32).toNatClampNeg 2 := ⟨_, hf_239, (o_f.up (by first | omega | (simp only [Int32.lt_iff_toInt_lt, Int32.le_iff_toInt_le, Int32.reduceToInt, ← Int32.toInt_inj, true_and, and_true, or_true, true_or, false_or, or_false, false_and, and_false, not_true_eq_false, not_false_eq_true] <;> omega)) (fun q1 q2 => (by first | omega | (simp only [Int32.lt_iff_toInt_lt, Int32.le_iff_toInt_le, Int32.reduceToInt, ← Int32.toInt_inj] at *; omega))) (fun k9 q1 q2 q3 => (by first | omega | (simp only [Int32.lt_iff_toInt_lt, Int32.le_iff_toInt_le, Int32.reduceToInt, ← Int32.toInt_inj] at *; omega)))), rfl⟩
              have hf_245 := (hk_240 a_0 (ne_kd e_130 hf_129 rfl)).trans e_130
              have fr_246 := FR.w hk_240 hf_129 (k := 2176) rfl
              have lk_247 := lk_at (g0 := g_f) eg_244 (by omega) (by omega)
              have ag_248 := (AG.rf o_f).st eg_244 (by omega) (by omega)
              try simp only [Int32.reduceToInt] at lk_247
              refine v_aload_n hC dX12_readLoss_210 rfl ?_
              refine v_get hC fl_X12_34 m_1 hf_245 rfl dX12_readLoss_211 ?_
              refine v_iload_n hC dX12_readLoss_214 rfl ?_
              refine v_iconst hC dX12_readLoss_215 (v := 1) (by decide) ?_
              obtain ⟨v_249, h_250⟩ : ∃ v9 : Int32, v_41 + 1 = v9 := ⟨_, rfl⟩
              refine v_iadd hC dX12_readLoss_216 h_250 ?_
              have h_251 := add_v h_250 (by first | omega | (simp only [Int32.lt_iff_toInt_lt, Int32.le_iff_toInt_le, Int32.reduceToInt, ← Int32.toInt_inj, true_and, and_true, or_true, true_or, false_or, or_false, false_and, and_false, not_true_eq_false, not_false_eq_true] <;> omega)) (by first | omega | (simp only [Int32.lt_iff_toInt_lt, Int32.le_iff_toInt_le, Int32.reduceToInt, ← Int32.toInt_inj, true_and, and_true, or_true, true_or, false_or, or_false, false_and, and_false, not_true_eq_false, not_false_eq_true] <;> omega))
              try simp only [Int32.reduceToInt] at h_251
              refine v_aload_n hC dX12_readLoss_217 rfl ?_
              refine v_iconst hC dX12_readLoss_218 (v := 1) (by decide) ?_
              refine v_bipush hC dX12_readLoss_219 (v := 99) (by decide) ?_
              refine v_vi hC (rest := [.int v_249, .ref (q 14)]) m_1 hf_245 rfl mi_X12_number ms_X12_number (p_X12_number hW_242 k_0) mx_X12_number ml_X12_170 (by decide) rfl (cells1 := 0) (slots1 := 0) (by decide) (by decide) (Nat.le_of_ble_eq_true rfl) (Nat.le_of_ble_eq_true rfl) rfl (Nat.le_of_ble_eq_true rfl) dX12_readLoss_221 (fun r_252 L_253 f_254 h_255 => ?_)
              obtain ⟨rfl, hW_257, hF_258, -, -, -, -, -, x_256⟩ := h_255
              have fe_259 : fld (f_238 a_0) 8 = (v_134 : Int32).toInt := by rw [hf_245]; rfl
              have fe_260 : fld (f_238 a_0) 10 = (v_136 : Int32).toInt := by rw [hf_245]; rfl
              have fe_261 : fld (f_238 a_0) 12 = (v_138 : Int32).toInt := by rw [hf_245]; rfl
              have hf_262 := hF_258.at hf_239 rfl
              obtain ⟨v_264, v_265, v_266, v_267, v_268, v_269, v_270, v_271, v_272, v_273, v_274, e_263, -, -, -, -, -, -, -⟩ := hW_257.at m_1 t_2
              have fe_275 : fld (f_254 a_0) 8 = (v_267 : Int32).toInt := by rw [e_263]; rfl
              have fe_276 : fld (f_254 a_0) 9 = (v_268 : Int32).toInt := by rw [e_263]; rfl
              have fe_277 : fld (f_254 a_0) 10 = (v_269 : Int32).toInt := by rw [e_263]; rfl
              have fe_278 : fld (f_254 a_0) 12 = (v_271 : Int32).toInt := by rw [e_263]; rfl
              rw [fe_278, fe_261, fe_260, fe_259, fe_276, fe_275, fe_277] at x_256
              clear fe_259 fe_260 fe_261 fe_275 fe_276 fe_277 fe_278
              try simp only [Int32.reduceToInt, Int64.reduceToInt] at x_256
              refine v_iast hC m_22 hf_262 (vp_in_iff.mpr (by first | omega | (simp only [Int32.lt_iff_toInt_lt, Int32.le_iff_toInt_le, Int32.reduceToInt, ← Int32.toInt_inj, true_and, and_true, or_true, true_or, false_or, or_false, false_and, and_false, not_true_eq_false, not_false_eq_true] <;> omega))) dX12_readLoss_224 (fun f_279 hf_280 hk_281 => ?_)
              have hW_283 := hW_257.up hf_280 hk_281 t_23 ⟨_, rfl, (ok_243.up (by first | omega | (simp only [Int32.lt_iff_toInt_lt, Int32.le_iff_toInt_le, Int32.reduceToInt, ← Int32.toInt_inj, true_and, and_true, or_true, true_or, false_or, or_false, false_and, and_false, not_true_eq_false, not_false_eq_true] <;> omega)) (fun q1 q2 => (by first | omega | (simp only [Int32.lt_iff_toInt_lt, Int32.le_iff_toInt_le, Int32.reduceToInt, ← Int32.toInt_inj] at *; omega))) (fun k9 q1 q2 q3 => (by first | omega | (simp only [Int32.lt_iff_toInt_lt, Int32.le_iff_toInt_le, Int32.reduceToInt, ← Int32.toInt_inj] at *; omega))))⟩
              obtain ⟨g_282, hf_280, ok_284, eg_285⟩ : ∃ g9, f_279 (q 14) = aI E 2076 g9 ∧ FOK g9 ∧ g9 = upd g_241 (v_249 : Int32).toNatClampNeg r_252 := ⟨_, hf_280, (ok_243.up (by first | omega | (simp only [Int32.lt_iff_toInt_lt, Int32.le_iff_toInt_le, Int32.reduceToInt, ← Int32.toInt_inj, true_and, and_true, or_true, true_or, false_or, or_false, false_and, and_false, not_true_eq_false, not_false_eq_true] <;> omega)) (fun q1 q2 => (by first | omega | (simp only [Int32.lt_iff_toInt_lt, Int32.le_iff_toInt_le, Int32.reduceToInt, ← Int32.toInt_inj] at *; omega))) (fun k9 q1 q2 q3 => (by first | omega | (simp only [Int32.lt_iff_toInt_lt, Int32.le_iff_toInt_le, Int32.reduceToInt, ← Int32.toInt_inj] at *; omega)))), rfl⟩
              have hf_286 := (hk_281 a_0 (ne_kd e_263 hf_262 rfl)).trans e_263
              have fr_287 := FR.w hk_281 hf_262 (k := 2176) rfl
              have lk_288 := lf_at (g0 := g_f) eg_285 (by omega) (by omega)
              have ag_289 := ag_248.st eg_285 (by omega) (by omega)
              try simp only [Int32.reduceToInt] at lk_288
              refine v_aload_n hC dX12_readLoss_225 rfl ?_
              refine v_get hC fl_X12_34 m_1 hf_286 rfl dX12_readLoss_226 ?_
              refine v_iload_n hC dX12_readLoss_229 rfl ?_
              refine v_iconst hC dX12_readLoss_230 (v := 2) (by decide) ?_
              obtain ⟨v_290, h_291⟩ : ∃ v9 : Int32, v_41 + 2 = v9 := ⟨_, rfl⟩
              refine v_iadd hC dX12_readLoss_231 h_291 ?_
              have h_292 := add_v h_291 (by first | omega | (simp only [Int32.lt_iff_toInt_lt, Int32.le_iff_toInt_le, Int32.reduceToInt, ← Int32.toInt_inj, true_and, and_true, or_true, true_or, false_or, or_false, false_and, and_false, not_true_eq_false, not_false_eq_true] <;> omega)) (by first | omega | (simp only [Int32.lt_iff_toInt_lt, Int32.le_iff_toInt_le, Int32.reduceToInt, ← Int32.toInt_inj, true_and, and_true, or_true, true_or, false_or, or_false, false_and, and_false, not_true_eq_false, not_false_eq_true] <;> omega))
              try simp only [Int32.reduceToInt] at h_292
              refine v_aload_n hC dX12_readLoss_232 rfl ?_
              refine v_ldcwS hC sr_X12_297 dX12_readLoss_233 ?_
              refine v_iconst hC dX12_readLoss_236 (v := 0) (by decide) ?_
              refine v_sipush hC dX12_readLoss_237 (v := 255) (by decide) ?_
              refine v_vi hC (rest := [.int v_290, .ref (q 14)]) m_1 hf_286 rfl mi_X12_told ms_X12_told (p_X12_told hW_283 k_0 (by decide)) mx_X12_told ml_X12_189 (by decide) rfl (cells1 := 0) (slots1 := 0) (by decide) (by decide) (Nat.le_of_ble_eq_true rfl) (Nat.le_of_ble_eq_true rfl) rfl (Nat.le_of_ble_eq_true rfl) dX12_readLoss_240 (fun r_293 L_294 f_295 h_296 => ?_)
              obtain ⟨rfl, hW_298, hF_299, -, -, -, -, -, x_297⟩ := h_296
              have fe_300 : fld (f_279 a_0) 8 = (v_267 : Int32).toInt := by rw [hf_286]; rfl
              have fe_301 : fld (f_279 a_0) 12 = (v_271 : Int32).toInt := by rw [hf_286]; rfl
              have hf_302 := hF_299.at hf_280 rfl
              obtain ⟨v_304, v_305, v_306, v_307, v_308, v_309, v_310, v_311, v_312, v_313, v_314, e_303, -, -, -, -, -, -, -⟩ := hW_298.at m_1 t_2
              have fe_315 : fld (f_295 a_0) 8 = (v_307 : Int32).toInt := by rw [e_303]; rfl
              have fe_316 : fld (f_295 a_0) 9 = (v_308 : Int32).toInt := by rw [e_303]; rfl
              have fe_317 : fld (f_295 a_0) 10 = (v_309 : Int32).toInt := by rw [e_303]; rfl
              have fe_318 : fld (f_295 a_0) 12 = (v_311 : Int32).toInt := by rw [e_303]; rfl
              rw [fe_318, fe_301, fe_300, fe_316, fe_315, fe_317] at x_297
              clear fe_300 fe_301 fe_315 fe_316 fe_317 fe_318
              try simp only [Int32.reduceToInt, Int64.reduceToInt] at x_297
              refine v_iast hC m_22 hf_302 (vp_in_iff.mpr (by first | omega | (simp only [Int32.lt_iff_toInt_lt, Int32.le_iff_toInt_le, Int32.reduceToInt, ← Int32.toInt_inj, true_and, and_true, or_true, true_or, false_or, or_false, false_and, and_false, not_true_eq_false, not_false_eq_true] <;> omega))) dX12_readLoss_243 (fun f_319 hf_320 hk_321 => ?_)
              have hW_323 := hW_298.up hf_320 hk_321 t_23 ⟨_, rfl, (ok_284.up (by first | omega | (simp only [Int32.lt_iff_toInt_lt, Int32.le_iff_toInt_le, Int32.reduceToInt, ← Int32.toInt_inj, true_and, and_true, or_true, true_or, false_or, or_false, false_and, and_false, not_true_eq_false, not_false_eq_true] <;> omega)) (fun q1 q2 => (by first | omega | (simp only [Int32.lt_iff_toInt_lt, Int32.le_iff_toInt_le, Int32.reduceToInt, ← Int32.toInt_inj] at *; omega))) (fun k9 q1 q2 q3 => (by first | omega | (simp only [Int32.lt_iff_toInt_lt, Int32.le_iff_toInt_le, Int32.reduceToInt, ← Int32.toInt_inj] at *; omega))))⟩
              obtain ⟨g_322, hf_320, ok_324, eg_325⟩ : ∃ g9, f_319 (q 14) = aI E 2076 g9 ∧ FOK g9 ∧ g9 = upd g_282 (v_290 : Int32).toNatClampNeg r_293 := ⟨_, hf_320, (ok_284.up (by first | omega | (simp only [Int32.lt_iff_toInt_lt, Int32.le_iff_toInt_le, Int32.reduceToInt, ← Int32.toInt_inj, true_and, and_true, or_true, true_or, false_or, or_false, false_and, and_false, not_true_eq_false, not_false_eq_true] <;> omega)) (fun q1 q2 => (by first | omega | (simp only [Int32.lt_iff_toInt_lt, Int32.le_iff_toInt_le, Int32.reduceToInt, ← Int32.toInt_inj] at *; omega))) (fun k9 q1 q2 q3 => (by first | omega | (simp only [Int32.lt_iff_toInt_lt, Int32.le_iff_toInt_le, Int32.reduceToInt, ← Int32.toInt_inj] at *; omega)))), rfl⟩
              have hf_326 := (hk_321 a_0 (ne_kd e_303 hf_302 rfl)).trans e_303
              have fr_327 := FR.w hk_321 hf_302 (k := 2176) rfl
              have lk_328 := l2_at (g0 := g_f) eg_325 (by omega) (by omega)
              have ag_329 := ag_289.st eg_325 (by omega) (by omega)
              try simp only [Int32.reduceToInt] at lk_328
              refine v_goto hC dX12_readLoss_244 (tgt := 258) (by decide) ?_
              refine v_aload_n hC dX12_readLoss_258 rfl ?_
              refine v_vv hC (rest := []) m_1 hf_326 rfl mi_X12_ends ms_X12_ends (p_X12_ends hW_323 k_0) mx_X12_ends ml_X12_178 (by decide) rfl (cells1 := 0) (slots1 := 0) (by decide) (by decide) (Nat.le_of_ble_eq_true rfl) (Nat.le_of_ble_eq_true rfl) rfl (Nat.le_of_ble_eq_true rfl) dX12_readLoss_259 (fun L_331 f_332 h_333 => ?_)
              obtain ⟨rfl, hW_335, hF_336, -, -, -, -, x_334⟩ := h_333
              have fe_337 : fld (f_319 a_0) 8 = (v_307 : Int32).toInt := by rw [hf_326]; rfl
              have fe_338 : fld (f_319 a_0) 10 = (v_309 : Int32).toInt := by rw [hf_326]; rfl
              have fe_339 : fld (f_319 a_0) 12 = (v_311 : Int32).toInt := by rw [hf_326]; rfl
              have hf_340 := hF_336.at hf_320 rfl
              obtain ⟨v_342, v_343, v_344, v_345, v_346, v_347, v_348, v_349, v_350, v_351, v_352, e_341, -, -, -, -, -, -, -⟩ := hW_335.at m_1 t_2
              have fe_353 : fld (f_332 a_0) 8 = (v_345 : Int32).toInt := by rw [e_341]; rfl
              have fe_354 : fld (f_332 a_0) 9 = (v_346 : Int32).toInt := by rw [e_341]; rfl
              have fe_355 : fld (f_332 a_0) 10 = (v_347 : Int32).toInt := by rw [e_341]; rfl
              have fe_356 : fld (f_332 a_0) 12 = (v_349 : Int32).toInt := by rw [e_341]; rfl
              rw [fe_356, fe_339, fe_338, fe_337, fe_354, fe_353, fe_355] at x_334
              clear fe_337 fe_338 fe_339 fe_353 fe_354 fe_355 fe_356
              refine v_aload_n hC dX12_readLoss_262 rfl ?_
              refine v_get hC fl_X12_34 m_1 e_341 rfl dX12_readLoss_263 ?_
              refine v_bipush hC dX12_readLoss_266 (v := 6) (by decide) ?_
              refine v_dup2 hC dX12_readLoss_268 rfl rfl ?_
              have l6_357 : (g_322 6).toInt = (g_f 6).toInt := congrArg Int32.toInt ag_329.2.1
              refine v_iald hC m_22 hf_340 (vp_in_iff.mpr (by decide)) (v := g_322 6) rfl dX12_readLoss_269 ?_
              refine v_iconst hC dX12_readLoss_270 (v := 1) (by decide) ?_
              obtain ⟨v_358, h_359⟩ : ∃ v9 : Int32, (g_322 6) + 1 = v9 := ⟨_, rfl⟩
              refine v_iadd hC dX12_readLoss_271 h_359 ?_
              have h_360 := add_v h_359 (by first | omega | (simp only [Int32.lt_iff_toInt_lt, Int32.le_iff_toInt_le, Int32.reduceToInt, ← Int32.toInt_inj, true_and, and_true, or_true, true_or, false_or, or_false, false_and, and_false, not_true_eq_false, not_false_eq_true] <;> omega)) (by first | omega | (simp only [Int32.lt_iff_toInt_lt, Int32.le_iff_toInt_le, Int32.reduceToInt, ← Int32.toInt_inj, true_and, and_true, or_true, true_or, false_or, or_false, false_and, and_false, not_true_eq_false, not_false_eq_true] <;> omega))
              try simp only [Int32.reduceToInt] at h_360
              refine v_iast hC m_22 hf_340 (vp_in_iff.mpr (by decide)) dX12_readLoss_272 (fun f_361 hf_362 hk_363 => ?_)
              have hW_365 := hW_335.up hf_362 hk_363 t_23 ⟨_, rfl, (ok_324.up (i := 6) (by decide) (fun q1 q2 => absurd (And.intro q1 q2) (by decide)) (fun k9 q1 q2 q3 => by simp only [Int32.reduceToInt] at q3; omega))⟩
              obtain ⟨g_364, hf_362, ok_366, eg_367⟩ : ∃ g9, f_361 (q 14) = aI E 2076 g9 ∧ FOK g9 ∧ g9 = upd g_322 (6 : Int32).toNatClampNeg v_358 := ⟨_, hf_362, (ok_324.up (i := 6) (by decide) (fun q1 q2 => absurd (And.intro q1 q2) (by decide)) (fun k9 q1 q2 q3 => by simp only [Int32.reduceToInt] at q3; omega)), rfl⟩
              have hf_368 := (hk_363 a_0 (ne_kd e_341 hf_340 rfl)).trans e_341
              have fr_369 := FR.w hk_363 hf_340 (k := 2176) rfl
              have ln6_370 := FOK.n6 ag_329.1 eg_367
              have ln6_370_t : (g_364 6).toInt = v_358.toInt := congrArg Int32.toInt ln6_370.2
              have fe_371 : fld (f_361 a_0) 12 = (v_349 : Int32).toInt := by rw [hf_368]; rfl
              have fe_377 : fld (f_361 a_0) 8 = (v_345 : Int32).toInt := by rw [hf_368]; rfl
              have fe_378 : fld (f_361 a_0) 12 = (v_349 : Int32).toInt := by rw [hf_368]; rfl
              exact hR _ _ _ _ _ _ dX12_readLoss_273 (Nat.le_of_ble_eq_true rfl) (Nat.le_of_ble_eq_true rfl) ⟨rfl, hW_365, (((((((((hF_93.tr hF_124).tr fr_246).tr hF_258).tr fr_287).tr hF_299).tr fr_327).tr hF_336).tr fr_369).mono rfl), ⟨_, hf_362, ln6_370.1, (by omega), (by rw [fe_371]; by_cases q9 : v_349.toInt = 0; have gp_372 := x_334.resolve_left (fun h9 => h9 q9); clear x_334; have gp_373 := x_297.resolve_left (fun h9 => h9 gp_372.1); clear x_297; have gp_374 := x_256.resolve_left (fun h9 => h9 gp_373.1); clear x_256; have gz_375 := x_122.symm.trans gp_374.1; have gz_376 := x_91.symm.trans gz_375; exact .inr (LO.fin hLO ag_329 eg_367 (by omega) (by omega) (fun q8 => by omega)); exact .inl q9)⟩, (by simp only [fe_377, fe_378, mz_36, mz_37]; by_cases q9 : (v_349 : Int32).toInt = 0; have gp_379 := x_334.resolve_left (fun h9 => h9 q9); clear x_334; have gp_380 := x_297.resolve_left (fun h9 => h9 gp_379.1); clear x_297; have gp_381 := x_256.resolve_left (fun h9 => h9 gp_380.1); clear x_256; have gz_382 := x_122.symm.trans gp_381.1; have gz_383 := x_91.symm.trans gz_382; (right; omega); exact .inl q9)⟩
          · simp only [Int32.lt_iff_toInt_lt, Int32.le_iff_toInt_le, Int32.reduceToInt, ← Int32.toInt_inj] at h_115
            refine v_aload_n hC dX12_readLoss_98 rfl ?_
            refine v_ldcwS hC sr_X12_293 dX12_readLoss_99 ?_
            refine v_vi hC (rest := []) m_1 e_99 rfl mi_X12_is ms_X12_is (p_X12_is hW_92 k_0 (by decide)) mx_X12_is ml_X12_152 (by decide) rfl (cells1 := 0) (slots1 := 0) (by decide) (by decide) (Nat.le_of_ble_eq_true rfl) (Nat.le_of_ble_eq_true rfl) rfl (Nat.le_of_ble_eq_true rfl) dX12_readLoss_102 (fun r_384 L_385 f_386 h_387 => ?_)
            obtain ⟨rfl, rfl, rfl⟩ := h_387
            refine v_istore_n hC dX12_readLoss_105 (by decide) (lv' := [(3, .int (iw (f_87 a_0) (f_87 (q 4)) 74)), (2, .int v_66), (1, .int v_41), (0, .ref a_0)]) rfl ?_
            refine v_iload_n hC dX12_readLoss_106 rfl ?_
            refine v_if_ne hC dX12_readLoss_107 (tgt := 124) (by decide) (fun h_390 => ?_) (fun h_390 => ?_)
            · simp only [Int32.lt_iff_toInt_lt, Int32.le_iff_toInt_le, Int32.reduceToInt, ← Int32.toInt_inj] at h_390
              refine v_aload_n hC dX12_readLoss_124 rfl ?_
              refine v_vi hC (rest := []) m_1 e_99 rfl mi_X12_good ms_X12_good (p_X12_good hW_92 k_0) mx_X12_good ml_X12_139 (by decide) rfl (cells1 := 0) (slots1 := 0) (by decide) (by decide) (Nat.le_of_ble_eq_true rfl) (Nat.le_of_ble_eq_true rfl) rfl (Nat.le_of_ble_eq_true rfl) dX12_readLoss_125 (fun r_391 L_392 f_393 h_394 => ?_)
              obtain ⟨rfl, rfl, b_395, x_396⟩ := h_394
              have fe_399 : fld (f_87 a_0) 12 = (v_107 : Int32).toInt := by rw [e_99]; rfl
              rw [fe_399] at x_396
              clear fe_399
              try simp only [Int32.reduceToInt, Int64.reduceToInt] at x_396
              refine v_if_eq hC dX12_readLoss_128 (tgt := 135) (by decide) (fun h_400 => ?_) (fun h_400 => ?_)
              · simp only [Int32.lt_iff_toInt_lt, Int32.le_iff_toInt_le, Int32.reduceToInt, ← Int32.toInt_inj] at h_400
                have g0_401 := gd_f x_396 h_400
                clear x_396
                clear x_91
                refine v_aload_n hC dX12_readLoss_135 rfl ?_
                refine v_get hC fl_X12_34 m_1 e_99 rfl dX12_readLoss_136 ?_
                refine v_iload_n hC dX12_readLoss_139 rfl ?_
                refine v_iload_n hC dX12_readLoss_140 rfl ?_
                refine v_if_eq_f hC dX12_readLoss_141 (tgt := 148) (by decide) (by first | omega | (simp only [Int32.lt_iff_toInt_lt, Int32.le_iff_toInt_le, Int32.reduceToInt, ← Int32.toInt_inj, true_and, and_true, or_true, true_or, false_or, or_false, false_and, and_false, not_true_eq_false, not_false_eq_true] <;> omega)) ?_
                refine v_iconst hC dX12_readLoss_144 (v := 1) (by decide) ?_
                refine v_goto hC dX12_readLoss_145 (tgt := 149) (by decide) ?_
                refine v_iast hC m_22 hf_98 (vp_in_iff.mpr (by first | omega | (simp only [Int32.lt_iff_toInt_lt, Int32.le_iff_toInt_le, Int32.reduceToInt, ← Int32.toInt_inj, true_and, and_true, or_true, true_or, false_or, or_false, false_and, and_false, not_true_eq_false, not_false_eq_true] <;> omega))) dX12_readLoss_149 (fun f_405 hf_406 hk_407 => ?_)
                have hW_409 := hW_92.up hf_406 hk_407 t_23 ⟨_, rfl, (o_f.up (by first | omega | (simp only [Int32.lt_iff_toInt_lt, Int32.le_iff_toInt_le, Int32.reduceToInt, ← Int32.toInt_inj, true_and, and_true, or_true, true_or, false_or, or_false, false_and, and_false, not_true_eq_false, not_false_eq_true] <;> omega)) (fun q1 q2 => (by first | omega | (simp only [Int32.lt_iff_toInt_lt, Int32.le_iff_toInt_le, Int32.reduceToInt, ← Int32.toInt_inj] at *; omega))) (fun k9 q1 q2 q3 => (by first | omega | (simp only [Int32.lt_iff_toInt_lt, Int32.le_iff_toInt_le, Int32.reduceToInt, ← Int32.toInt_inj] at *; omega))))⟩
                obtain ⟨g_408, hf_406, ok_410, eg_411⟩ : ∃ g9, f_405 (q 14) = aI E 2076 g9 ∧ FOK g9 ∧ g9 = upd g_f (v_41 : Int32).toNatClampNeg 1 := ⟨_, hf_406, (o_f.up (by first | omega | (simp only [Int32.lt_iff_toInt_lt, Int32.le_iff_toInt_le, Int32.reduceToInt, ← Int32.toInt_inj, true_and, and_true, or_true, true_or, false_or, or_false, false_and, and_false, not_true_eq_false, not_false_eq_true] <;> omega)) (fun q1 q2 => (by first | omega | (simp only [Int32.lt_iff_toInt_lt, Int32.le_iff_toInt_le, Int32.reduceToInt, ← Int32.toInt_inj] at *; omega))) (fun k9 q1 q2 q3 => (by first | omega | (simp only [Int32.lt_iff_toInt_lt, Int32.le_iff_toInt_le, Int32.reduceToInt, ← Int32.toInt_inj] at *; omega)))), rfl⟩
                have hf_412 := (hk_407 a_0 (ne_kd e_99 hf_98 rfl)).trans e_99
                have fr_413 := FR.w hk_407 hf_98 (k := 2176) rfl
                have lk_414 := lk_at (g0 := g_f) eg_411 (by omega) (by omega)
                have ag_415 := (AG.rf o_f).st eg_411 (by omega) (by omega)
                try simp only [Int32.reduceToInt] at lk_414
                refine v_aload_n hC dX12_readLoss_150 rfl ?_
                refine v_get hC fl_X12_34 m_1 hf_412 rfl dX12_readLoss_151 ?_
                refine v_iload_n hC dX12_readLoss_154 rfl ?_
                refine v_iconst hC dX12_readLoss_155 (v := 1) (by decide) ?_
                obtain ⟨v_416, h_417⟩ : ∃ v9 : Int32, v_41 + 1 = v9 := ⟨_, rfl⟩
                refine v_iadd hC dX12_readLoss_156 h_417 ?_
                have h_418 := add_v h_417 (by first | omega | (simp only [Int32.lt_iff_toInt_lt, Int32.le_iff_toInt_le, Int32.reduceToInt, ← Int32.toInt_inj, true_and, and_true, or_true, true_or, false_or, or_false, false_and, and_false, not_true_eq_false, not_false_eq_true] <;> omega)) (by first | omega | (simp only [Int32.lt_iff_toInt_lt, Int32.le_iff_toInt_le, Int32.reduceToInt, ← Int32.toInt_inj, true_and, and_true, or_true, true_or, false_or, or_false, false_and, and_false, not_true_eq_false, not_false_eq_true] <;> omega))
                try simp only [Int32.reduceToInt] at h_418
                refine v_aload_n hC dX12_readLoss_157 rfl ?_
                refine v_iconst hC dX12_readLoss_158 (v := 0) (by decide) ?_
                refine v_bipush hC dX12_readLoss_159 (v := 15) (by decide) ?_
                refine v_vi hC (rest := [.int v_416, .ref (q 14)]) m_1 hf_412 rfl mi_X12_number ms_X12_number (p_X12_number hW_409 k_0) mx_X12_number ml_X12_170 (by decide) rfl (cells1 := 0) (slots1 := 0) (by decide) (by decide) (Nat.le_of_ble_eq_true rfl) (Nat.le_of_ble_eq_true rfl) rfl (Nat.le_of_ble_eq_true rfl) dX12_readLoss_161 (fun r_419 L_420 f_421 h_422 => ?_)
                obtain ⟨rfl, hW_424, hF_425, -, -, -, -, -, x_423⟩ := h_422
                have fe_426 : fld (f_405 a_0) 8 = (v_103 : Int32).toInt := by rw [hf_412]; rfl
                have fe_427 : fld (f_405 a_0) 10 = (v_105 : Int32).toInt := by rw [hf_412]; rfl
                have fe_428 : fld (f_405 a_0) 12 = (v_107 : Int32).toInt := by rw [hf_412]; rfl
                have hf_429 := hF_425.at hf_406 rfl
                obtain ⟨v_431, v_432, v_433, v_434, v_435, v_436, v_437, v_438, v_439, v_440, v_441, e_430, -, -, -, -, -, -, -⟩ := hW_424.at m_1 t_2
                have fe_442 : fld (f_421 a_0) 8 = (v_434 : Int32).toInt := by rw [e_430]; rfl
                have fe_443 : fld (f_421 a_0) 9 = (v_435 : Int32).toInt := by rw [e_430]; rfl
                have fe_444 : fld (f_421 a_0) 10 = (v_436 : Int32).toInt := by rw [e_430]; rfl
                have fe_445 : fld (f_421 a_0) 12 = (v_438 : Int32).toInt := by rw [e_430]; rfl
                rw [fe_445, fe_428, fe_427, fe_426, fe_443, fe_442, fe_444] at x_423
                have nb_446 : ¬ (v_438 : Int32).toInt = 0 := x_423.elim id (fun h9 => absurd h9.1 g0_401)
                clear x_423
                clear fe_426 fe_427 fe_428 fe_442 fe_443 fe_444 fe_445
                try simp only [Int32.reduceToInt, Int64.reduceToInt] at x_423
                refine v_iast hC m_22 hf_429 (vp_in_iff.mpr (by first | omega | (simp only [Int32.lt_iff_toInt_lt, Int32.le_iff_toInt_le, Int32.reduceToInt, ← Int32.toInt_inj, true_and, and_true, or_true, true_or, false_or, or_false, false_and, and_false, not_true_eq_false, not_false_eq_true] <;> omega))) dX12_readLoss_164 (fun f_447 hf_448 hk_449 => ?_)
                have hW_451 := hW_424.up hf_448 hk_449 t_23 ⟨_, rfl, (ok_410.up (by first | omega | (simp only [Int32.lt_iff_toInt_lt, Int32.le_iff_toInt_le, Int32.reduceToInt, ← Int32.toInt_inj, true_and, and_true, or_true, true_or, false_or, or_false, false_and, and_false, not_true_eq_false, not_false_eq_true] <;> omega)) (fun q1 q2 => (by first | omega | (simp only [Int32.lt_iff_toInt_lt, Int32.le_iff_toInt_le, Int32.reduceToInt, ← Int32.toInt_inj] at *; omega))) (fun k9 q1 q2 q3 => (by first | omega | (simp only [Int32.lt_iff_toInt_lt, Int32.le_iff_toInt_le, Int32.reduceToInt, ← Int32.toInt_inj] at *; omega))))⟩
                obtain ⟨g_450, hf_448, ok_452, eg_453⟩ : ∃ g9, f_447 (q 14) = aI E 2076 g9 ∧ FOK g9 ∧ g9 = upd g_408 (v_416 : Int32).toNatClampNeg r_419 := ⟨_, hf_448, (ok_410.up (by first | omega | (simp only [Int32.lt_iff_toInt_lt, Int32.le_iff_toInt_le, Int32.reduceToInt, ← Int32.toInt_inj, true_and, and_true, or_true, true_or, false_or, or_false, false_and, and_false, not_true_eq_false, not_false_eq_true] <;> omega)) (fun q1 q2 => (by first | omega | (simp only [Int32.lt_iff_toInt_lt, Int32.le_iff_toInt_le, Int32.reduceToInt, ← Int32.toInt_inj] at *; omega))) (fun k9 q1 q2 q3 => (by first | omega | (simp only [Int32.lt_iff_toInt_lt, Int32.le_iff_toInt_le, Int32.reduceToInt, ← Int32.toInt_inj] at *; omega)))), rfl⟩
                have hf_454 := (hk_449 a_0 (ne_kd e_430 hf_429 rfl)).trans e_430
                have fr_455 := FR.w hk_449 hf_429 (k := 2176) rfl
                have lk_456 := lf_at (g0 := g_f) eg_453 (by omega) (by omega)
                have ag_457 := ag_415.st eg_453 (by omega) (by omega)
                try simp only [Int32.reduceToInt] at lk_456
                refine v_aload_n hC dX12_readLoss_165 rfl ?_
                refine v_get hC fl_X12_34 m_1 hf_454 rfl dX12_readLoss_166 ?_
                refine v_iload_n hC dX12_readLoss_169 rfl ?_
                refine v_iconst hC dX12_readLoss_170 (v := 2) (by decide) ?_
                obtain ⟨v_458, h_459⟩ : ∃ v9 : Int32, v_41 + 2 = v9 := ⟨_, rfl⟩
                refine v_iadd hC dX12_readLoss_171 h_459 ?_
                have h_460 := add_v h_459 (by first | omega | (simp only [Int32.lt_iff_toInt_lt, Int32.le_iff_toInt_le, Int32.reduceToInt, ← Int32.toInt_inj, true_and, and_true, or_true, true_or, false_or, or_false, false_and, and_false, not_true_eq_false, not_false_eq_true] <;> omega)) (by first | omega | (simp only [Int32.lt_iff_toInt_lt, Int32.le_iff_toInt_le, Int32.reduceToInt, ← Int32.toInt_inj, true_and, and_true, or_true, true_or, false_or, or_false, false_and, and_false, not_true_eq_false, not_false_eq_true] <;> omega))
                try simp only [Int32.reduceToInt] at h_460
                refine v_aload_n hC dX12_readLoss_172 rfl ?_
                refine v_ldcwS hC sr_X12_295 dX12_readLoss_173 ?_
                refine v_aload_n hC dX12_readLoss_176 rfl ?_
                refine v_get hC fl_X12_34 m_1 hf_454 rfl dX12_readLoss_177 ?_
                refine v_iload_n hC dX12_readLoss_180 rfl ?_
                refine v_iconst hC dX12_readLoss_181 (v := 1) (by decide) ?_
                obtain ⟨v_461, h_462⟩ : ∃ v9 : Int32, v_41 + 1 = v9 := ⟨_, rfl⟩
                refine v_iadd hC dX12_readLoss_182 h_462 ?_
                have h_463 := add_v h_462 (by first | omega | (simp only [Int32.lt_iff_toInt_lt, Int32.le_iff_toInt_le, Int32.reduceToInt, ← Int32.toInt_inj, true_and, and_true, or_true, true_or, false_or, or_false, false_and, and_false, not_true_eq_false, not_false_eq_true] <;> omega)) (by first | omega | (simp only [Int32.lt_iff_toInt_lt, Int32.le_iff_toInt_le, Int32.reduceToInt, ← Int32.toInt_inj, true_and, and_true, or_true, true_or, false_or, or_false, false_and, and_false, not_true_eq_false, not_false_eq_true] <;> omega))
                try simp only [Int32.reduceToInt] at h_463
                obtain ⟨v_464, h_465⟩ : ∃ v9 : Int32, g_450 (v_461 : Int32).toNatClampNeg = v9 := ⟨_, rfl⟩
                refine v_iald hC m_22 hf_448 (vp_in_iff.mpr (by first | omega | (simp only [Int32.lt_iff_toInt_lt, Int32.le_iff_toInt_le, Int32.reduceToInt, ← Int32.toInt_inj, true_and, and_true, or_true, true_or, false_or, or_false, false_and, and_false, not_true_eq_false, not_false_eq_true] <;> omega))) h_465 dX12_readLoss_183 ?_
                refine v_bipush hC dX12_readLoss_184 (v := 15) (by decide) ?_
                refine v_vi hC (rest := [.int v_458, .ref (q 14)]) m_1 hf_454 rfl mi_X12_told ms_X12_told (p_X12_told hW_451 k_0 (by decide)) mx_X12_told ml_X12_189 (by decide) rfl (cells1 := 0) (slots1 := 0) (by decide) (by decide) (Nat.le_of_ble_eq_true rfl) (Nat.le_of_ble_eq_true rfl) rfl (Nat.le_of_ble_eq_true rfl) dX12_readLoss_186 (fun r_466 L_467 f_468 h_469 => ?_)
                obtain ⟨rfl, hW_471, hF_472, -, -, -, -, -, x_470⟩ := h_469
                have fe_473 : fld (f_447 a_0) 8 = (v_434 : Int32).toInt := by rw [hf_454]; rfl
                have fe_474 : fld (f_447 a_0) 12 = (v_438 : Int32).toInt := by rw [hf_454]; rfl
                have hf_475 := hF_472.at hf_448 rfl
                obtain ⟨v_477, v_478, v_479, v_480, v_481, v_482, v_483, v_484, v_485, v_486, v_487, e_476, -, -, -, -, -, -, -⟩ := hW_471.at m_1 t_2
                have fe_488 : fld (f_468 a_0) 8 = (v_480 : Int32).toInt := by rw [e_476]; rfl
                have fe_489 : fld (f_468 a_0) 9 = (v_481 : Int32).toInt := by rw [e_476]; rfl
                have fe_490 : fld (f_468 a_0) 10 = (v_482 : Int32).toInt := by rw [e_476]; rfl
                have fe_491 : fld (f_468 a_0) 12 = (v_484 : Int32).toInt := by rw [e_476]; rfl
                rw [fe_491, fe_474, fe_473, fe_489, fe_488, fe_490] at x_470
                have nb_492 : ¬ (v_484 : Int32).toInt = 0 := x_470.elim id (fun h9 => absurd h9.1 nb_446)
                clear x_470
                clear fe_473 fe_474 fe_488 fe_489 fe_490 fe_491
                try simp only [Int32.reduceToInt, Int64.reduceToInt] at x_470
                refine v_iast hC m_22 hf_475 (vp_in_iff.mpr (by first | omega | (simp only [Int32.lt_iff_toInt_lt, Int32.le_iff_toInt_le, Int32.reduceToInt, ← Int32.toInt_inj, true_and, and_true, or_true, true_or, false_or, or_false, false_and, and_false, not_true_eq_false, not_false_eq_true] <;> omega))) dX12_readLoss_189 (fun f_493 hf_494 hk_495 => ?_)
                have hW_497 := hW_471.up hf_494 hk_495 t_23 ⟨_, rfl, (ok_452.up (by first | omega | (simp only [Int32.lt_iff_toInt_lt, Int32.le_iff_toInt_le, Int32.reduceToInt, ← Int32.toInt_inj, true_and, and_true, or_true, true_or, false_or, or_false, false_and, and_false, not_true_eq_false, not_false_eq_true] <;> omega)) (fun q1 q2 => (by first | omega | (simp only [Int32.lt_iff_toInt_lt, Int32.le_iff_toInt_le, Int32.reduceToInt, ← Int32.toInt_inj] at *; omega))) (fun k9 q1 q2 q3 => (by first | omega | (simp only [Int32.lt_iff_toInt_lt, Int32.le_iff_toInt_le, Int32.reduceToInt, ← Int32.toInt_inj] at *; omega))))⟩
                obtain ⟨g_496, hf_494, ok_498, eg_499⟩ : ∃ g9, f_493 (q 14) = aI E 2076 g9 ∧ FOK g9 ∧ g9 = upd g_450 (v_458 : Int32).toNatClampNeg r_466 := ⟨_, hf_494, (ok_452.up (by first | omega | (simp only [Int32.lt_iff_toInt_lt, Int32.le_iff_toInt_le, Int32.reduceToInt, ← Int32.toInt_inj, true_and, and_true, or_true, true_or, false_or, or_false, false_and, and_false, not_true_eq_false, not_false_eq_true] <;> omega)) (fun q1 q2 => (by first | omega | (simp only [Int32.lt_iff_toInt_lt, Int32.le_iff_toInt_le, Int32.reduceToInt, ← Int32.toInt_inj] at *; omega))) (fun k9 q1 q2 q3 => (by first | omega | (simp only [Int32.lt_iff_toInt_lt, Int32.le_iff_toInt_le, Int32.reduceToInt, ← Int32.toInt_inj] at *; omega)))), rfl⟩
                have hf_500 := (hk_495 a_0 (ne_kd e_476 hf_475 rfl)).trans e_476
                have fr_501 := FR.w hk_495 hf_475 (k := 2176) rfl
                have lk_502 := l2_at (g0 := g_f) eg_499 (by omega) (by omega)
                have ag_503 := ag_457.st eg_499 (by omega) (by omega)
                try simp only [Int32.reduceToInt] at lk_502
                refine v_goto hC dX12_readLoss_190 (tgt := 258) (by decide) ?_
                refine v_aload_n hC dX12_readLoss_258 rfl ?_
                refine v_vv hC (rest := []) m_1 hf_500 rfl mi_X12_ends ms_X12_ends (p_X12_ends hW_497 k_0) mx_X12_ends ml_X12_178 (by decide) rfl (cells1 := 0) (slots1 := 0) (by decide) (by decide) (Nat.le_of_ble_eq_true rfl) (Nat.le_of_ble_eq_true rfl) rfl (Nat.le_of_ble_eq_true rfl) dX12_readLoss_259 (fun L_505 f_506 h_507 => ?_)
                obtain ⟨rfl, hW_509, hF_510, -, -, -, -, x_508⟩ := h_507
                have fe_511 : fld (f_493 a_0) 8 = (v_480 : Int32).toInt := by rw [hf_500]; rfl
                have fe_512 : fld (f_493 a_0) 10 = (v_482 : Int32).toInt := by rw [hf_500]; rfl
                have fe_513 : fld (f_493 a_0) 12 = (v_484 : Int32).toInt := by rw [hf_500]; rfl
                have hf_514 := hF_510.at hf_494 rfl
                obtain ⟨v_516, v_517, v_518, v_519, v_520, v_521, v_522, v_523, v_524, v_525, v_526, e_515, -, -, -, -, -, -, -⟩ := hW_509.at m_1 t_2
                have fe_527 : fld (f_506 a_0) 8 = (v_519 : Int32).toInt := by rw [e_515]; rfl
                have fe_528 : fld (f_506 a_0) 9 = (v_520 : Int32).toInt := by rw [e_515]; rfl
                have fe_529 : fld (f_506 a_0) 10 = (v_521 : Int32).toInt := by rw [e_515]; rfl
                have fe_530 : fld (f_506 a_0) 12 = (v_523 : Int32).toInt := by rw [e_515]; rfl
                rw [fe_530, fe_513, fe_512, fe_511, fe_528, fe_527, fe_529] at x_508
                have nb_531 : ¬ (v_523 : Int32).toInt = 0 := x_508.elim id (fun h9 => absurd h9.1 nb_492)
                clear x_508
                clear fe_511 fe_512 fe_513 fe_527 fe_528 fe_529 fe_530
                refine v_aload_n hC dX12_readLoss_262 rfl ?_
                refine v_get hC fl_X12_34 m_1 e_515 rfl dX12_readLoss_263 ?_
                refine v_bipush hC dX12_readLoss_266 (v := 6) (by decide) ?_
                refine v_dup2 hC dX12_readLoss_268 rfl rfl ?_
                have l6_532 : (g_496 6).toInt = (g_f 6).toInt := congrArg Int32.toInt ag_503.2.1
                refine v_iald hC m_22 hf_514 (vp_in_iff.mpr (by decide)) (v := g_496 6) rfl dX12_readLoss_269 ?_
                refine v_iconst hC dX12_readLoss_270 (v := 1) (by decide) ?_
                obtain ⟨v_533, h_534⟩ : ∃ v9 : Int32, (g_496 6) + 1 = v9 := ⟨_, rfl⟩
                refine v_iadd hC dX12_readLoss_271 h_534 ?_
                have h_535 := add_v h_534 (by first | omega | (simp only [Int32.lt_iff_toInt_lt, Int32.le_iff_toInt_le, Int32.reduceToInt, ← Int32.toInt_inj, true_and, and_true, or_true, true_or, false_or, or_false, false_and, and_false, not_true_eq_false, not_false_eq_true] <;> omega)) (by first | omega | (simp only [Int32.lt_iff_toInt_lt, Int32.le_iff_toInt_le, Int32.reduceToInt, ← Int32.toInt_inj, true_and, and_true, or_true, true_or, false_or, or_false, false_and, and_false, not_true_eq_false, not_false_eq_true] <;> omega))
                try simp only [Int32.reduceToInt] at h_535
                refine v_iast hC m_22 hf_514 (vp_in_iff.mpr (by decide)) dX12_readLoss_272 (fun f_536 hf_537 hk_538 => ?_)
                have hW_540 := hW_509.up hf_537 hk_538 t_23 ⟨_, rfl, (ok_498.up (i := 6) (by decide) (fun q1 q2 => absurd (And.intro q1 q2) (by decide)) (fun k9 q1 q2 q3 => by simp only [Int32.reduceToInt] at q3; omega))⟩
                obtain ⟨g_539, hf_537, ok_541, eg_542⟩ : ∃ g9, f_536 (q 14) = aI E 2076 g9 ∧ FOK g9 ∧ g9 = upd g_496 (6 : Int32).toNatClampNeg v_533 := ⟨_, hf_537, (ok_498.up (i := 6) (by decide) (fun q1 q2 => absurd (And.intro q1 q2) (by decide)) (fun k9 q1 q2 q3 => by simp only [Int32.reduceToInt] at q3; omega)), rfl⟩
                have hf_543 := (hk_538 a_0 (ne_kd e_515 hf_514 rfl)).trans e_515
                have fr_544 := FR.w hk_538 hf_514 (k := 2176) rfl
                have ln6_545 := FOK.n6 ag_503.1 eg_542
                have ln6_545_t : (g_539 6).toInt = v_533.toInt := congrArg Int32.toInt ln6_545.2
                have fe_546 : fld (f_536 a_0) 12 = (v_523 : Int32).toInt := by rw [hf_543]; rfl
                have fe_547 : fld (f_536 a_0) 8 = (v_519 : Int32).toInt := by rw [hf_543]; rfl
                have fe_548 : fld (f_536 a_0) 12 = (v_523 : Int32).toInt := by rw [hf_543]; rfl
                exact hR _ _ _ _ _ _ dX12_readLoss_273 (Nat.le_of_ble_eq_true rfl) (Nat.le_of_ble_eq_true rfl) ⟨rfl, hW_540, ((((((((hF_93.tr fr_413).tr hF_425).tr fr_455).tr hF_472).tr fr_501).tr hF_510).tr fr_544).mono rfl), ⟨_, hf_537, ln6_545.1, (by omega), (by rw [fe_546]; exact .inl nb_531)⟩, (by simp only [fe_547, fe_548, mz_36, mz_37]; exact .inl nb_531)⟩
              · simp only [Int32.lt_iff_toInt_lt, Int32.le_iff_toInt_le, Int32.reduceToInt, ← Int32.toInt_inj] at h_400
                have nb_402 : (1 ≤ r_391.toInt ∧ r_391.toInt ≤ 1) := by omega
                have g0_403 := gd_t x_396 h_400
                clear x_396
                have gz_404 := x_91.symm.trans g0_403
                refine v_aload_n hC dX12_readLoss_131 rfl ?_
                refine v_vv hC (rest := []) m_1 e_99 rfl mi_X12_advance ms_X12_advance (p_X12_advance hW_92 k_0) mx_X12_advance ml_X12_156 (by decide) rfl (cells1 := 0) (slots1 := 0) (by decide) (by decide) (Nat.le_of_ble_eq_true rfl) (Nat.le_of_ble_eq_true rfl) rfl (Nat.le_of_ble_eq_true rfl) dX12_readLoss_132 (fun L_550 f_551 h_552 => ?_)
                obtain ⟨rfl, hW_556, hF_557, x_553, x_554, x_555, -⟩ := h_552
                have fe_558 : fld (f_87 a_0) 8 = (v_103 : Int32).toInt := by rw [e_99]; rfl
                have fe_559 : fld (f_87 a_0) 12 = (v_107 : Int32).toInt := by rw [e_99]; rfl
                have hf_560 := hF_557.at hf_98 rfl
                obtain ⟨v_562, v_563, v_564, v_565, v_566, v_567, v_568, v_569, v_570, v_571, v_572, e_561, -, -, -, -, -, -, -⟩ := hW_556.at m_1 t_2
                have fe_573 : fld (f_551 a_0) 8 = (v_565 : Int32).toInt := by rw [e_561]; rfl
                have fe_574 : fld (f_551 a_0) 9 = (v_566 : Int32).toInt := by rw [e_561]; rfl
                have fe_575 : fld (f_551 a_0) 10 = (v_567 : Int32).toInt := by rw [e_561]; rfl
                have fe_576 : fld (f_551 a_0) 12 = (v_569 : Int32).toInt := by rw [e_561]; rfl
                rw [fe_558, fe_574, fe_573] at x_553
                rw [fe_575, fe_574, fe_573] at x_554
                rw [fe_576, fe_559] at x_555
                clear fe_558 fe_559 fe_573 fe_574 fe_575 fe_576
                refine v_aload_n hC dX12_readLoss_135 rfl ?_
                refine v_get hC fl_X12_34 m_1 e_561 rfl dX12_readLoss_136 ?_
                refine v_iload_n hC dX12_readLoss_139 rfl ?_
                refine v_iload_n hC dX12_readLoss_140 rfl ?_
                refine v_if_eq_f hC dX12_readLoss_141 (tgt := 148) (by decide) (by first | omega | (simp only [Int32.lt_iff_toInt_lt, Int32.le_iff_toInt_le, Int32.reduceToInt, ← Int32.toInt_inj, true_and, and_true, or_true, true_or, false_or, or_false, false_and, and_false, not_true_eq_false, not_false_eq_true] <;> omega)) ?_
                refine v_iconst hC dX12_readLoss_144 (v := 1) (by decide) ?_
                refine v_goto hC dX12_readLoss_145 (tgt := 149) (by decide) ?_
                refine v_iast hC m_22 hf_560 (vp_in_iff.mpr (by first | omega | (simp only [Int32.lt_iff_toInt_lt, Int32.le_iff_toInt_le, Int32.reduceToInt, ← Int32.toInt_inj, true_and, and_true, or_true, true_or, false_or, or_false, false_and, and_false, not_true_eq_false, not_false_eq_true] <;> omega))) dX12_readLoss_149 (fun f_577 hf_578 hk_579 => ?_)
                have hW_581 := hW_556.up hf_578 hk_579 t_23 ⟨_, rfl, (o_f.up (by first | omega | (simp only [Int32.lt_iff_toInt_lt, Int32.le_iff_toInt_le, Int32.reduceToInt, ← Int32.toInt_inj, true_and, and_true, or_true, true_or, false_or, or_false, false_and, and_false, not_true_eq_false, not_false_eq_true] <;> omega)) (fun q1 q2 => (by first | omega | (simp only [Int32.lt_iff_toInt_lt, Int32.le_iff_toInt_le, Int32.reduceToInt, ← Int32.toInt_inj] at *; omega))) (fun k9 q1 q2 q3 => (by first | omega | (simp only [Int32.lt_iff_toInt_lt, Int32.le_iff_toInt_le, Int32.reduceToInt, ← Int32.toInt_inj] at *; omega))))⟩
                obtain ⟨g_580, hf_578, ok_582, eg_583⟩ : ∃ g9, f_577 (q 14) = aI E 2076 g9 ∧ FOK g9 ∧ g9 = upd g_f (v_41 : Int32).toNatClampNeg 1 := ⟨_, hf_578, (o_f.up (by first | omega | (simp only [Int32.lt_iff_toInt_lt, Int32.le_iff_toInt_le, Int32.reduceToInt, ← Int32.toInt_inj, true_and, and_true, or_true, true_or, false_or, or_false, false_and, and_false, not_true_eq_false, not_false_eq_true] <;> omega)) (fun q1 q2 => (by first | omega | (simp only [Int32.lt_iff_toInt_lt, Int32.le_iff_toInt_le, Int32.reduceToInt, ← Int32.toInt_inj] at *; omega))) (fun k9 q1 q2 q3 => (by first | omega | (simp only [Int32.lt_iff_toInt_lt, Int32.le_iff_toInt_le, Int32.reduceToInt, ← Int32.toInt_inj] at *; omega)))), rfl⟩
                have hf_584 := (hk_579 a_0 (ne_kd e_561 hf_560 rfl)).trans e_561
                have fr_585 := FR.w hk_579 hf_560 (k := 2176) rfl
                have lk_586 := lk_at (g0 := g_f) eg_583 (by omega) (by omega)
                have ag_587 := (AG.rf o_f).st eg_583 (by omega) (by omega)
                try simp only [Int32.reduceToInt] at lk_586
                refine v_aload_n hC dX12_readLoss_150 rfl ?_
                refine v_get hC fl_X12_34 m_1 hf_584 rfl dX12_readLoss_151 ?_
                refine v_iload_n hC dX12_readLoss_154 rfl ?_
                refine v_iconst hC dX12_readLoss_155 (v := 1) (by decide) ?_
                obtain ⟨v_588, h_589⟩ : ∃ v9 : Int32, v_41 + 1 = v9 := ⟨_, rfl⟩
                refine v_iadd hC dX12_readLoss_156 h_589 ?_
                have h_590 := add_v h_589 (by first | omega | (simp only [Int32.lt_iff_toInt_lt, Int32.le_iff_toInt_le, Int32.reduceToInt, ← Int32.toInt_inj, true_and, and_true, or_true, true_or, false_or, or_false, false_and, and_false, not_true_eq_false, not_false_eq_true] <;> omega)) (by first | omega | (simp only [Int32.lt_iff_toInt_lt, Int32.le_iff_toInt_le, Int32.reduceToInt, ← Int32.toInt_inj, true_and, and_true, or_true, true_or, false_or, or_false, false_and, and_false, not_true_eq_false, not_false_eq_true] <;> omega))
                try simp only [Int32.reduceToInt] at h_590
                refine v_aload_n hC dX12_readLoss_157 rfl ?_
                refine v_iconst hC dX12_readLoss_158 (v := 0) (by decide) ?_
                refine v_bipush hC dX12_readLoss_159 (v := 15) (by decide) ?_
                refine v_vi hC (rest := [.int v_588, .ref (q 14)]) m_1 hf_584 rfl mi_X12_number ms_X12_number (p_X12_number hW_581 k_0) mx_X12_number ml_X12_170 (by decide) rfl (cells1 := 0) (slots1 := 0) (by decide) (by decide) (Nat.le_of_ble_eq_true rfl) (Nat.le_of_ble_eq_true rfl) rfl (Nat.le_of_ble_eq_true rfl) dX12_readLoss_161 (fun r_591 L_592 f_593 h_594 => ?_)
                obtain ⟨rfl, hW_596, hF_597, -, -, -, -, -, x_595⟩ := h_594
                have fe_598 : fld (f_577 a_0) 8 = (v_565 : Int32).toInt := by rw [hf_584]; rfl
                have fe_599 : fld (f_577 a_0) 10 = (v_567 : Int32).toInt := by rw [hf_584]; rfl
                have fe_600 : fld (f_577 a_0) 12 = (v_569 : Int32).toInt := by rw [hf_584]; rfl
                have hf_601 := hF_597.at hf_578 rfl
                obtain ⟨v_603, v_604, v_605, v_606, v_607, v_608, v_609, v_610, v_611, v_612, v_613, e_602, -, -, -, -, -, -, -⟩ := hW_596.at m_1 t_2
                have fe_614 : fld (f_593 a_0) 8 = (v_606 : Int32).toInt := by rw [e_602]; rfl
                have fe_615 : fld (f_593 a_0) 9 = (v_607 : Int32).toInt := by rw [e_602]; rfl
                have fe_616 : fld (f_593 a_0) 10 = (v_608 : Int32).toInt := by rw [e_602]; rfl
                have fe_617 : fld (f_593 a_0) 12 = (v_610 : Int32).toInt := by rw [e_602]; rfl
                rw [fe_617, fe_600, fe_599, fe_598, fe_615, fe_614, fe_616] at x_595
                clear fe_598 fe_599 fe_600 fe_614 fe_615 fe_616 fe_617
                try simp only [Int32.reduceToInt, Int64.reduceToInt] at x_595
                refine v_iast hC m_22 hf_601 (vp_in_iff.mpr (by first | omega | (simp only [Int32.lt_iff_toInt_lt, Int32.le_iff_toInt_le, Int32.reduceToInt, ← Int32.toInt_inj, true_and, and_true, or_true, true_or, false_or, or_false, false_and, and_false, not_true_eq_false, not_false_eq_true] <;> omega))) dX12_readLoss_164 (fun f_618 hf_619 hk_620 => ?_)
                have hW_622 := hW_596.up hf_619 hk_620 t_23 ⟨_, rfl, (ok_582.up (by first | omega | (simp only [Int32.lt_iff_toInt_lt, Int32.le_iff_toInt_le, Int32.reduceToInt, ← Int32.toInt_inj, true_and, and_true, or_true, true_or, false_or, or_false, false_and, and_false, not_true_eq_false, not_false_eq_true] <;> omega)) (fun q1 q2 => (by first | omega | (simp only [Int32.lt_iff_toInt_lt, Int32.le_iff_toInt_le, Int32.reduceToInt, ← Int32.toInt_inj] at *; omega))) (fun k9 q1 q2 q3 => (by first | omega | (simp only [Int32.lt_iff_toInt_lt, Int32.le_iff_toInt_le, Int32.reduceToInt, ← Int32.toInt_inj] at *; omega))))⟩
                obtain ⟨g_621, hf_619, ok_623, eg_624⟩ : ∃ g9, f_618 (q 14) = aI E 2076 g9 ∧ FOK g9 ∧ g9 = upd g_580 (v_588 : Int32).toNatClampNeg r_591 := ⟨_, hf_619, (ok_582.up (by first | omega | (simp only [Int32.lt_iff_toInt_lt, Int32.le_iff_toInt_le, Int32.reduceToInt, ← Int32.toInt_inj, true_and, and_true, or_true, true_or, false_or, or_false, false_and, and_false, not_true_eq_false, not_false_eq_true] <;> omega)) (fun q1 q2 => (by first | omega | (simp only [Int32.lt_iff_toInt_lt, Int32.le_iff_toInt_le, Int32.reduceToInt, ← Int32.toInt_inj] at *; omega))) (fun k9 q1 q2 q3 => (by first | omega | (simp only [Int32.lt_iff_toInt_lt, Int32.le_iff_toInt_le, Int32.reduceToInt, ← Int32.toInt_inj] at *; omega)))), rfl⟩
                have hf_625 := (hk_620 a_0 (ne_kd e_602 hf_601 rfl)).trans e_602
                have fr_626 := FR.w hk_620 hf_601 (k := 2176) rfl
                have lk_627 := lf_at (g0 := g_f) eg_624 (by omega) (by omega)
                have ag_628 := ag_587.st eg_624 (by omega) (by omega)
                try simp only [Int32.reduceToInt] at lk_627
                refine v_aload_n hC dX12_readLoss_165 rfl ?_
                refine v_get hC fl_X12_34 m_1 hf_625 rfl dX12_readLoss_166 ?_
                refine v_iload_n hC dX12_readLoss_169 rfl ?_
                refine v_iconst hC dX12_readLoss_170 (v := 2) (by decide) ?_
                obtain ⟨v_629, h_630⟩ : ∃ v9 : Int32, v_41 + 2 = v9 := ⟨_, rfl⟩
                refine v_iadd hC dX12_readLoss_171 h_630 ?_
                have h_631 := add_v h_630 (by first | omega | (simp only [Int32.lt_iff_toInt_lt, Int32.le_iff_toInt_le, Int32.reduceToInt, ← Int32.toInt_inj, true_and, and_true, or_true, true_or, false_or, or_false, false_and, and_false, not_true_eq_false, not_false_eq_true] <;> omega)) (by first | omega | (simp only [Int32.lt_iff_toInt_lt, Int32.le_iff_toInt_le, Int32.reduceToInt, ← Int32.toInt_inj, true_and, and_true, or_true, true_or, false_or, or_false, false_and, and_false, not_true_eq_false, not_false_eq_true] <;> omega))
                try simp only [Int32.reduceToInt] at h_631
                refine v_aload_n hC dX12_readLoss_172 rfl ?_
                refine v_ldcwS hC sr_X12_295 dX12_readLoss_173 ?_
                refine v_aload_n hC dX12_readLoss_176 rfl ?_
                refine v_get hC fl_X12_34 m_1 hf_625 rfl dX12_readLoss_177 ?_
                refine v_iload_n hC dX12_readLoss_180 rfl ?_
                refine v_iconst hC dX12_readLoss_181 (v := 1) (by decide) ?_
                obtain ⟨v_632, h_633⟩ : ∃ v9 : Int32, v_41 + 1 = v9 := ⟨_, rfl⟩
                refine v_iadd hC dX12_readLoss_182 h_633 ?_
                have h_634 := add_v h_633 (by first | omega | (simp only [Int32.lt_iff_toInt_lt, Int32.le_iff_toInt_le, Int32.reduceToInt, ← Int32.toInt_inj, true_and, and_true, or_true, true_or, false_or, or_false, false_and, and_false, not_true_eq_false, not_false_eq_true] <;> omega)) (by first | omega | (simp only [Int32.lt_iff_toInt_lt, Int32.le_iff_toInt_le, Int32.reduceToInt, ← Int32.toInt_inj, true_and, and_true, or_true, true_or, false_or, or_false, false_and, and_false, not_true_eq_false, not_false_eq_true] <;> omega))
                try simp only [Int32.reduceToInt] at h_634
                obtain ⟨v_635, h_636⟩ : ∃ v9 : Int32, g_621 (v_632 : Int32).toNatClampNeg = v9 := ⟨_, rfl⟩
                refine v_iald hC m_22 hf_619 (vp_in_iff.mpr (by first | omega | (simp only [Int32.lt_iff_toInt_lt, Int32.le_iff_toInt_le, Int32.reduceToInt, ← Int32.toInt_inj, true_and, and_true, or_true, true_or, false_or, or_false, false_and, and_false, not_true_eq_false, not_false_eq_true] <;> omega))) h_636 dX12_readLoss_183 ?_
                refine v_bipush hC dX12_readLoss_184 (v := 15) (by decide) ?_
                refine v_vi hC (rest := [.int v_629, .ref (q 14)]) m_1 hf_625 rfl mi_X12_told ms_X12_told (p_X12_told hW_622 k_0 (by decide)) mx_X12_told ml_X12_189 (by decide) rfl (cells1 := 0) (slots1 := 0) (by decide) (by decide) (Nat.le_of_ble_eq_true rfl) (Nat.le_of_ble_eq_true rfl) rfl (Nat.le_of_ble_eq_true rfl) dX12_readLoss_186 (fun r_637 L_638 f_639 h_640 => ?_)
                obtain ⟨rfl, hW_642, hF_643, -, -, -, -, -, x_641⟩ := h_640
                have fe_644 : fld (f_618 a_0) 8 = (v_606 : Int32).toInt := by rw [hf_625]; rfl
                have fe_645 : fld (f_618 a_0) 12 = (v_610 : Int32).toInt := by rw [hf_625]; rfl
                have hf_646 := hF_643.at hf_619 rfl
                obtain ⟨v_648, v_649, v_650, v_651, v_652, v_653, v_654, v_655, v_656, v_657, v_658, e_647, -, -, -, -, -, -, -⟩ := hW_642.at m_1 t_2
                have fe_659 : fld (f_639 a_0) 8 = (v_651 : Int32).toInt := by rw [e_647]; rfl
                have fe_660 : fld (f_639 a_0) 9 = (v_652 : Int32).toInt := by rw [e_647]; rfl
                have fe_661 : fld (f_639 a_0) 10 = (v_653 : Int32).toInt := by rw [e_647]; rfl
                have fe_662 : fld (f_639 a_0) 12 = (v_655 : Int32).toInt := by rw [e_647]; rfl
                rw [fe_662, fe_645, fe_644, fe_660, fe_659, fe_661] at x_641
                clear fe_644 fe_645 fe_659 fe_660 fe_661 fe_662
                try simp only [Int32.reduceToInt, Int64.reduceToInt] at x_641
                refine v_iast hC m_22 hf_646 (vp_in_iff.mpr (by first | omega | (simp only [Int32.lt_iff_toInt_lt, Int32.le_iff_toInt_le, Int32.reduceToInt, ← Int32.toInt_inj, true_and, and_true, or_true, true_or, false_or, or_false, false_and, and_false, not_true_eq_false, not_false_eq_true] <;> omega))) dX12_readLoss_189 (fun f_663 hf_664 hk_665 => ?_)
                have hW_667 := hW_642.up hf_664 hk_665 t_23 ⟨_, rfl, (ok_623.up (by first | omega | (simp only [Int32.lt_iff_toInt_lt, Int32.le_iff_toInt_le, Int32.reduceToInt, ← Int32.toInt_inj, true_and, and_true, or_true, true_or, false_or, or_false, false_and, and_false, not_true_eq_false, not_false_eq_true] <;> omega)) (fun q1 q2 => (by first | omega | (simp only [Int32.lt_iff_toInt_lt, Int32.le_iff_toInt_le, Int32.reduceToInt, ← Int32.toInt_inj] at *; omega))) (fun k9 q1 q2 q3 => (by first | omega | (simp only [Int32.lt_iff_toInt_lt, Int32.le_iff_toInt_le, Int32.reduceToInt, ← Int32.toInt_inj] at *; omega))))⟩
                obtain ⟨g_666, hf_664, ok_668, eg_669⟩ : ∃ g9, f_663 (q 14) = aI E 2076 g9 ∧ FOK g9 ∧ g9 = upd g_621 (v_629 : Int32).toNatClampNeg r_637 := ⟨_, hf_664, (ok_623.up (by first | omega | (simp only [Int32.lt_iff_toInt_lt, Int32.le_iff_toInt_le, Int32.reduceToInt, ← Int32.toInt_inj, true_and, and_true, or_true, true_or, false_or, or_false, false_and, and_false, not_true_eq_false, not_false_eq_true] <;> omega)) (fun q1 q2 => (by first | omega | (simp only [Int32.lt_iff_toInt_lt, Int32.le_iff_toInt_le, Int32.reduceToInt, ← Int32.toInt_inj] at *; omega))) (fun k9 q1 q2 q3 => (by first | omega | (simp only [Int32.lt_iff_toInt_lt, Int32.le_iff_toInt_le, Int32.reduceToInt, ← Int32.toInt_inj] at *; omega)))), rfl⟩
                have hf_670 := (hk_665 a_0 (ne_kd e_647 hf_646 rfl)).trans e_647
                have fr_671 := FR.w hk_665 hf_646 (k := 2176) rfl
                have lk_672 := l2_at (g0 := g_f) eg_669 (by omega) (by omega)
                have ag_673 := ag_628.st eg_669 (by omega) (by omega)
                try simp only [Int32.reduceToInt] at lk_672
                refine v_goto hC dX12_readLoss_190 (tgt := 258) (by decide) ?_
                refine v_aload_n hC dX12_readLoss_258 rfl ?_
                refine v_vv hC (rest := []) m_1 hf_670 rfl mi_X12_ends ms_X12_ends (p_X12_ends hW_667 k_0) mx_X12_ends ml_X12_178 (by decide) rfl (cells1 := 0) (slots1 := 0) (by decide) (by decide) (Nat.le_of_ble_eq_true rfl) (Nat.le_of_ble_eq_true rfl) rfl (Nat.le_of_ble_eq_true rfl) dX12_readLoss_259 (fun L_675 f_676 h_677 => ?_)
                obtain ⟨rfl, hW_679, hF_680, -, -, -, -, x_678⟩ := h_677
                have fe_681 : fld (f_663 a_0) 8 = (v_651 : Int32).toInt := by rw [hf_670]; rfl
                have fe_682 : fld (f_663 a_0) 10 = (v_653 : Int32).toInt := by rw [hf_670]; rfl
                have fe_683 : fld (f_663 a_0) 12 = (v_655 : Int32).toInt := by rw [hf_670]; rfl
                have hf_684 := hF_680.at hf_664 rfl
                obtain ⟨v_686, v_687, v_688, v_689, v_690, v_691, v_692, v_693, v_694, v_695, v_696, e_685, -, -, -, -, -, -, -⟩ := hW_679.at m_1 t_2
                have fe_697 : fld (f_676 a_0) 8 = (v_689 : Int32).toInt := by rw [e_685]; rfl
                have fe_698 : fld (f_676 a_0) 9 = (v_690 : Int32).toInt := by rw [e_685]; rfl
                have fe_699 : fld (f_676 a_0) 10 = (v_691 : Int32).toInt := by rw [e_685]; rfl
                have fe_700 : fld (f_676 a_0) 12 = (v_693 : Int32).toInt := by rw [e_685]; rfl
                rw [fe_700, fe_683, fe_682, fe_681, fe_698, fe_697, fe_699] at x_678
                clear fe_681 fe_682 fe_683 fe_697 fe_698 fe_699 fe_700
                refine v_aload_n hC dX12_readLoss_262 rfl ?_
                refine v_get hC fl_X12_34 m_1 e_685 rfl dX12_readLoss_263 ?_
                refine v_bipush hC dX12_readLoss_266 (v := 6) (by decide) ?_
                refine v_dup2 hC dX12_readLoss_268 rfl rfl ?_
                have l6_701 : (g_666 6).toInt = (g_f 6).toInt := congrArg Int32.toInt ag_673.2.1
                refine v_iald hC m_22 hf_684 (vp_in_iff.mpr (by decide)) (v := g_666 6) rfl dX12_readLoss_269 ?_
                refine v_iconst hC dX12_readLoss_270 (v := 1) (by decide) ?_
                obtain ⟨v_702, h_703⟩ : ∃ v9 : Int32, (g_666 6) + 1 = v9 := ⟨_, rfl⟩
                refine v_iadd hC dX12_readLoss_271 h_703 ?_
                have h_704 := add_v h_703 (by first | omega | (simp only [Int32.lt_iff_toInt_lt, Int32.le_iff_toInt_le, Int32.reduceToInt, ← Int32.toInt_inj, true_and, and_true, or_true, true_or, false_or, or_false, false_and, and_false, not_true_eq_false, not_false_eq_true] <;> omega)) (by first | omega | (simp only [Int32.lt_iff_toInt_lt, Int32.le_iff_toInt_le, Int32.reduceToInt, ← Int32.toInt_inj, true_and, and_true, or_true, true_or, false_or, or_false, false_and, and_false, not_true_eq_false, not_false_eq_true] <;> omega))
                try simp only [Int32.reduceToInt] at h_704
                refine v_iast hC m_22 hf_684 (vp_in_iff.mpr (by decide)) dX12_readLoss_272 (fun f_705 hf_706 hk_707 => ?_)
                have hW_709 := hW_679.up hf_706 hk_707 t_23 ⟨_, rfl, (ok_668.up (i := 6) (by decide) (fun q1 q2 => absurd (And.intro q1 q2) (by decide)) (fun k9 q1 q2 q3 => by simp only [Int32.reduceToInt] at q3; omega))⟩
                obtain ⟨g_708, hf_706, ok_710, eg_711⟩ : ∃ g9, f_705 (q 14) = aI E 2076 g9 ∧ FOK g9 ∧ g9 = upd g_666 (6 : Int32).toNatClampNeg v_702 := ⟨_, hf_706, (ok_668.up (i := 6) (by decide) (fun q1 q2 => absurd (And.intro q1 q2) (by decide)) (fun k9 q1 q2 q3 => by simp only [Int32.reduceToInt] at q3; omega)), rfl⟩
                have hf_712 := (hk_707 a_0 (ne_kd e_685 hf_684 rfl)).trans e_685
                have fr_713 := FR.w hk_707 hf_684 (k := 2176) rfl
                have ln6_714 := FOK.n6 ag_673.1 eg_711
                have ln6_714_t : (g_708 6).toInt = v_702.toInt := congrArg Int32.toInt ln6_714.2
                have fe_715 : fld (f_705 a_0) 12 = (v_693 : Int32).toInt := by rw [hf_712]; rfl
                have fe_720 : fld (f_705 a_0) 8 = (v_689 : Int32).toInt := by rw [hf_712]; rfl
                have fe_721 : fld (f_705 a_0) 12 = (v_693 : Int32).toInt := by rw [hf_712]; rfl
                exact hR _ _ _ _ _ _ dX12_readLoss_273 (Nat.le_of_ble_eq_true rfl) (Nat.le_of_ble_eq_true rfl) ⟨rfl, hW_709, (((((((((hF_93.tr hF_557).tr fr_585).tr hF_597).tr fr_626).tr hF_643).tr fr_671).tr hF_680).tr fr_713).mono rfl), ⟨_, hf_706, ln6_714.1, (by omega), (by rw [fe_715]; by_cases q9 : v_693.toInt = 0; have gp_716 := x_678.resolve_left (fun h9 => h9 q9); clear x_678; have gp_717 := x_641.resolve_left (fun h9 => h9 gp_716.1); clear x_641; have gp_718 := x_595.resolve_left (fun h9 => h9 gp_717.1); clear x_595; have gz_719 := x_555.symm.trans gp_718.1; exact .inr (LO.fin hLO ag_673 eg_711 (by omega) (by omega) (fun q8 => by omega)); exact .inl q9)⟩, (by simp only [fe_720, fe_721, mz_36, mz_37]; by_cases q9 : (v_693 : Int32).toInt = 0; have gp_722 := x_678.resolve_left (fun h9 => h9 q9); clear x_678; have gp_723 := x_641.resolve_left (fun h9 => h9 gp_722.1); clear x_641; have gp_724 := x_595.resolve_left (fun h9 => h9 gp_723.1); clear x_595; have gz_725 := x_555.symm.trans gp_724.1; (right; omega); exact .inl q9)⟩
            · simp only [Int32.lt_iff_toInt_lt, Int32.le_iff_toInt_le, Int32.reduceToInt, ← Int32.toInt_inj] at h_390
              refine v_aload_n hC dX12_readLoss_110 rfl ?_
              refine v_ldcS hC sr_X12_193 dX12_readLoss_111 ?_
              refine v_vi hC (rest := []) m_1 e_99 rfl mi_X12_is ms_X12_is (p_X12_is hW_92 k_0 (by decide)) mx_X12_is ml_X12_152 (by decide) rfl (cells1 := 0) (slots1 := 0) (by decide) (by decide) (Nat.le_of_ble_eq_true rfl) (Nat.le_of_ble_eq_true rfl) rfl (Nat.le_of_ble_eq_true rfl) dX12_readLoss_113 (fun r_726 L_727 f_728 h_729 => ?_)
              obtain ⟨rfl, rfl, rfl⟩ := h_729
              refine v_if_ne hC dX12_readLoss_116 (tgt := 124) (by decide) (fun h_732 => ?_) (fun h_732 => ?_)
              · simp only [Int32.lt_iff_toInt_lt, Int32.le_iff_toInt_le, Int32.reduceToInt, ← Int32.toInt_inj] at h_732
                refine v_aload_n hC dX12_readLoss_124 rfl ?_
                refine v_vi hC (rest := []) m_1 e_99 rfl mi_X12_good ms_X12_good (p_X12_good hW_92 k_0) mx_X12_good ml_X12_139 (by decide) rfl (cells1 := 0) (slots1 := 0) (by decide) (by decide) (Nat.le_of_ble_eq_true rfl) (Nat.le_of_ble_eq_true rfl) rfl (Nat.le_of_ble_eq_true rfl) dX12_readLoss_125 (fun r_733 L_734 f_735 h_736 => ?_)
                obtain ⟨rfl, rfl, b_737, x_738⟩ := h_736
                have fe_741 : fld (f_87 a_0) 12 = (v_107 : Int32).toInt := by rw [e_99]; rfl
                rw [fe_741] at x_738
                clear fe_741
                try simp only [Int32.reduceToInt, Int64.reduceToInt] at x_738
                refine v_if_eq hC dX12_readLoss_128 (tgt := 135) (by decide) (fun h_742 => ?_) (fun h_742 => ?_)
                · simp only [Int32.lt_iff_toInt_lt, Int32.le_iff_toInt_le, Int32.reduceToInt, ← Int32.toInt_inj] at h_742
                  have g0_743 := gd_f x_738 h_742
                  clear x_738
                  clear x_91
                  refine v_aload_n hC dX12_readLoss_135 rfl ?_
                  refine v_get hC fl_X12_34 m_1 e_99 rfl dX12_readLoss_136 ?_
                  refine v_iload_n hC dX12_readLoss_139 rfl ?_
                  refine v_iload_n hC dX12_readLoss_140 rfl ?_
                  refine v_if_eq_t hC dX12_readLoss_141 (tgt := 148) (by decide) (by first | omega | (simp only [Int32.lt_iff_toInt_lt, Int32.le_iff_toInt_le, Int32.reduceToInt, ← Int32.toInt_inj, true_and, and_true, or_true, true_or, false_or, or_false, false_and, and_false, not_true_eq_false, not_false_eq_true] <;> omega)) ?_
                  refine v_iconst hC dX12_readLoss_148 (v := 0) (by decide) ?_
                  refine v_iast hC m_22 hf_98 (vp_in_iff.mpr (by first | omega | (simp only [Int32.lt_iff_toInt_lt, Int32.le_iff_toInt_le, Int32.reduceToInt, ← Int32.toInt_inj, true_and, and_true, or_true, true_or, false_or, or_false, false_and, and_false, not_true_eq_false, not_false_eq_true] <;> omega))) dX12_readLoss_149 (fun f_747 hf_748 hk_749 => ?_)
                  have hW_751 := hW_92.up hf_748 hk_749 t_23 ⟨_, rfl, (o_f.up (by first | omega | (simp only [Int32.lt_iff_toInt_lt, Int32.le_iff_toInt_le, Int32.reduceToInt, ← Int32.toInt_inj, true_and, and_true, or_true, true_or, false_or, or_false, false_and, and_false, not_true_eq_false, not_false_eq_true] <;> omega)) (fun q1 q2 => (by first | omega | (simp only [Int32.lt_iff_toInt_lt, Int32.le_iff_toInt_le, Int32.reduceToInt, ← Int32.toInt_inj] at *; omega))) (fun k9 q1 q2 q3 => (by first | omega | (simp only [Int32.lt_iff_toInt_lt, Int32.le_iff_toInt_le, Int32.reduceToInt, ← Int32.toInt_inj] at *; omega))))⟩
                  obtain ⟨g_750, hf_748, ok_752, eg_753⟩ : ∃ g9, f_747 (q 14) = aI E 2076 g9 ∧ FOK g9 ∧ g9 = upd g_f (v_41 : Int32).toNatClampNeg 0 := ⟨_, hf_748, (o_f.up (by first | omega | (simp only [Int32.lt_iff_toInt_lt, Int32.le_iff_toInt_le, Int32.reduceToInt, ← Int32.toInt_inj, true_and, and_true, or_true, true_or, false_or, or_false, false_and, and_false, not_true_eq_false, not_false_eq_true] <;> omega)) (fun q1 q2 => (by first | omega | (simp only [Int32.lt_iff_toInt_lt, Int32.le_iff_toInt_le, Int32.reduceToInt, ← Int32.toInt_inj] at *; omega))) (fun k9 q1 q2 q3 => (by first | omega | (simp only [Int32.lt_iff_toInt_lt, Int32.le_iff_toInt_le, Int32.reduceToInt, ← Int32.toInt_inj] at *; omega)))), rfl⟩
                  have hf_754 := (hk_749 a_0 (ne_kd e_99 hf_98 rfl)).trans e_99
                  have fr_755 := FR.w hk_749 hf_98 (k := 2176) rfl
                  have lk_756 := lk_at (g0 := g_f) eg_753 (by omega) (by omega)
                  have ag_757 := (AG.rf o_f).st eg_753 (by omega) (by omega)
                  try simp only [Int32.reduceToInt] at lk_756
                  refine v_aload_n hC dX12_readLoss_150 rfl ?_
                  refine v_get hC fl_X12_34 m_1 hf_754 rfl dX12_readLoss_151 ?_
                  refine v_iload_n hC dX12_readLoss_154 rfl ?_
                  refine v_iconst hC dX12_readLoss_155 (v := 1) (by decide) ?_
                  obtain ⟨v_758, h_759⟩ : ∃ v9 : Int32, v_41 + 1 = v9 := ⟨_, rfl⟩
                  refine v_iadd hC dX12_readLoss_156 h_759 ?_
                  have h_760 := add_v h_759 (by first | omega | (simp only [Int32.lt_iff_toInt_lt, Int32.le_iff_toInt_le, Int32.reduceToInt, ← Int32.toInt_inj, true_and, and_true, or_true, true_or, false_or, or_false, false_and, and_false, not_true_eq_false, not_false_eq_true] <;> omega)) (by first | omega | (simp only [Int32.lt_iff_toInt_lt, Int32.le_iff_toInt_le, Int32.reduceToInt, ← Int32.toInt_inj, true_and, and_true, or_true, true_or, false_or, or_false, false_and, and_false, not_true_eq_false, not_false_eq_true] <;> omega))
                  try simp only [Int32.reduceToInt] at h_760
                  refine v_aload_n hC dX12_readLoss_157 rfl ?_
                  refine v_iconst hC dX12_readLoss_158 (v := 0) (by decide) ?_
                  refine v_bipush hC dX12_readLoss_159 (v := 15) (by decide) ?_
                  refine v_vi hC (rest := [.int v_758, .ref (q 14)]) m_1 hf_754 rfl mi_X12_number ms_X12_number (p_X12_number hW_751 k_0) mx_X12_number ml_X12_170 (by decide) rfl (cells1 := 0) (slots1 := 0) (by decide) (by decide) (Nat.le_of_ble_eq_true rfl) (Nat.le_of_ble_eq_true rfl) rfl (Nat.le_of_ble_eq_true rfl) dX12_readLoss_161 (fun r_761 L_762 f_763 h_764 => ?_)
                  obtain ⟨rfl, hW_766, hF_767, -, -, -, -, -, x_765⟩ := h_764
                  have fe_768 : fld (f_747 a_0) 8 = (v_103 : Int32).toInt := by rw [hf_754]; rfl
                  have fe_769 : fld (f_747 a_0) 10 = (v_105 : Int32).toInt := by rw [hf_754]; rfl
                  have fe_770 : fld (f_747 a_0) 12 = (v_107 : Int32).toInt := by rw [hf_754]; rfl
                  have hf_771 := hF_767.at hf_748 rfl
                  obtain ⟨v_773, v_774, v_775, v_776, v_777, v_778, v_779, v_780, v_781, v_782, v_783, e_772, -, -, -, -, -, -, -⟩ := hW_766.at m_1 t_2
                  have fe_784 : fld (f_763 a_0) 8 = (v_776 : Int32).toInt := by rw [e_772]; rfl
                  have fe_785 : fld (f_763 a_0) 9 = (v_777 : Int32).toInt := by rw [e_772]; rfl
                  have fe_786 : fld (f_763 a_0) 10 = (v_778 : Int32).toInt := by rw [e_772]; rfl
                  have fe_787 : fld (f_763 a_0) 12 = (v_780 : Int32).toInt := by rw [e_772]; rfl
                  rw [fe_787, fe_770, fe_769, fe_768, fe_785, fe_784, fe_786] at x_765
                  have nb_788 : ¬ (v_780 : Int32).toInt = 0 := x_765.elim id (fun h9 => absurd h9.1 g0_743)
                  clear x_765
                  clear fe_768 fe_769 fe_770 fe_784 fe_785 fe_786 fe_787
                  try simp only [Int32.reduceToInt, Int64.reduceToInt] at x_765
                  refine v_iast hC m_22 hf_771 (vp_in_iff.mpr (by first | omega | (simp only [Int32.lt_iff_toInt_lt, Int32.le_iff_toInt_le, Int32.reduceToInt, ← Int32.toInt_inj, true_and, and_true, or_true, true_or, false_or, or_false, false_and, and_false, not_true_eq_false, not_false_eq_true] <;> omega))) dX12_readLoss_164 (fun f_789 hf_790 hk_791 => ?_)
                  have hW_793 := hW_766.up hf_790 hk_791 t_23 ⟨_, rfl, (ok_752.up (by first | omega | (simp only [Int32.lt_iff_toInt_lt, Int32.le_iff_toInt_le, Int32.reduceToInt, ← Int32.toInt_inj, true_and, and_true, or_true, true_or, false_or, or_false, false_and, and_false, not_true_eq_false, not_false_eq_true] <;> omega)) (fun q1 q2 => (by first | omega | (simp only [Int32.lt_iff_toInt_lt, Int32.le_iff_toInt_le, Int32.reduceToInt, ← Int32.toInt_inj] at *; omega))) (fun k9 q1 q2 q3 => (by first | omega | (simp only [Int32.lt_iff_toInt_lt, Int32.le_iff_toInt_le, Int32.reduceToInt, ← Int32.toInt_inj] at *; omega))))⟩
                  obtain ⟨g_792, hf_790, ok_794, eg_795⟩ : ∃ g9, f_789 (q 14) = aI E 2076 g9 ∧ FOK g9 ∧ g9 = upd g_750 (v_758 : Int32).toNatClampNeg r_761 := ⟨_, hf_790, (ok_752.up (by first | omega | (simp only [Int32.lt_iff_toInt_lt, Int32.le_iff_toInt_le, Int32.reduceToInt, ← Int32.toInt_inj, true_and, and_true, or_true, true_or, false_or, or_false, false_and, and_false, not_true_eq_false, not_false_eq_true] <;> omega)) (fun q1 q2 => (by first | omega | (simp only [Int32.lt_iff_toInt_lt, Int32.le_iff_toInt_le, Int32.reduceToInt, ← Int32.toInt_inj] at *; omega))) (fun k9 q1 q2 q3 => (by first | omega | (simp only [Int32.lt_iff_toInt_lt, Int32.le_iff_toInt_le, Int32.reduceToInt, ← Int32.toInt_inj] at *; omega)))), rfl⟩
                  have hf_796 := (hk_791 a_0 (ne_kd e_772 hf_771 rfl)).trans e_772
                  have fr_797 := FR.w hk_791 hf_771 (k := 2176) rfl
                  have lk_798 := lf_at (g0 := g_f) eg_795 (by omega) (by omega)
                  have ag_799 := ag_757.st eg_795 (by omega) (by omega)
                  try simp only [Int32.reduceToInt] at lk_798
                  refine v_aload_n hC dX12_readLoss_165 rfl ?_
                  refine v_get hC fl_X12_34 m_1 hf_796 rfl dX12_readLoss_166 ?_
                  refine v_iload_n hC dX12_readLoss_169 rfl ?_
                  refine v_iconst hC dX12_readLoss_170 (v := 2) (by decide) ?_
                  obtain ⟨v_800, h_801⟩ : ∃ v9 : Int32, v_41 + 2 = v9 := ⟨_, rfl⟩
                  refine v_iadd hC dX12_readLoss_171 h_801 ?_
                  have h_802 := add_v h_801 (by first | omega | (simp only [Int32.lt_iff_toInt_lt, Int32.le_iff_toInt_le, Int32.reduceToInt, ← Int32.toInt_inj, true_and, and_true, or_true, true_or, false_or, or_false, false_and, and_false, not_true_eq_false, not_false_eq_true] <;> omega)) (by first | omega | (simp only [Int32.lt_iff_toInt_lt, Int32.le_iff_toInt_le, Int32.reduceToInt, ← Int32.toInt_inj, true_and, and_true, or_true, true_or, false_or, or_false, false_and, and_false, not_true_eq_false, not_false_eq_true] <;> omega))
                  try simp only [Int32.reduceToInt] at h_802
                  refine v_aload_n hC dX12_readLoss_172 rfl ?_
                  refine v_ldcwS hC sr_X12_295 dX12_readLoss_173 ?_
                  refine v_aload_n hC dX12_readLoss_176 rfl ?_
                  refine v_get hC fl_X12_34 m_1 hf_796 rfl dX12_readLoss_177 ?_
                  refine v_iload_n hC dX12_readLoss_180 rfl ?_
                  refine v_iconst hC dX12_readLoss_181 (v := 1) (by decide) ?_
                  obtain ⟨v_803, h_804⟩ : ∃ v9 : Int32, v_41 + 1 = v9 := ⟨_, rfl⟩
                  refine v_iadd hC dX12_readLoss_182 h_804 ?_
                  have h_805 := add_v h_804 (by first | omega | (simp only [Int32.lt_iff_toInt_lt, Int32.le_iff_toInt_le, Int32.reduceToInt, ← Int32.toInt_inj, true_and, and_true, or_true, true_or, false_or, or_false, false_and, and_false, not_true_eq_false, not_false_eq_true] <;> omega)) (by first | omega | (simp only [Int32.lt_iff_toInt_lt, Int32.le_iff_toInt_le, Int32.reduceToInt, ← Int32.toInt_inj, true_and, and_true, or_true, true_or, false_or, or_false, false_and, and_false, not_true_eq_false, not_false_eq_true] <;> omega))
                  try simp only [Int32.reduceToInt] at h_805
                  obtain ⟨v_806, h_807⟩ : ∃ v9 : Int32, g_792 (v_803 : Int32).toNatClampNeg = v9 := ⟨_, rfl⟩
                  refine v_iald hC m_22 hf_790 (vp_in_iff.mpr (by first | omega | (simp only [Int32.lt_iff_toInt_lt, Int32.le_iff_toInt_le, Int32.reduceToInt, ← Int32.toInt_inj, true_and, and_true, or_true, true_or, false_or, or_false, false_and, and_false, not_true_eq_false, not_false_eq_true] <;> omega))) h_807 dX12_readLoss_183 ?_
                  refine v_bipush hC dX12_readLoss_184 (v := 15) (by decide) ?_
                  refine v_vi hC (rest := [.int v_800, .ref (q 14)]) m_1 hf_796 rfl mi_X12_told ms_X12_told (p_X12_told hW_793 k_0 (by decide)) mx_X12_told ml_X12_189 (by decide) rfl (cells1 := 0) (slots1 := 0) (by decide) (by decide) (Nat.le_of_ble_eq_true rfl) (Nat.le_of_ble_eq_true rfl) rfl (Nat.le_of_ble_eq_true rfl) dX12_readLoss_186 (fun r_808 L_809 f_810 h_811 => ?_)
                  obtain ⟨rfl, hW_813, hF_814, -, -, -, -, -, x_812⟩ := h_811
                  have fe_815 : fld (f_789 a_0) 8 = (v_776 : Int32).toInt := by rw [hf_796]; rfl
                  have fe_816 : fld (f_789 a_0) 12 = (v_780 : Int32).toInt := by rw [hf_796]; rfl
                  have hf_817 := hF_814.at hf_790 rfl
                  obtain ⟨v_819, v_820, v_821, v_822, v_823, v_824, v_825, v_826, v_827, v_828, v_829, e_818, -, -, -, -, -, -, -⟩ := hW_813.at m_1 t_2
                  have fe_830 : fld (f_810 a_0) 8 = (v_822 : Int32).toInt := by rw [e_818]; rfl
                  have fe_831 : fld (f_810 a_0) 9 = (v_823 : Int32).toInt := by rw [e_818]; rfl
                  have fe_832 : fld (f_810 a_0) 10 = (v_824 : Int32).toInt := by rw [e_818]; rfl
                  have fe_833 : fld (f_810 a_0) 12 = (v_826 : Int32).toInt := by rw [e_818]; rfl
                  rw [fe_833, fe_816, fe_815, fe_831, fe_830, fe_832] at x_812
                  have nb_834 : ¬ (v_826 : Int32).toInt = 0 := x_812.elim id (fun h9 => absurd h9.1 nb_788)
                  clear x_812
                  clear fe_815 fe_816 fe_830 fe_831 fe_832 fe_833
                  try simp only [Int32.reduceToInt, Int64.reduceToInt] at x_812
                  refine v_iast hC m_22 hf_817 (vp_in_iff.mpr (by first | omega | (simp only [Int32.lt_iff_toInt_lt, Int32.le_iff_toInt_le, Int32.reduceToInt, ← Int32.toInt_inj, true_and, and_true, or_true, true_or, false_or, or_false, false_and, and_false, not_true_eq_false, not_false_eq_true] <;> omega))) dX12_readLoss_189 (fun f_835 hf_836 hk_837 => ?_)
                  have hW_839 := hW_813.up hf_836 hk_837 t_23 ⟨_, rfl, (ok_794.up (by first | omega | (simp only [Int32.lt_iff_toInt_lt, Int32.le_iff_toInt_le, Int32.reduceToInt, ← Int32.toInt_inj, true_and, and_true, or_true, true_or, false_or, or_false, false_and, and_false, not_true_eq_false, not_false_eq_true] <;> omega)) (fun q1 q2 => (by first | omega | (simp only [Int32.lt_iff_toInt_lt, Int32.le_iff_toInt_le, Int32.reduceToInt, ← Int32.toInt_inj] at *; omega))) (fun k9 q1 q2 q3 => (by first | omega | (simp only [Int32.lt_iff_toInt_lt, Int32.le_iff_toInt_le, Int32.reduceToInt, ← Int32.toInt_inj] at *; omega))))⟩
                  obtain ⟨g_838, hf_836, ok_840, eg_841⟩ : ∃ g9, f_835 (q 14) = aI E 2076 g9 ∧ FOK g9 ∧ g9 = upd g_792 (v_800 : Int32).toNatClampNeg r_808 := ⟨_, hf_836, (ok_794.up (by first | omega | (simp only [Int32.lt_iff_toInt_lt, Int32.le_iff_toInt_le, Int32.reduceToInt, ← Int32.toInt_inj, true_and, and_true, or_true, true_or, false_or, or_false, false_and, and_false, not_true_eq_false, not_false_eq_true] <;> omega)) (fun q1 q2 => (by first | omega | (simp only [Int32.lt_iff_toInt_lt, Int32.le_iff_toInt_le, Int32.reduceToInt, ← Int32.toInt_inj] at *; omega))) (fun k9 q1 q2 q3 => (by first | omega | (simp only [Int32.lt_iff_toInt_lt, Int32.le_iff_toInt_le, Int32.reduceToInt, ← Int32.toInt_inj] at *; omega)))), rfl⟩
                  have hf_842 := (hk_837 a_0 (ne_kd e_818 hf_817 rfl)).trans e_818
                  have fr_843 := FR.w hk_837 hf_817 (k := 2176) rfl
                  have lk_844 := l2_at (g0 := g_f) eg_841 (by omega) (by omega)
                  have ag_845 := ag_799.st eg_841 (by omega) (by omega)
                  try simp only [Int32.reduceToInt] at lk_844
                  refine v_goto hC dX12_readLoss_190 (tgt := 258) (by decide) ?_
                  refine v_aload_n hC dX12_readLoss_258 rfl ?_
                  refine v_vv hC (rest := []) m_1 hf_842 rfl mi_X12_ends ms_X12_ends (p_X12_ends hW_839 k_0) mx_X12_ends ml_X12_178 (by decide) rfl (cells1 := 0) (slots1 := 0) (by decide) (by decide) (Nat.le_of_ble_eq_true rfl) (Nat.le_of_ble_eq_true rfl) rfl (Nat.le_of_ble_eq_true rfl) dX12_readLoss_259 (fun L_847 f_848 h_849 => ?_)
                  obtain ⟨rfl, hW_851, hF_852, -, -, -, -, x_850⟩ := h_849
                  have fe_853 : fld (f_835 a_0) 8 = (v_822 : Int32).toInt := by rw [hf_842]; rfl
                  have fe_854 : fld (f_835 a_0) 10 = (v_824 : Int32).toInt := by rw [hf_842]; rfl
                  have fe_855 : fld (f_835 a_0) 12 = (v_826 : Int32).toInt := by rw [hf_842]; rfl
                  have hf_856 := hF_852.at hf_836 rfl
                  obtain ⟨v_858, v_859, v_860, v_861, v_862, v_863, v_864, v_865, v_866, v_867, v_868, e_857, -, -, -, -, -, -, -⟩ := hW_851.at m_1 t_2
                  have fe_869 : fld (f_848 a_0) 8 = (v_861 : Int32).toInt := by rw [e_857]; rfl
                  have fe_870 : fld (f_848 a_0) 9 = (v_862 : Int32).toInt := by rw [e_857]; rfl
                  have fe_871 : fld (f_848 a_0) 10 = (v_863 : Int32).toInt := by rw [e_857]; rfl
                  have fe_872 : fld (f_848 a_0) 12 = (v_865 : Int32).toInt := by rw [e_857]; rfl
                  rw [fe_872, fe_855, fe_854, fe_853, fe_870, fe_869, fe_871] at x_850
                  have nb_873 : ¬ (v_865 : Int32).toInt = 0 := x_850.elim id (fun h9 => absurd h9.1 nb_834)
                  clear x_850
                  clear fe_853 fe_854 fe_855 fe_869 fe_870 fe_871 fe_872
                  refine v_aload_n hC dX12_readLoss_262 rfl ?_
                  refine v_get hC fl_X12_34 m_1 e_857 rfl dX12_readLoss_263 ?_
                  refine v_bipush hC dX12_readLoss_266 (v := 6) (by decide) ?_
                  refine v_dup2 hC dX12_readLoss_268 rfl rfl ?_
                  have l6_874 : (g_838 6).toInt = (g_f 6).toInt := congrArg Int32.toInt ag_845.2.1
                  refine v_iald hC m_22 hf_856 (vp_in_iff.mpr (by decide)) (v := g_838 6) rfl dX12_readLoss_269 ?_
                  refine v_iconst hC dX12_readLoss_270 (v := 1) (by decide) ?_
                  obtain ⟨v_875, h_876⟩ : ∃ v9 : Int32, (g_838 6) + 1 = v9 := ⟨_, rfl⟩
                  refine v_iadd hC dX12_readLoss_271 h_876 ?_
                  have h_877 := add_v h_876 (by first | omega | (simp only [Int32.lt_iff_toInt_lt, Int32.le_iff_toInt_le, Int32.reduceToInt, ← Int32.toInt_inj, true_and, and_true, or_true, true_or, false_or, or_false, false_and, and_false, not_true_eq_false, not_false_eq_true] <;> omega)) (by first | omega | (simp only [Int32.lt_iff_toInt_lt, Int32.le_iff_toInt_le, Int32.reduceToInt, ← Int32.toInt_inj, true_and, and_true, or_true, true_or, false_or, or_false, false_and, and_false, not_true_eq_false, not_false_eq_true] <;> omega))
                  try simp only [Int32.reduceToInt] at h_877
                  refine v_iast hC m_22 hf_856 (vp_in_iff.mpr (by decide)) dX12_readLoss_272 (fun f_878 hf_879 hk_880 => ?_)
                  have hW_882 := hW_851.up hf_879 hk_880 t_23 ⟨_, rfl, (ok_840.up (i := 6) (by decide) (fun q1 q2 => absurd (And.intro q1 q2) (by decide)) (fun k9 q1 q2 q3 => by simp only [Int32.reduceToInt] at q3; omega))⟩
                  obtain ⟨g_881, hf_879, ok_883, eg_884⟩ : ∃ g9, f_878 (q 14) = aI E 2076 g9 ∧ FOK g9 ∧ g9 = upd g_838 (6 : Int32).toNatClampNeg v_875 := ⟨_, hf_879, (ok_840.up (i := 6) (by decide) (fun q1 q2 => absurd (And.intro q1 q2) (by decide)) (fun k9 q1 q2 q3 => by simp only [Int32.reduceToInt] at q3; omega)), rfl⟩
                  have hf_885 := (hk_880 a_0 (ne_kd e_857 hf_856 rfl)).trans e_857
                  have fr_886 := FR.w hk_880 hf_856 (k := 2176) rfl
                  have ln6_887 := FOK.n6 ag_845.1 eg_884
                  have ln6_887_t : (g_881 6).toInt = v_875.toInt := congrArg Int32.toInt ln6_887.2
                  have fe_888 : fld (f_878 a_0) 12 = (v_865 : Int32).toInt := by rw [hf_885]; rfl
                  have fe_889 : fld (f_878 a_0) 8 = (v_861 : Int32).toInt := by rw [hf_885]; rfl
                  have fe_890 : fld (f_878 a_0) 12 = (v_865 : Int32).toInt := by rw [hf_885]; rfl
                  exact hR _ _ _ _ _ _ dX12_readLoss_273 (Nat.le_of_ble_eq_true rfl) (Nat.le_of_ble_eq_true rfl) ⟨rfl, hW_882, ((((((((hF_93.tr fr_755).tr hF_767).tr fr_797).tr hF_814).tr fr_843).tr hF_852).tr fr_886).mono rfl), ⟨_, hf_879, ln6_887.1, (by omega), (by rw [fe_888]; exact .inl nb_873)⟩, (by simp only [fe_889, fe_890, mz_36, mz_37]; exact .inl nb_873)⟩
                · simp only [Int32.lt_iff_toInt_lt, Int32.le_iff_toInt_le, Int32.reduceToInt, ← Int32.toInt_inj] at h_742
                  have nb_744 : (1 ≤ r_733.toInt ∧ r_733.toInt ≤ 1) := by omega
                  have g0_745 := gd_t x_738 h_742
                  clear x_738
                  have gz_746 := x_91.symm.trans g0_745
                  refine v_aload_n hC dX12_readLoss_131 rfl ?_
                  refine v_vv hC (rest := []) m_1 e_99 rfl mi_X12_advance ms_X12_advance (p_X12_advance hW_92 k_0) mx_X12_advance ml_X12_156 (by decide) rfl (cells1 := 0) (slots1 := 0) (by decide) (by decide) (Nat.le_of_ble_eq_true rfl) (Nat.le_of_ble_eq_true rfl) rfl (Nat.le_of_ble_eq_true rfl) dX12_readLoss_132 (fun L_892 f_893 h_894 => ?_)
                  obtain ⟨rfl, hW_898, hF_899, x_895, x_896, x_897, -⟩ := h_894
                  have fe_900 : fld (f_87 a_0) 8 = (v_103 : Int32).toInt := by rw [e_99]; rfl
                  have fe_901 : fld (f_87 a_0) 12 = (v_107 : Int32).toInt := by rw [e_99]; rfl
                  have hf_902 := hF_899.at hf_98 rfl
                  obtain ⟨v_904, v_905, v_906, v_907, v_908, v_909, v_910, v_911, v_912, v_913, v_914, e_903, -, -, -, -, -, -, -⟩ := hW_898.at m_1 t_2
                  have fe_915 : fld (f_893 a_0) 8 = (v_907 : Int32).toInt := by rw [e_903]; rfl
                  have fe_916 : fld (f_893 a_0) 9 = (v_908 : Int32).toInt := by rw [e_903]; rfl
                  have fe_917 : fld (f_893 a_0) 10 = (v_909 : Int32).toInt := by rw [e_903]; rfl
                  have fe_918 : fld (f_893 a_0) 12 = (v_911 : Int32).toInt := by rw [e_903]; rfl
                  rw [fe_900, fe_916, fe_915] at x_895
                  rw [fe_917, fe_916, fe_915] at x_896
                  rw [fe_918, fe_901] at x_897
                  clear fe_900 fe_901 fe_915 fe_916 fe_917 fe_918
                  refine v_aload_n hC dX12_readLoss_135 rfl ?_
                  refine v_get hC fl_X12_34 m_1 e_903 rfl dX12_readLoss_136 ?_
                  refine v_iload_n hC dX12_readLoss_139 rfl ?_
                  refine v_iload_n hC dX12_readLoss_140 rfl ?_
                  refine v_if_eq_t hC dX12_readLoss_141 (tgt := 148) (by decide) (by first | omega | (simp only [Int32.lt_iff_toInt_lt, Int32.le_iff_toInt_le, Int32.reduceToInt, ← Int32.toInt_inj, true_and, and_true, or_true, true_or, false_or, or_false, false_and, and_false, not_true_eq_false, not_false_eq_true] <;> omega)) ?_
                  refine v_iconst hC dX12_readLoss_148 (v := 0) (by decide) ?_
                  refine v_iast hC m_22 hf_902 (vp_in_iff.mpr (by first | omega | (simp only [Int32.lt_iff_toInt_lt, Int32.le_iff_toInt_le, Int32.reduceToInt, ← Int32.toInt_inj, true_and, and_true, or_true, true_or, false_or, or_false, false_and, and_false, not_true_eq_false, not_false_eq_true] <;> omega))) dX12_readLoss_149 (fun f_919 hf_920 hk_921 => ?_)
                  have hW_923 := hW_898.up hf_920 hk_921 t_23 ⟨_, rfl, (o_f.up (by first | omega | (simp only [Int32.lt_iff_toInt_lt, Int32.le_iff_toInt_le, Int32.reduceToInt, ← Int32.toInt_inj, true_and, and_true, or_true, true_or, false_or, or_false, false_and, and_false, not_true_eq_false, not_false_eq_true] <;> omega)) (fun q1 q2 => (by first | omega | (simp only [Int32.lt_iff_toInt_lt, Int32.le_iff_toInt_le, Int32.reduceToInt, ← Int32.toInt_inj] at *; omega))) (fun k9 q1 q2 q3 => (by first | omega | (simp only [Int32.lt_iff_toInt_lt, Int32.le_iff_toInt_le, Int32.reduceToInt, ← Int32.toInt_inj] at *; omega))))⟩
                  obtain ⟨g_922, hf_920, ok_924, eg_925⟩ : ∃ g9, f_919 (q 14) = aI E 2076 g9 ∧ FOK g9 ∧ g9 = upd g_f (v_41 : Int32).toNatClampNeg 0 := ⟨_, hf_920, (o_f.up (by first | omega | (simp only [Int32.lt_iff_toInt_lt, Int32.le_iff_toInt_le, Int32.reduceToInt, ← Int32.toInt_inj, true_and, and_true, or_true, true_or, false_or, or_false, false_and, and_false, not_true_eq_false, not_false_eq_true] <;> omega)) (fun q1 q2 => (by first | omega | (simp only [Int32.lt_iff_toInt_lt, Int32.le_iff_toInt_le, Int32.reduceToInt, ← Int32.toInt_inj] at *; omega))) (fun k9 q1 q2 q3 => (by first | omega | (simp only [Int32.lt_iff_toInt_lt, Int32.le_iff_toInt_le, Int32.reduceToInt, ← Int32.toInt_inj] at *; omega)))), rfl⟩
                  have hf_926 := (hk_921 a_0 (ne_kd e_903 hf_902 rfl)).trans e_903
                  have fr_927 := FR.w hk_921 hf_902 (k := 2176) rfl
                  have lk_928 := lk_at (g0 := g_f) eg_925 (by omega) (by omega)
                  have ag_929 := (AG.rf o_f).st eg_925 (by omega) (by omega)
                  try simp only [Int32.reduceToInt] at lk_928
                  refine v_aload_n hC dX12_readLoss_150 rfl ?_
                  refine v_get hC fl_X12_34 m_1 hf_926 rfl dX12_readLoss_151 ?_
                  refine v_iload_n hC dX12_readLoss_154 rfl ?_
                  refine v_iconst hC dX12_readLoss_155 (v := 1) (by decide) ?_
                  obtain ⟨v_930, h_931⟩ : ∃ v9 : Int32, v_41 + 1 = v9 := ⟨_, rfl⟩
                  refine v_iadd hC dX12_readLoss_156 h_931 ?_
                  have h_932 := add_v h_931 (by first | omega | (simp only [Int32.lt_iff_toInt_lt, Int32.le_iff_toInt_le, Int32.reduceToInt, ← Int32.toInt_inj, true_and, and_true, or_true, true_or, false_or, or_false, false_and, and_false, not_true_eq_false, not_false_eq_true] <;> omega)) (by first | omega | (simp only [Int32.lt_iff_toInt_lt, Int32.le_iff_toInt_le, Int32.reduceToInt, ← Int32.toInt_inj, true_and, and_true, or_true, true_or, false_or, or_false, false_and, and_false, not_true_eq_false, not_false_eq_true] <;> omega))
                  try simp only [Int32.reduceToInt] at h_932
                  refine v_aload_n hC dX12_readLoss_157 rfl ?_
                  refine v_iconst hC dX12_readLoss_158 (v := 0) (by decide) ?_
                  refine v_bipush hC dX12_readLoss_159 (v := 15) (by decide) ?_
                  refine v_vi hC (rest := [.int v_930, .ref (q 14)]) m_1 hf_926 rfl mi_X12_number ms_X12_number (p_X12_number hW_923 k_0) mx_X12_number ml_X12_170 (by decide) rfl (cells1 := 0) (slots1 := 0) (by decide) (by decide) (Nat.le_of_ble_eq_true rfl) (Nat.le_of_ble_eq_true rfl) rfl (Nat.le_of_ble_eq_true rfl) dX12_readLoss_161 (fun r_933 L_934 f_935 h_936 => ?_)
                  obtain ⟨rfl, hW_938, hF_939, -, -, -, -, -, x_937⟩ := h_936
                  have fe_940 : fld (f_919 a_0) 8 = (v_907 : Int32).toInt := by rw [hf_926]; rfl
                  have fe_941 : fld (f_919 a_0) 10 = (v_909 : Int32).toInt := by rw [hf_926]; rfl
                  have fe_942 : fld (f_919 a_0) 12 = (v_911 : Int32).toInt := by rw [hf_926]; rfl
                  have hf_943 := hF_939.at hf_920 rfl
                  obtain ⟨v_945, v_946, v_947, v_948, v_949, v_950, v_951, v_952, v_953, v_954, v_955, e_944, -, -, -, -, -, -, -⟩ := hW_938.at m_1 t_2
                  have fe_956 : fld (f_935 a_0) 8 = (v_948 : Int32).toInt := by rw [e_944]; rfl
                  have fe_957 : fld (f_935 a_0) 9 = (v_949 : Int32).toInt := by rw [e_944]; rfl
                  have fe_958 : fld (f_935 a_0) 10 = (v_950 : Int32).toInt := by rw [e_944]; rfl
                  have fe_959 : fld (f_935 a_0) 12 = (v_952 : Int32).toInt := by rw [e_944]; rfl
                  rw [fe_959, fe_942, fe_941, fe_940, fe_957, fe_956, fe_958] at x_937
                  clear fe_940 fe_941 fe_942 fe_956 fe_957 fe_958 fe_959
                  try simp only [Int32.reduceToInt, Int64.reduceToInt] at x_937
                  refine v_iast hC m_22 hf_943 (vp_in_iff.mpr (by first | omega | (simp only [Int32.lt_iff_toInt_lt, Int32.le_iff_toInt_le, Int32.reduceToInt, ← Int32.toInt_inj, true_and, and_true, or_true, true_or, false_or, or_false, false_and, and_false, not_true_eq_false, not_false_eq_true] <;> omega))) dX12_readLoss_164 (fun f_960 hf_961 hk_962 => ?_)
                  have hW_964 := hW_938.up hf_961 hk_962 t_23 ⟨_, rfl, (ok_924.up (by first | omega | (simp only [Int32.lt_iff_toInt_lt, Int32.le_iff_toInt_le, Int32.reduceToInt, ← Int32.toInt_inj, true_and, and_true, or_true, true_or, false_or, or_false, false_and, and_false, not_true_eq_false, not_false_eq_true] <;> omega)) (fun q1 q2 => (by first | omega | (simp only [Int32.lt_iff_toInt_lt, Int32.le_iff_toInt_le, Int32.reduceToInt, ← Int32.toInt_inj] at *; omega))) (fun k9 q1 q2 q3 => (by first | omega | (simp only [Int32.lt_iff_toInt_lt, Int32.le_iff_toInt_le, Int32.reduceToInt, ← Int32.toInt_inj] at *; omega))))⟩
                  obtain ⟨g_963, hf_961, ok_965, eg_966⟩ : ∃ g9, f_960 (q 14) = aI E 2076 g9 ∧ FOK g9 ∧ g9 = upd g_922 (v_930 : Int32).toNatClampNeg r_933 := ⟨_, hf_961, (ok_924.up (by first | omega | (simp only [Int32.lt_iff_toInt_lt, Int32.le_iff_toInt_le, Int32.reduceToInt, ← Int32.toInt_inj, true_and, and_true, or_true, true_or, false_or, or_false, false_and, and_false, not_true_eq_false, not_false_eq_true] <;> omega)) (fun q1 q2 => (by first | omega | (simp only [Int32.lt_iff_toInt_lt, Int32.le_iff_toInt_le, Int32.reduceToInt, ← Int32.toInt_inj] at *; omega))) (fun k9 q1 q2 q3 => (by first | omega | (simp only [Int32.lt_iff_toInt_lt, Int32.le_iff_toInt_le, Int32.reduceToInt, ← Int32.toInt_inj] at *; omega)))), rfl⟩
                  have hf_967 := (hk_962 a_0 (ne_kd e_944 hf_943 rfl)).trans e_944
                  have fr_968 := FR.w hk_962 hf_943 (k := 2176) rfl
                  have lk_969 := lf_at (g0 := g_f) eg_966 (by omega) (by omega)
                  have ag_970 := ag_929.st eg_966 (by omega) (by omega)
                  try simp only [Int32.reduceToInt] at lk_969
                  refine v_aload_n hC dX12_readLoss_165 rfl ?_
                  refine v_get hC fl_X12_34 m_1 hf_967 rfl dX12_readLoss_166 ?_
                  refine v_iload_n hC dX12_readLoss_169 rfl ?_
                  refine v_iconst hC dX12_readLoss_170 (v := 2) (by decide) ?_
                  obtain ⟨v_971, h_972⟩ : ∃ v9 : Int32, v_41 + 2 = v9 := ⟨_, rfl⟩
                  refine v_iadd hC dX12_readLoss_171 h_972 ?_
                  have h_973 := add_v h_972 (by first | omega | (simp only [Int32.lt_iff_toInt_lt, Int32.le_iff_toInt_le, Int32.reduceToInt, ← Int32.toInt_inj, true_and, and_true, or_true, true_or, false_or, or_false, false_and, and_false, not_true_eq_false, not_false_eq_true] <;> omega)) (by first | omega | (simp only [Int32.lt_iff_toInt_lt, Int32.le_iff_toInt_le, Int32.reduceToInt, ← Int32.toInt_inj, true_and, and_true, or_true, true_or, false_or, or_false, false_and, and_false, not_true_eq_false, not_false_eq_true] <;> omega))
                  try simp only [Int32.reduceToInt] at h_973
                  refine v_aload_n hC dX12_readLoss_172 rfl ?_
                  refine v_ldcwS hC sr_X12_295 dX12_readLoss_173 ?_
                  refine v_aload_n hC dX12_readLoss_176 rfl ?_
                  refine v_get hC fl_X12_34 m_1 hf_967 rfl dX12_readLoss_177 ?_
                  refine v_iload_n hC dX12_readLoss_180 rfl ?_
                  refine v_iconst hC dX12_readLoss_181 (v := 1) (by decide) ?_
                  obtain ⟨v_974, h_975⟩ : ∃ v9 : Int32, v_41 + 1 = v9 := ⟨_, rfl⟩
                  refine v_iadd hC dX12_readLoss_182 h_975 ?_
                  have h_976 := add_v h_975 (by first | omega | (simp only [Int32.lt_iff_toInt_lt, Int32.le_iff_toInt_le, Int32.reduceToInt, ← Int32.toInt_inj, true_and, and_true, or_true, true_or, false_or, or_false, false_and, and_false, not_true_eq_false, not_false_eq_true] <;> omega)) (by first | omega | (simp only [Int32.lt_iff_toInt_lt, Int32.le_iff_toInt_le, Int32.reduceToInt, ← Int32.toInt_inj, true_and, and_true, or_true, true_or, false_or, or_false, false_and, and_false, not_true_eq_false, not_false_eq_true] <;> omega))
                  try simp only [Int32.reduceToInt] at h_976
                  obtain ⟨v_977, h_978⟩ : ∃ v9 : Int32, g_963 (v_974 : Int32).toNatClampNeg = v9 := ⟨_, rfl⟩
                  refine v_iald hC m_22 hf_961 (vp_in_iff.mpr (by first | omega | (simp only [Int32.lt_iff_toInt_lt, Int32.le_iff_toInt_le, Int32.reduceToInt, ← Int32.toInt_inj, true_and, and_true, or_true, true_or, false_or, or_false, false_and, and_false, not_true_eq_false, not_false_eq_true] <;> omega))) h_978 dX12_readLoss_183 ?_
                  refine v_bipush hC dX12_readLoss_184 (v := 15) (by decide) ?_
                  refine v_vi hC (rest := [.int v_971, .ref (q 14)]) m_1 hf_967 rfl mi_X12_told ms_X12_told (p_X12_told hW_964 k_0 (by decide)) mx_X12_told ml_X12_189 (by decide) rfl (cells1 := 0) (slots1 := 0) (by decide) (by decide) (Nat.le_of_ble_eq_true rfl) (Nat.le_of_ble_eq_true rfl) rfl (Nat.le_of_ble_eq_true rfl) dX12_readLoss_186 (fun r_979 L_980 f_981 h_982 => ?_)
                  obtain ⟨rfl, hW_984, hF_985, -, -, -, -, -, x_983⟩ := h_982
                  have fe_986 : fld (f_960 a_0) 8 = (v_948 : Int32).toInt := by rw [hf_967]; rfl
                  have fe_987 : fld (f_960 a_0) 12 = (v_952 : Int32).toInt := by rw [hf_967]; rfl
                  have hf_988 := hF_985.at hf_961 rfl
                  obtain ⟨v_990, v_991, v_992, v_993, v_994, v_995, v_996, v_997, v_998, v_999, v_1000, e_989, -, -, -, -, -, -, -⟩ := hW_984.at m_1 t_2
                  have fe_1001 : fld (f_981 a_0) 8 = (v_993 : Int32).toInt := by rw [e_989]; rfl
                  have fe_1002 : fld (f_981 a_0) 9 = (v_994 : Int32).toInt := by rw [e_989]; rfl
                  have fe_1003 : fld (f_981 a_0) 10 = (v_995 : Int32).toInt := by rw [e_989]; rfl
                  have fe_1004 : fld (f_981 a_0) 12 = (v_997 : Int32).toInt := by rw [e_989]; rfl
                  rw [fe_1004, fe_987, fe_986, fe_1002, fe_1001, fe_1003] at x_983
                  clear fe_986 fe_987 fe_1001 fe_1002 fe_1003 fe_1004
                  try simp only [Int32.reduceToInt, Int64.reduceToInt] at x_983
                  refine v_iast hC m_22 hf_988 (vp_in_iff.mpr (by first | omega | (simp only [Int32.lt_iff_toInt_lt, Int32.le_iff_toInt_le, Int32.reduceToInt, ← Int32.toInt_inj, true_and, and_true, or_true, true_or, false_or, or_false, false_and, and_false, not_true_eq_false, not_false_eq_true] <;> omega))) dX12_readLoss_189 (fun f_1005 hf_1006 hk_1007 => ?_)
                  have hW_1009 := hW_984.up hf_1006 hk_1007 t_23 ⟨_, rfl, (ok_965.up (by first | omega | (simp only [Int32.lt_iff_toInt_lt, Int32.le_iff_toInt_le, Int32.reduceToInt, ← Int32.toInt_inj, true_and, and_true, or_true, true_or, false_or, or_false, false_and, and_false, not_true_eq_false, not_false_eq_true] <;> omega)) (fun q1 q2 => (by first | omega | (simp only [Int32.lt_iff_toInt_lt, Int32.le_iff_toInt_le, Int32.reduceToInt, ← Int32.toInt_inj] at *; omega))) (fun k9 q1 q2 q3 => (by first | omega | (simp only [Int32.lt_iff_toInt_lt, Int32.le_iff_toInt_le, Int32.reduceToInt, ← Int32.toInt_inj] at *; omega))))⟩
                  obtain ⟨g_1008, hf_1006, ok_1010, eg_1011⟩ : ∃ g9, f_1005 (q 14) = aI E 2076 g9 ∧ FOK g9 ∧ g9 = upd g_963 (v_971 : Int32).toNatClampNeg r_979 := ⟨_, hf_1006, (ok_965.up (by first | omega | (simp only [Int32.lt_iff_toInt_lt, Int32.le_iff_toInt_le, Int32.reduceToInt, ← Int32.toInt_inj, true_and, and_true, or_true, true_or, false_or, or_false, false_and, and_false, not_true_eq_false, not_false_eq_true] <;> omega)) (fun q1 q2 => (by first | omega | (simp only [Int32.lt_iff_toInt_lt, Int32.le_iff_toInt_le, Int32.reduceToInt, ← Int32.toInt_inj] at *; omega))) (fun k9 q1 q2 q3 => (by first | omega | (simp only [Int32.lt_iff_toInt_lt, Int32.le_iff_toInt_le, Int32.reduceToInt, ← Int32.toInt_inj] at *; omega)))), rfl⟩
                  have hf_1012 := (hk_1007 a_0 (ne_kd e_989 hf_988 rfl)).trans e_989
                  have fr_1013 := FR.w hk_1007 hf_988 (k := 2176) rfl
                  have lk_1014 := l2_at (g0 := g_f) eg_1011 (by omega) (by omega)
                  have ag_1015 := ag_970.st eg_1011 (by omega) (by omega)
                  try simp only [Int32.reduceToInt] at lk_1014
                  refine v_goto hC dX12_readLoss_190 (tgt := 258) (by decide) ?_
                  refine v_aload_n hC dX12_readLoss_258 rfl ?_
                  refine v_vv hC (rest := []) m_1 hf_1012 rfl mi_X12_ends ms_X12_ends (p_X12_ends hW_1009 k_0) mx_X12_ends ml_X12_178 (by decide) rfl (cells1 := 0) (slots1 := 0) (by decide) (by decide) (Nat.le_of_ble_eq_true rfl) (Nat.le_of_ble_eq_true rfl) rfl (Nat.le_of_ble_eq_true rfl) dX12_readLoss_259 (fun L_1017 f_1018 h_1019 => ?_)
                  obtain ⟨rfl, hW_1021, hF_1022, -, -, -, -, x_1020⟩ := h_1019
                  have fe_1023 : fld (f_1005 a_0) 8 = (v_993 : Int32).toInt := by rw [hf_1012]; rfl
                  have fe_1024 : fld (f_1005 a_0) 10 = (v_995 : Int32).toInt := by rw [hf_1012]; rfl
                  have fe_1025 : fld (f_1005 a_0) 12 = (v_997 : Int32).toInt := by rw [hf_1012]; rfl
                  have hf_1026 := hF_1022.at hf_1006 rfl
                  obtain ⟨v_1028, v_1029, v_1030, v_1031, v_1032, v_1033, v_1034, v_1035, v_1036, v_1037, v_1038, e_1027, -, -, -, -, -, -, -⟩ := hW_1021.at m_1 t_2
                  have fe_1039 : fld (f_1018 a_0) 8 = (v_1031 : Int32).toInt := by rw [e_1027]; rfl
                  have fe_1040 : fld (f_1018 a_0) 9 = (v_1032 : Int32).toInt := by rw [e_1027]; rfl
                  have fe_1041 : fld (f_1018 a_0) 10 = (v_1033 : Int32).toInt := by rw [e_1027]; rfl
                  have fe_1042 : fld (f_1018 a_0) 12 = (v_1035 : Int32).toInt := by rw [e_1027]; rfl
                  rw [fe_1042, fe_1025, fe_1024, fe_1023, fe_1040, fe_1039, fe_1041] at x_1020
                  clear fe_1023 fe_1024 fe_1025 fe_1039 fe_1040 fe_1041 fe_1042
                  refine v_aload_n hC dX12_readLoss_262 rfl ?_
                  refine v_get hC fl_X12_34 m_1 e_1027 rfl dX12_readLoss_263 ?_
                  refine v_bipush hC dX12_readLoss_266 (v := 6) (by decide) ?_
                  refine v_dup2 hC dX12_readLoss_268 rfl rfl ?_
                  have l6_1043 : (g_1008 6).toInt = (g_f 6).toInt := congrArg Int32.toInt ag_1015.2.1
                  refine v_iald hC m_22 hf_1026 (vp_in_iff.mpr (by decide)) (v := g_1008 6) rfl dX12_readLoss_269 ?_
                  refine v_iconst hC dX12_readLoss_270 (v := 1) (by decide) ?_
                  obtain ⟨v_1044, h_1045⟩ : ∃ v9 : Int32, (g_1008 6) + 1 = v9 := ⟨_, rfl⟩
                  refine v_iadd hC dX12_readLoss_271 h_1045 ?_
                  have h_1046 := add_v h_1045 (by first | omega | (simp only [Int32.lt_iff_toInt_lt, Int32.le_iff_toInt_le, Int32.reduceToInt, ← Int32.toInt_inj, true_and, and_true, or_true, true_or, false_or, or_false, false_and, and_false, not_true_eq_false, not_false_eq_true] <;> omega)) (by first | omega | (simp only [Int32.lt_iff_toInt_lt, Int32.le_iff_toInt_le, Int32.reduceToInt, ← Int32.toInt_inj, true_and, and_true, or_true, true_or, false_or, or_false, false_and, and_false, not_true_eq_false, not_false_eq_true] <;> omega))
                  try simp only [Int32.reduceToInt] at h_1046
                  refine v_iast hC m_22 hf_1026 (vp_in_iff.mpr (by decide)) dX12_readLoss_272 (fun f_1047 hf_1048 hk_1049 => ?_)
                  have hW_1051 := hW_1021.up hf_1048 hk_1049 t_23 ⟨_, rfl, (ok_1010.up (i := 6) (by decide) (fun q1 q2 => absurd (And.intro q1 q2) (by decide)) (fun k9 q1 q2 q3 => by simp only [Int32.reduceToInt] at q3; omega))⟩
                  obtain ⟨g_1050, hf_1048, ok_1052, eg_1053⟩ : ∃ g9, f_1047 (q 14) = aI E 2076 g9 ∧ FOK g9 ∧ g9 = upd g_1008 (6 : Int32).toNatClampNeg v_1044 := ⟨_, hf_1048, (ok_1010.up (i := 6) (by decide) (fun q1 q2 => absurd (And.intro q1 q2) (by decide)) (fun k9 q1 q2 q3 => by simp only [Int32.reduceToInt] at q3; omega)), rfl⟩
                  have hf_1054 := (hk_1049 a_0 (ne_kd e_1027 hf_1026 rfl)).trans e_1027
                  have fr_1055 := FR.w hk_1049 hf_1026 (k := 2176) rfl
                  have ln6_1056 := FOK.n6 ag_1015.1 eg_1053
                  have ln6_1056_t : (g_1050 6).toInt = v_1044.toInt := congrArg Int32.toInt ln6_1056.2
                  have fe_1057 : fld (f_1047 a_0) 12 = (v_1035 : Int32).toInt := by rw [hf_1054]; rfl
                  have fe_1062 : fld (f_1047 a_0) 8 = (v_1031 : Int32).toInt := by rw [hf_1054]; rfl
                  have fe_1063 : fld (f_1047 a_0) 12 = (v_1035 : Int32).toInt := by rw [hf_1054]; rfl
                  exact hR _ _ _ _ _ _ dX12_readLoss_273 (Nat.le_of_ble_eq_true rfl) (Nat.le_of_ble_eq_true rfl) ⟨rfl, hW_1051, (((((((((hF_93.tr hF_899).tr fr_927).tr hF_939).tr fr_968).tr hF_985).tr fr_1013).tr hF_1022).tr fr_1055).mono rfl), ⟨_, hf_1048, ln6_1056.1, (by omega), (by rw [fe_1057]; by_cases q9 : v_1035.toInt = 0; have gp_1058 := x_1020.resolve_left (fun h9 => h9 q9); clear x_1020; have gp_1059 := x_983.resolve_left (fun h9 => h9 gp_1058.1); clear x_983; have gp_1060 := x_937.resolve_left (fun h9 => h9 gp_1059.1); clear x_937; have gz_1061 := x_897.symm.trans gp_1060.1; exact .inr (LO.fin hLO ag_1015 eg_1053 (by omega) (by omega) (fun q8 => by omega)); exact .inl q9)⟩, (by simp only [fe_1062, fe_1063, mz_36, mz_37]; by_cases q9 : (v_1035 : Int32).toInt = 0; have gp_1064 := x_1020.resolve_left (fun h9 => h9 q9); clear x_1020; have gp_1065 := x_983.resolve_left (fun h9 => h9 gp_1064.1); clear x_983; have gp_1066 := x_937.resolve_left (fun h9 => h9 gp_1065.1); clear x_937; have gz_1067 := x_897.symm.trans gp_1066.1; (right; omega); exact .inl q9)⟩
              · simp only [Int32.lt_iff_toInt_lt, Int32.le_iff_toInt_le, Int32.reduceToInt, ← Int32.toInt_inj] at h_732
                refine v_aload_n hC dX12_readLoss_119 rfl ?_
                refine v_iconst hC dX12_readLoss_120 (v := 1) (by decide) ?_
                refine v_vv hC (rest := []) m_1 e_99 rfl mi_X12_errs ms_X12_errs (p_X12_errs hW_92 k_0 (by decide)) mx_X12_errs ml_X12_162 (by decide) rfl (cells1 := 0) (slots1 := 0) (by decide) (by decide) (Nat.le_of_ble_eq_true rfl) (Nat.le_of_ble_eq_true rfl) rfl (Nat.le_of_ble_eq_true rfl) dX12_readLoss_121 (fun L_1069 f_1070 h_1071 => ?_)
                obtain ⟨rfl, hW_1074, hF_1075, x_1072, x_1073, -, -, -⟩ := h_1071
                have fe_1076 : fld (f_87 a_0) 8 = (v_103 : Int32).toInt := by rw [e_99]; rfl
                have hf_1077 := hF_1075.at hf_98 rfl
                obtain ⟨v_1079, v_1080, v_1081, v_1082, v_1083, v_1084, v_1085, v_1086, v_1087, v_1088, v_1089, e_1078, -, -, -, -, -, -, -⟩ := hW_1074.at m_1 t_2
                have fe_1090 : fld (f_1070 a_0) 8 = (v_1082 : Int32).toInt := by rw [e_1078]; rfl
                have fe_1091 : fld (f_1070 a_0) 12 = (v_1086 : Int32).toInt := by rw [e_1078]; rfl
                rw [fe_1091] at x_1072
                rw [fe_1090, fe_1076] at x_1073
                clear x_91
                clear fe_1076 fe_1090 fe_1091
                refine v_aload_n hC dX12_readLoss_124 rfl ?_
                refine v_vi hC (rest := []) m_1 e_1078 rfl mi_X12_good ms_X12_good (p_X12_good hW_1074 k_0) mx_X12_good ml_X12_139 (by decide) rfl (cells1 := 0) (slots1 := 0) (by decide) (by decide) (Nat.le_of_ble_eq_true rfl) (Nat.le_of_ble_eq_true rfl) rfl (Nat.le_of_ble_eq_true rfl) dX12_readLoss_125 (fun r_1092 L_1093 f_1094 h_1095 => ?_)
                obtain ⟨rfl, rfl, b_1096, x_1097⟩ := h_1095
                have fe_1100 : fld (f_1070 a_0) 12 = (v_1086 : Int32).toInt := by rw [e_1078]; rfl
                rw [fe_1100] at x_1097
                clear fe_1100
                try simp only [Int32.reduceToInt, Int64.reduceToInt] at x_1097
                refine v_if_eq hC dX12_readLoss_128 (tgt := 135) (by decide) (fun h_1101 => ?_) (fun h_1101 => ?_)
                · simp only [Int32.lt_iff_toInt_lt, Int32.le_iff_toInt_le, Int32.reduceToInt, ← Int32.toInt_inj] at h_1101
                  have g0_1102 := gd_f x_1097 h_1101
                  clear x_1097
                  refine v_aload_n hC dX12_readLoss_135 rfl ?_
                  refine v_get hC fl_X12_34 m_1 e_1078 rfl dX12_readLoss_136 ?_
                  refine v_iload_n hC dX12_readLoss_139 rfl ?_
                  refine v_iload_n hC dX12_readLoss_140 rfl ?_
                  refine v_if_eq_t hC dX12_readLoss_141 (tgt := 148) (by decide) (by first | omega | (simp only [Int32.lt_iff_toInt_lt, Int32.le_iff_toInt_le, Int32.reduceToInt, ← Int32.toInt_inj, true_and, and_true, or_true, true_or, false_or, or_false, false_and, and_false, not_true_eq_false, not_false_eq_true] <;> omega)) ?_
                  refine v_iconst hC dX12_readLoss_148 (v := 0) (by decide) ?_
                  refine v_iast hC m_22 hf_1077 (vp_in_iff.mpr (by first | omega | (simp only [Int32.lt_iff_toInt_lt, Int32.le_iff_toInt_le, Int32.reduceToInt, ← Int32.toInt_inj, true_and, and_true, or_true, true_or, false_or, or_false, false_and, and_false, not_true_eq_false, not_false_eq_true] <;> omega))) dX12_readLoss_149 (fun f_1105 hf_1106 hk_1107 => ?_)
                  have hW_1109 := hW_1074.up hf_1106 hk_1107 t_23 ⟨_, rfl, (o_f.up (by first | omega | (simp only [Int32.lt_iff_toInt_lt, Int32.le_iff_toInt_le, Int32.reduceToInt, ← Int32.toInt_inj, true_and, and_true, or_true, true_or, false_or, or_false, false_and, and_false, not_true_eq_false, not_false_eq_true] <;> omega)) (fun q1 q2 => (by first | omega | (simp only [Int32.lt_iff_toInt_lt, Int32.le_iff_toInt_le, Int32.reduceToInt, ← Int32.toInt_inj] at *; omega))) (fun k9 q1 q2 q3 => (by first | omega | (simp only [Int32.lt_iff_toInt_lt, Int32.le_iff_toInt_le, Int32.reduceToInt, ← Int32.toInt_inj] at *; omega))))⟩
                  obtain ⟨g_1108, hf_1106, ok_1110, eg_1111⟩ : ∃ g9, f_1105 (q 14) = aI E 2076 g9 ∧ FOK g9 ∧ g9 = upd g_f (v_41 : Int32).toNatClampNeg 0 := ⟨_, hf_1106, (o_f.up (by first | omega | (simp only [Int32.lt_iff_toInt_lt, Int32.le_iff_toInt_le, Int32.reduceToInt, ← Int32.toInt_inj, true_and, and_true, or_true, true_or, false_or, or_false, false_and, and_false, not_true_eq_false, not_false_eq_true] <;> omega)) (fun q1 q2 => (by first | omega | (simp only [Int32.lt_iff_toInt_lt, Int32.le_iff_toInt_le, Int32.reduceToInt, ← Int32.toInt_inj] at *; omega))) (fun k9 q1 q2 q3 => (by first | omega | (simp only [Int32.lt_iff_toInt_lt, Int32.le_iff_toInt_le, Int32.reduceToInt, ← Int32.toInt_inj] at *; omega)))), rfl⟩
                  have hf_1112 := (hk_1107 a_0 (ne_kd e_1078 hf_1077 rfl)).trans e_1078
                  have fr_1113 := FR.w hk_1107 hf_1077 (k := 2176) rfl
                  have lk_1114 := lk_at (g0 := g_f) eg_1111 (by omega) (by omega)
                  have ag_1115 := (AG.rf o_f).st eg_1111 (by omega) (by omega)
                  try simp only [Int32.reduceToInt] at lk_1114
                  refine v_aload_n hC dX12_readLoss_150 rfl ?_
                  refine v_get hC fl_X12_34 m_1 hf_1112 rfl dX12_readLoss_151 ?_
                  refine v_iload_n hC dX12_readLoss_154 rfl ?_
                  refine v_iconst hC dX12_readLoss_155 (v := 1) (by decide) ?_
                  obtain ⟨v_1116, h_1117⟩ : ∃ v9 : Int32, v_41 + 1 = v9 := ⟨_, rfl⟩
                  refine v_iadd hC dX12_readLoss_156 h_1117 ?_
                  have h_1118 := add_v h_1117 (by first | omega | (simp only [Int32.lt_iff_toInt_lt, Int32.le_iff_toInt_le, Int32.reduceToInt, ← Int32.toInt_inj, true_and, and_true, or_true, true_or, false_or, or_false, false_and, and_false, not_true_eq_false, not_false_eq_true] <;> omega)) (by first | omega | (simp only [Int32.lt_iff_toInt_lt, Int32.le_iff_toInt_le, Int32.reduceToInt, ← Int32.toInt_inj, true_and, and_true, or_true, true_or, false_or, or_false, false_and, and_false, not_true_eq_false, not_false_eq_true] <;> omega))
                  try simp only [Int32.reduceToInt] at h_1118
                  refine v_aload_n hC dX12_readLoss_157 rfl ?_
                  refine v_iconst hC dX12_readLoss_158 (v := 0) (by decide) ?_
                  refine v_bipush hC dX12_readLoss_159 (v := 15) (by decide) ?_
                  refine v_vi hC (rest := [.int v_1116, .ref (q 14)]) m_1 hf_1112 rfl mi_X12_number ms_X12_number (p_X12_number hW_1109 k_0) mx_X12_number ml_X12_170 (by decide) rfl (cells1 := 0) (slots1 := 0) (by decide) (by decide) (Nat.le_of_ble_eq_true rfl) (Nat.le_of_ble_eq_true rfl) rfl (Nat.le_of_ble_eq_true rfl) dX12_readLoss_161 (fun r_1119 L_1120 f_1121 h_1122 => ?_)
                  obtain ⟨rfl, hW_1124, hF_1125, -, -, -, -, -, x_1123⟩ := h_1122
                  have fe_1126 : fld (f_1105 a_0) 8 = (v_1082 : Int32).toInt := by rw [hf_1112]; rfl
                  have fe_1127 : fld (f_1105 a_0) 10 = (v_1084 : Int32).toInt := by rw [hf_1112]; rfl
                  have fe_1128 : fld (f_1105 a_0) 12 = (v_1086 : Int32).toInt := by rw [hf_1112]; rfl
                  have hf_1129 := hF_1125.at hf_1106 rfl
                  obtain ⟨v_1131, v_1132, v_1133, v_1134, v_1135, v_1136, v_1137, v_1138, v_1139, v_1140, v_1141, e_1130, -, -, -, -, -, -, -⟩ := hW_1124.at m_1 t_2
                  have fe_1142 : fld (f_1121 a_0) 8 = (v_1134 : Int32).toInt := by rw [e_1130]; rfl
                  have fe_1143 : fld (f_1121 a_0) 9 = (v_1135 : Int32).toInt := by rw [e_1130]; rfl
                  have fe_1144 : fld (f_1121 a_0) 10 = (v_1136 : Int32).toInt := by rw [e_1130]; rfl
                  have fe_1145 : fld (f_1121 a_0) 12 = (v_1138 : Int32).toInt := by rw [e_1130]; rfl
                  rw [fe_1145, fe_1128, fe_1127, fe_1126, fe_1143, fe_1142, fe_1144] at x_1123
                  have nb_1146 : ¬ (v_1138 : Int32).toInt = 0 := x_1123.elim id (fun h9 => absurd h9.1 g0_1102)
                  clear x_1123
                  clear fe_1126 fe_1127 fe_1128 fe_1142 fe_1143 fe_1144 fe_1145
                  try simp only [Int32.reduceToInt, Int64.reduceToInt] at x_1123
                  refine v_iast hC m_22 hf_1129 (vp_in_iff.mpr (by first | omega | (simp only [Int32.lt_iff_toInt_lt, Int32.le_iff_toInt_le, Int32.reduceToInt, ← Int32.toInt_inj, true_and, and_true, or_true, true_or, false_or, or_false, false_and, and_false, not_true_eq_false, not_false_eq_true] <;> omega))) dX12_readLoss_164 (fun f_1147 hf_1148 hk_1149 => ?_)
                  have hW_1151 := hW_1124.up hf_1148 hk_1149 t_23 ⟨_, rfl, (ok_1110.up (by first | omega | (simp only [Int32.lt_iff_toInt_lt, Int32.le_iff_toInt_le, Int32.reduceToInt, ← Int32.toInt_inj, true_and, and_true, or_true, true_or, false_or, or_false, false_and, and_false, not_true_eq_false, not_false_eq_true] <;> omega)) (fun q1 q2 => (by first | omega | (simp only [Int32.lt_iff_toInt_lt, Int32.le_iff_toInt_le, Int32.reduceToInt, ← Int32.toInt_inj] at *; omega))) (fun k9 q1 q2 q3 => (by first | omega | (simp only [Int32.lt_iff_toInt_lt, Int32.le_iff_toInt_le, Int32.reduceToInt, ← Int32.toInt_inj] at *; omega))))⟩
                  obtain ⟨g_1150, hf_1148, ok_1152, eg_1153⟩ : ∃ g9, f_1147 (q 14) = aI E 2076 g9 ∧ FOK g9 ∧ g9 = upd g_1108 (v_1116 : Int32).toNatClampNeg r_1119 := ⟨_, hf_1148, (ok_1110.up (by first | omega | (simp only [Int32.lt_iff_toInt_lt, Int32.le_iff_toInt_le, Int32.reduceToInt, ← Int32.toInt_inj, true_and, and_true, or_true, true_or, false_or, or_false, false_and, and_false, not_true_eq_false, not_false_eq_true] <;> omega)) (fun q1 q2 => (by first | omega | (simp only [Int32.lt_iff_toInt_lt, Int32.le_iff_toInt_le, Int32.reduceToInt, ← Int32.toInt_inj] at *; omega))) (fun k9 q1 q2 q3 => (by first | omega | (simp only [Int32.lt_iff_toInt_lt, Int32.le_iff_toInt_le, Int32.reduceToInt, ← Int32.toInt_inj] at *; omega)))), rfl⟩
                  have hf_1154 := (hk_1149 a_0 (ne_kd e_1130 hf_1129 rfl)).trans e_1130
                  have fr_1155 := FR.w hk_1149 hf_1129 (k := 2176) rfl
                  have lk_1156 := lf_at (g0 := g_f) eg_1153 (by omega) (by omega)
                  have ag_1157 := ag_1115.st eg_1153 (by omega) (by omega)
                  try simp only [Int32.reduceToInt] at lk_1156
                  refine v_aload_n hC dX12_readLoss_165 rfl ?_
                  refine v_get hC fl_X12_34 m_1 hf_1154 rfl dX12_readLoss_166 ?_
                  refine v_iload_n hC dX12_readLoss_169 rfl ?_
                  refine v_iconst hC dX12_readLoss_170 (v := 2) (by decide) ?_
                  obtain ⟨v_1158, h_1159⟩ : ∃ v9 : Int32, v_41 + 2 = v9 := ⟨_, rfl⟩
                  refine v_iadd hC dX12_readLoss_171 h_1159 ?_
                  have h_1160 := add_v h_1159 (by first | omega | (simp only [Int32.lt_iff_toInt_lt, Int32.le_iff_toInt_le, Int32.reduceToInt, ← Int32.toInt_inj, true_and, and_true, or_true, true_or, false_or, or_false, false_and, and_false, not_true_eq_false, not_false_eq_true] <;> omega)) (by first | omega | (simp only [Int32.lt_iff_toInt_lt, Int32.le_iff_toInt_le, Int32.reduceToInt, ← Int32.toInt_inj, true_and, and_true, or_true, true_or, false_or, or_false, false_and, and_false, not_true_eq_false, not_false_eq_true] <;> omega))
                  try simp only [Int32.reduceToInt] at h_1160
                  refine v_aload_n hC dX12_readLoss_172 rfl ?_
                  refine v_ldcwS hC sr_X12_295 dX12_readLoss_173 ?_
                  refine v_aload_n hC dX12_readLoss_176 rfl ?_
                  refine v_get hC fl_X12_34 m_1 hf_1154 rfl dX12_readLoss_177 ?_
                  refine v_iload_n hC dX12_readLoss_180 rfl ?_
                  refine v_iconst hC dX12_readLoss_181 (v := 1) (by decide) ?_
                  obtain ⟨v_1161, h_1162⟩ : ∃ v9 : Int32, v_41 + 1 = v9 := ⟨_, rfl⟩
                  refine v_iadd hC dX12_readLoss_182 h_1162 ?_
                  have h_1163 := add_v h_1162 (by first | omega | (simp only [Int32.lt_iff_toInt_lt, Int32.le_iff_toInt_le, Int32.reduceToInt, ← Int32.toInt_inj, true_and, and_true, or_true, true_or, false_or, or_false, false_and, and_false, not_true_eq_false, not_false_eq_true] <;> omega)) (by first | omega | (simp only [Int32.lt_iff_toInt_lt, Int32.le_iff_toInt_le, Int32.reduceToInt, ← Int32.toInt_inj, true_and, and_true, or_true, true_or, false_or, or_false, false_and, and_false, not_true_eq_false, not_false_eq_true] <;> omega))
                  try simp only [Int32.reduceToInt] at h_1163
                  obtain ⟨v_1164, h_1165⟩ : ∃ v9 : Int32, g_1150 (v_1161 : Int32).toNatClampNeg = v9 := ⟨_, rfl⟩
                  refine v_iald hC m_22 hf_1148 (vp_in_iff.mpr (by first | omega | (simp only [Int32.lt_iff_toInt_lt, Int32.le_iff_toInt_le, Int32.reduceToInt, ← Int32.toInt_inj, true_and, and_true, or_true, true_or, false_or, or_false, false_and, and_false, not_true_eq_false, not_false_eq_true] <;> omega))) h_1165 dX12_readLoss_183 ?_
                  refine v_bipush hC dX12_readLoss_184 (v := 15) (by decide) ?_
                  refine v_vi hC (rest := [.int v_1158, .ref (q 14)]) m_1 hf_1154 rfl mi_X12_told ms_X12_told (p_X12_told hW_1151 k_0 (by decide)) mx_X12_told ml_X12_189 (by decide) rfl (cells1 := 0) (slots1 := 0) (by decide) (by decide) (Nat.le_of_ble_eq_true rfl) (Nat.le_of_ble_eq_true rfl) rfl (Nat.le_of_ble_eq_true rfl) dX12_readLoss_186 (fun r_1166 L_1167 f_1168 h_1169 => ?_)
                  obtain ⟨rfl, hW_1171, hF_1172, -, -, -, -, -, x_1170⟩ := h_1169
                  have fe_1173 : fld (f_1147 a_0) 8 = (v_1134 : Int32).toInt := by rw [hf_1154]; rfl
                  have fe_1174 : fld (f_1147 a_0) 12 = (v_1138 : Int32).toInt := by rw [hf_1154]; rfl
                  have hf_1175 := hF_1172.at hf_1148 rfl
                  obtain ⟨v_1177, v_1178, v_1179, v_1180, v_1181, v_1182, v_1183, v_1184, v_1185, v_1186, v_1187, e_1176, -, -, -, -, -, -, -⟩ := hW_1171.at m_1 t_2
                  have fe_1188 : fld (f_1168 a_0) 8 = (v_1180 : Int32).toInt := by rw [e_1176]; rfl
                  have fe_1189 : fld (f_1168 a_0) 9 = (v_1181 : Int32).toInt := by rw [e_1176]; rfl
                  have fe_1190 : fld (f_1168 a_0) 10 = (v_1182 : Int32).toInt := by rw [e_1176]; rfl
                  have fe_1191 : fld (f_1168 a_0) 12 = (v_1184 : Int32).toInt := by rw [e_1176]; rfl
                  rw [fe_1191, fe_1174, fe_1173, fe_1189, fe_1188, fe_1190] at x_1170
                  have nb_1192 : ¬ (v_1184 : Int32).toInt = 0 := x_1170.elim id (fun h9 => absurd h9.1 nb_1146)
                  clear x_1170
                  clear fe_1173 fe_1174 fe_1188 fe_1189 fe_1190 fe_1191
                  try simp only [Int32.reduceToInt, Int64.reduceToInt] at x_1170
                  refine v_iast hC m_22 hf_1175 (vp_in_iff.mpr (by first | omega | (simp only [Int32.lt_iff_toInt_lt, Int32.le_iff_toInt_le, Int32.reduceToInt, ← Int32.toInt_inj, true_and, and_true, or_true, true_or, false_or, or_false, false_and, and_false, not_true_eq_false, not_false_eq_true] <;> omega))) dX12_readLoss_189 (fun f_1193 hf_1194 hk_1195 => ?_)
                  have hW_1197 := hW_1171.up hf_1194 hk_1195 t_23 ⟨_, rfl, (ok_1152.up (by first | omega | (simp only [Int32.lt_iff_toInt_lt, Int32.le_iff_toInt_le, Int32.reduceToInt, ← Int32.toInt_inj, true_and, and_true, or_true, true_or, false_or, or_false, false_and, and_false, not_true_eq_false, not_false_eq_true] <;> omega)) (fun q1 q2 => (by first | omega | (simp only [Int32.lt_iff_toInt_lt, Int32.le_iff_toInt_le, Int32.reduceToInt, ← Int32.toInt_inj] at *; omega))) (fun k9 q1 q2 q3 => (by first | omega | (simp only [Int32.lt_iff_toInt_lt, Int32.le_iff_toInt_le, Int32.reduceToInt, ← Int32.toInt_inj] at *; omega))))⟩
                  obtain ⟨g_1196, hf_1194, ok_1198, eg_1199⟩ : ∃ g9, f_1193 (q 14) = aI E 2076 g9 ∧ FOK g9 ∧ g9 = upd g_1150 (v_1158 : Int32).toNatClampNeg r_1166 := ⟨_, hf_1194, (ok_1152.up (by first | omega | (simp only [Int32.lt_iff_toInt_lt, Int32.le_iff_toInt_le, Int32.reduceToInt, ← Int32.toInt_inj, true_and, and_true, or_true, true_or, false_or, or_false, false_and, and_false, not_true_eq_false, not_false_eq_true] <;> omega)) (fun q1 q2 => (by first | omega | (simp only [Int32.lt_iff_toInt_lt, Int32.le_iff_toInt_le, Int32.reduceToInt, ← Int32.toInt_inj] at *; omega))) (fun k9 q1 q2 q3 => (by first | omega | (simp only [Int32.lt_iff_toInt_lt, Int32.le_iff_toInt_le, Int32.reduceToInt, ← Int32.toInt_inj] at *; omega)))), rfl⟩
                  have hf_1200 := (hk_1195 a_0 (ne_kd e_1176 hf_1175 rfl)).trans e_1176
                  have fr_1201 := FR.w hk_1195 hf_1175 (k := 2176) rfl
                  have lk_1202 := l2_at (g0 := g_f) eg_1199 (by omega) (by omega)
                  have ag_1203 := ag_1157.st eg_1199 (by omega) (by omega)
                  try simp only [Int32.reduceToInt] at lk_1202
                  refine v_goto hC dX12_readLoss_190 (tgt := 258) (by decide) ?_
                  refine v_aload_n hC dX12_readLoss_258 rfl ?_
                  refine v_vv hC (rest := []) m_1 hf_1200 rfl mi_X12_ends ms_X12_ends (p_X12_ends hW_1197 k_0) mx_X12_ends ml_X12_178 (by decide) rfl (cells1 := 0) (slots1 := 0) (by decide) (by decide) (Nat.le_of_ble_eq_true rfl) (Nat.le_of_ble_eq_true rfl) rfl (Nat.le_of_ble_eq_true rfl) dX12_readLoss_259 (fun L_1205 f_1206 h_1207 => ?_)
                  obtain ⟨rfl, hW_1209, hF_1210, -, -, -, -, x_1208⟩ := h_1207
                  have fe_1211 : fld (f_1193 a_0) 8 = (v_1180 : Int32).toInt := by rw [hf_1200]; rfl
                  have fe_1212 : fld (f_1193 a_0) 10 = (v_1182 : Int32).toInt := by rw [hf_1200]; rfl
                  have fe_1213 : fld (f_1193 a_0) 12 = (v_1184 : Int32).toInt := by rw [hf_1200]; rfl
                  have hf_1214 := hF_1210.at hf_1194 rfl
                  obtain ⟨v_1216, v_1217, v_1218, v_1219, v_1220, v_1221, v_1222, v_1223, v_1224, v_1225, v_1226, e_1215, -, -, -, -, -, -, -⟩ := hW_1209.at m_1 t_2
                  have fe_1227 : fld (f_1206 a_0) 8 = (v_1219 : Int32).toInt := by rw [e_1215]; rfl
                  have fe_1228 : fld (f_1206 a_0) 9 = (v_1220 : Int32).toInt := by rw [e_1215]; rfl
                  have fe_1229 : fld (f_1206 a_0) 10 = (v_1221 : Int32).toInt := by rw [e_1215]; rfl
                  have fe_1230 : fld (f_1206 a_0) 12 = (v_1223 : Int32).toInt := by rw [e_1215]; rfl
                  rw [fe_1230, fe_1213, fe_1212, fe_1211, fe_1228, fe_1227, fe_1229] at x_1208
                  have nb_1231 : ¬ (v_1223 : Int32).toInt = 0 := x_1208.elim id (fun h9 => absurd h9.1 nb_1192)
                  clear x_1208
                  clear fe_1211 fe_1212 fe_1213 fe_1227 fe_1228 fe_1229 fe_1230
                  refine v_aload_n hC dX12_readLoss_262 rfl ?_
                  refine v_get hC fl_X12_34 m_1 e_1215 rfl dX12_readLoss_263 ?_
                  refine v_bipush hC dX12_readLoss_266 (v := 6) (by decide) ?_
                  refine v_dup2 hC dX12_readLoss_268 rfl rfl ?_
                  have l6_1232 : (g_1196 6).toInt = (g_f 6).toInt := congrArg Int32.toInt ag_1203.2.1
                  refine v_iald hC m_22 hf_1214 (vp_in_iff.mpr (by decide)) (v := g_1196 6) rfl dX12_readLoss_269 ?_
                  refine v_iconst hC dX12_readLoss_270 (v := 1) (by decide) ?_
                  obtain ⟨v_1233, h_1234⟩ : ∃ v9 : Int32, (g_1196 6) + 1 = v9 := ⟨_, rfl⟩
                  refine v_iadd hC dX12_readLoss_271 h_1234 ?_
                  have h_1235 := add_v h_1234 (by first | omega | (simp only [Int32.lt_iff_toInt_lt, Int32.le_iff_toInt_le, Int32.reduceToInt, ← Int32.toInt_inj, true_and, and_true, or_true, true_or, false_or, or_false, false_and, and_false, not_true_eq_false, not_false_eq_true] <;> omega)) (by first | omega | (simp only [Int32.lt_iff_toInt_lt, Int32.le_iff_toInt_le, Int32.reduceToInt, ← Int32.toInt_inj, true_and, and_true, or_true, true_or, false_or, or_false, false_and, and_false, not_true_eq_false, not_false_eq_true] <;> omega))
                  try simp only [Int32.reduceToInt] at h_1235
                  refine v_iast hC m_22 hf_1214 (vp_in_iff.mpr (by decide)) dX12_readLoss_272 (fun f_1236 hf_1237 hk_1238 => ?_)
                  have hW_1240 := hW_1209.up hf_1237 hk_1238 t_23 ⟨_, rfl, (ok_1198.up (i := 6) (by decide) (fun q1 q2 => absurd (And.intro q1 q2) (by decide)) (fun k9 q1 q2 q3 => by simp only [Int32.reduceToInt] at q3; omega))⟩
                  obtain ⟨g_1239, hf_1237, ok_1241, eg_1242⟩ : ∃ g9, f_1236 (q 14) = aI E 2076 g9 ∧ FOK g9 ∧ g9 = upd g_1196 (6 : Int32).toNatClampNeg v_1233 := ⟨_, hf_1237, (ok_1198.up (i := 6) (by decide) (fun q1 q2 => absurd (And.intro q1 q2) (by decide)) (fun k9 q1 q2 q3 => by simp only [Int32.reduceToInt] at q3; omega)), rfl⟩
                  have hf_1243 := (hk_1238 a_0 (ne_kd e_1215 hf_1214 rfl)).trans e_1215
                  have fr_1244 := FR.w hk_1238 hf_1214 (k := 2176) rfl
                  have ln6_1245 := FOK.n6 ag_1203.1 eg_1242
                  have ln6_1245_t : (g_1239 6).toInt = v_1233.toInt := congrArg Int32.toInt ln6_1245.2
                  have fe_1246 : fld (f_1236 a_0) 12 = (v_1223 : Int32).toInt := by rw [hf_1243]; rfl
                  have fe_1247 : fld (f_1236 a_0) 8 = (v_1219 : Int32).toInt := by rw [hf_1243]; rfl
                  have fe_1248 : fld (f_1236 a_0) 12 = (v_1223 : Int32).toInt := by rw [hf_1243]; rfl
                  exact hR _ _ _ _ _ _ dX12_readLoss_273 (Nat.le_of_ble_eq_true rfl) (Nat.le_of_ble_eq_true rfl) ⟨rfl, hW_1240, (((((((((hF_93.tr hF_1075).tr fr_1113).tr hF_1125).tr fr_1155).tr hF_1172).tr fr_1201).tr hF_1210).tr fr_1244).mono rfl), ⟨_, hf_1237, ln6_1245.1, (by omega), (by rw [fe_1246]; exact .inl nb_1231)⟩, (by simp only [fe_1247, fe_1248, mz_36, mz_37]; exact .inl nb_1231)⟩
                · simp only [Int32.lt_iff_toInt_lt, Int32.le_iff_toInt_le, Int32.reduceToInt, ← Int32.toInt_inj] at h_1101
                  have nb_1103 : (1 ≤ r_1092.toInt ∧ r_1092.toInt ≤ 1) := by omega
                  have g0_1104 := gd_t x_1097 h_1101
                  clear x_1097
                  refine v_aload_n hC dX12_readLoss_131 rfl ?_
                  refine v_vv hC (rest := []) m_1 e_1078 rfl mi_X12_advance ms_X12_advance (p_X12_advance hW_1074 k_0) mx_X12_advance ml_X12_156 (by decide) rfl (cells1 := 0) (slots1 := 0) (by decide) (by decide) (Nat.le_of_ble_eq_true rfl) (Nat.le_of_ble_eq_true rfl) rfl (Nat.le_of_ble_eq_true rfl) dX12_readLoss_132 (fun L_1250 f_1251 h_1252 => ?_)
                  obtain ⟨rfl, hW_1256, hF_1257, x_1253, x_1254, x_1255, -⟩ := h_1252
                  have fe_1258 : fld (f_1070 a_0) 8 = (v_1082 : Int32).toInt := by rw [e_1078]; rfl
                  have fe_1259 : fld (f_1070 a_0) 12 = (v_1086 : Int32).toInt := by rw [e_1078]; rfl
                  have hf_1260 := hF_1257.at hf_1077 rfl
                  obtain ⟨v_1262, v_1263, v_1264, v_1265, v_1266, v_1267, v_1268, v_1269, v_1270, v_1271, v_1272, e_1261, -, -, -, -, -, -, -⟩ := hW_1256.at m_1 t_2
                  have fe_1273 : fld (f_1251 a_0) 8 = (v_1265 : Int32).toInt := by rw [e_1261]; rfl
                  have fe_1274 : fld (f_1251 a_0) 9 = (v_1266 : Int32).toInt := by rw [e_1261]; rfl
                  have fe_1275 : fld (f_1251 a_0) 10 = (v_1267 : Int32).toInt := by rw [e_1261]; rfl
                  have fe_1276 : fld (f_1251 a_0) 12 = (v_1269 : Int32).toInt := by rw [e_1261]; rfl
                  rw [fe_1258, fe_1274, fe_1273] at x_1253
                  rw [fe_1275, fe_1274, fe_1273] at x_1254
                  rw [fe_1276, fe_1259] at x_1255
                  clear fe_1258 fe_1259 fe_1273 fe_1274 fe_1275 fe_1276
                  refine v_aload_n hC dX12_readLoss_135 rfl ?_
                  refine v_get hC fl_X12_34 m_1 e_1261 rfl dX12_readLoss_136 ?_
                  refine v_iload_n hC dX12_readLoss_139 rfl ?_
                  refine v_iload_n hC dX12_readLoss_140 rfl ?_
                  refine v_if_eq_t hC dX12_readLoss_141 (tgt := 148) (by decide) (by first | omega | (simp only [Int32.lt_iff_toInt_lt, Int32.le_iff_toInt_le, Int32.reduceToInt, ← Int32.toInt_inj, true_and, and_true, or_true, true_or, false_or, or_false, false_and, and_false, not_true_eq_false, not_false_eq_true] <;> omega)) ?_
                  refine v_iconst hC dX12_readLoss_148 (v := 0) (by decide) ?_
                  refine v_iast hC m_22 hf_1260 (vp_in_iff.mpr (by first | omega | (simp only [Int32.lt_iff_toInt_lt, Int32.le_iff_toInt_le, Int32.reduceToInt, ← Int32.toInt_inj, true_and, and_true, or_true, true_or, false_or, or_false, false_and, and_false, not_true_eq_false, not_false_eq_true] <;> omega))) dX12_readLoss_149 (fun f_1277 hf_1278 hk_1279 => ?_)
                  have hW_1281 := hW_1256.up hf_1278 hk_1279 t_23 ⟨_, rfl, (o_f.up (by first | omega | (simp only [Int32.lt_iff_toInt_lt, Int32.le_iff_toInt_le, Int32.reduceToInt, ← Int32.toInt_inj, true_and, and_true, or_true, true_or, false_or, or_false, false_and, and_false, not_true_eq_false, not_false_eq_true] <;> omega)) (fun q1 q2 => (by first | omega | (simp only [Int32.lt_iff_toInt_lt, Int32.le_iff_toInt_le, Int32.reduceToInt, ← Int32.toInt_inj] at *; omega))) (fun k9 q1 q2 q3 => (by first | omega | (simp only [Int32.lt_iff_toInt_lt, Int32.le_iff_toInt_le, Int32.reduceToInt, ← Int32.toInt_inj] at *; omega))))⟩
                  obtain ⟨g_1280, hf_1278, ok_1282, eg_1283⟩ : ∃ g9, f_1277 (q 14) = aI E 2076 g9 ∧ FOK g9 ∧ g9 = upd g_f (v_41 : Int32).toNatClampNeg 0 := ⟨_, hf_1278, (o_f.up (by first | omega | (simp only [Int32.lt_iff_toInt_lt, Int32.le_iff_toInt_le, Int32.reduceToInt, ← Int32.toInt_inj, true_and, and_true, or_true, true_or, false_or, or_false, false_and, and_false, not_true_eq_false, not_false_eq_true] <;> omega)) (fun q1 q2 => (by first | omega | (simp only [Int32.lt_iff_toInt_lt, Int32.le_iff_toInt_le, Int32.reduceToInt, ← Int32.toInt_inj] at *; omega))) (fun k9 q1 q2 q3 => (by first | omega | (simp only [Int32.lt_iff_toInt_lt, Int32.le_iff_toInt_le, Int32.reduceToInt, ← Int32.toInt_inj] at *; omega)))), rfl⟩
                  have hf_1284 := (hk_1279 a_0 (ne_kd e_1261 hf_1260 rfl)).trans e_1261
                  have fr_1285 := FR.w hk_1279 hf_1260 (k := 2176) rfl
                  have lk_1286 := lk_at (g0 := g_f) eg_1283 (by omega) (by omega)
                  have ag_1287 := (AG.rf o_f).st eg_1283 (by omega) (by omega)
                  try simp only [Int32.reduceToInt] at lk_1286
                  refine v_aload_n hC dX12_readLoss_150 rfl ?_
                  refine v_get hC fl_X12_34 m_1 hf_1284 rfl dX12_readLoss_151 ?_
                  refine v_iload_n hC dX12_readLoss_154 rfl ?_
                  refine v_iconst hC dX12_readLoss_155 (v := 1) (by decide) ?_
                  obtain ⟨v_1288, h_1289⟩ : ∃ v9 : Int32, v_41 + 1 = v9 := ⟨_, rfl⟩
                  refine v_iadd hC dX12_readLoss_156 h_1289 ?_
                  have h_1290 := add_v h_1289 (by first | omega | (simp only [Int32.lt_iff_toInt_lt, Int32.le_iff_toInt_le, Int32.reduceToInt, ← Int32.toInt_inj, true_and, and_true, or_true, true_or, false_or, or_false, false_and, and_false, not_true_eq_false, not_false_eq_true] <;> omega)) (by first | omega | (simp only [Int32.lt_iff_toInt_lt, Int32.le_iff_toInt_le, Int32.reduceToInt, ← Int32.toInt_inj, true_and, and_true, or_true, true_or, false_or, or_false, false_and, and_false, not_true_eq_false, not_false_eq_true] <;> omega))
                  try simp only [Int32.reduceToInt] at h_1290
                  refine v_aload_n hC dX12_readLoss_157 rfl ?_
                  refine v_iconst hC dX12_readLoss_158 (v := 0) (by decide) ?_
                  refine v_bipush hC dX12_readLoss_159 (v := 15) (by decide) ?_
                  refine v_vi hC (rest := [.int v_1288, .ref (q 14)]) m_1 hf_1284 rfl mi_X12_number ms_X12_number (p_X12_number hW_1281 k_0) mx_X12_number ml_X12_170 (by decide) rfl (cells1 := 0) (slots1 := 0) (by decide) (by decide) (Nat.le_of_ble_eq_true rfl) (Nat.le_of_ble_eq_true rfl) rfl (Nat.le_of_ble_eq_true rfl) dX12_readLoss_161 (fun r_1291 L_1292 f_1293 h_1294 => ?_)
                  obtain ⟨rfl, hW_1296, hF_1297, -, -, -, -, -, x_1295⟩ := h_1294
                  have fe_1298 : fld (f_1277 a_0) 8 = (v_1265 : Int32).toInt := by rw [hf_1284]; rfl
                  have fe_1299 : fld (f_1277 a_0) 10 = (v_1267 : Int32).toInt := by rw [hf_1284]; rfl
                  have fe_1300 : fld (f_1277 a_0) 12 = (v_1269 : Int32).toInt := by rw [hf_1284]; rfl
                  have hf_1301 := hF_1297.at hf_1278 rfl
                  obtain ⟨v_1303, v_1304, v_1305, v_1306, v_1307, v_1308, v_1309, v_1310, v_1311, v_1312, v_1313, e_1302, -, -, -, -, -, -, -⟩ := hW_1296.at m_1 t_2
                  have fe_1314 : fld (f_1293 a_0) 8 = (v_1306 : Int32).toInt := by rw [e_1302]; rfl
                  have fe_1315 : fld (f_1293 a_0) 9 = (v_1307 : Int32).toInt := by rw [e_1302]; rfl
                  have fe_1316 : fld (f_1293 a_0) 10 = (v_1308 : Int32).toInt := by rw [e_1302]; rfl
                  have fe_1317 : fld (f_1293 a_0) 12 = (v_1310 : Int32).toInt := by rw [e_1302]; rfl
                  rw [fe_1317, fe_1300, fe_1299, fe_1298, fe_1315, fe_1314, fe_1316] at x_1295
                  clear fe_1298 fe_1299 fe_1300 fe_1314 fe_1315 fe_1316 fe_1317
                  try simp only [Int32.reduceToInt, Int64.reduceToInt] at x_1295
                  refine v_iast hC m_22 hf_1301 (vp_in_iff.mpr (by first | omega | (simp only [Int32.lt_iff_toInt_lt, Int32.le_iff_toInt_le, Int32.reduceToInt, ← Int32.toInt_inj, true_and, and_true, or_true, true_or, false_or, or_false, false_and, and_false, not_true_eq_false, not_false_eq_true] <;> omega))) dX12_readLoss_164 (fun f_1318 hf_1319 hk_1320 => ?_)
                  have hW_1322 := hW_1296.up hf_1319 hk_1320 t_23 ⟨_, rfl, (ok_1282.up (by first | omega | (simp only [Int32.lt_iff_toInt_lt, Int32.le_iff_toInt_le, Int32.reduceToInt, ← Int32.toInt_inj, true_and, and_true, or_true, true_or, false_or, or_false, false_and, and_false, not_true_eq_false, not_false_eq_true] <;> omega)) (fun q1 q2 => (by first | omega | (simp only [Int32.lt_iff_toInt_lt, Int32.le_iff_toInt_le, Int32.reduceToInt, ← Int32.toInt_inj] at *; omega))) (fun k9 q1 q2 q3 => (by first | omega | (simp only [Int32.lt_iff_toInt_lt, Int32.le_iff_toInt_le, Int32.reduceToInt, ← Int32.toInt_inj] at *; omega))))⟩
                  obtain ⟨g_1321, hf_1319, ok_1323, eg_1324⟩ : ∃ g9, f_1318 (q 14) = aI E 2076 g9 ∧ FOK g9 ∧ g9 = upd g_1280 (v_1288 : Int32).toNatClampNeg r_1291 := ⟨_, hf_1319, (ok_1282.up (by first | omega | (simp only [Int32.lt_iff_toInt_lt, Int32.le_iff_toInt_le, Int32.reduceToInt, ← Int32.toInt_inj, true_and, and_true, or_true, true_or, false_or, or_false, false_and, and_false, not_true_eq_false, not_false_eq_true] <;> omega)) (fun q1 q2 => (by first | omega | (simp only [Int32.lt_iff_toInt_lt, Int32.le_iff_toInt_le, Int32.reduceToInt, ← Int32.toInt_inj] at *; omega))) (fun k9 q1 q2 q3 => (by first | omega | (simp only [Int32.lt_iff_toInt_lt, Int32.le_iff_toInt_le, Int32.reduceToInt, ← Int32.toInt_inj] at *; omega)))), rfl⟩
                  have hf_1325 := (hk_1320 a_0 (ne_kd e_1302 hf_1301 rfl)).trans e_1302
                  have fr_1326 := FR.w hk_1320 hf_1301 (k := 2176) rfl
                  have lk_1327 := lf_at (g0 := g_f) eg_1324 (by omega) (by omega)
                  have ag_1328 := ag_1287.st eg_1324 (by omega) (by omega)
                  try simp only [Int32.reduceToInt] at lk_1327
                  refine v_aload_n hC dX12_readLoss_165 rfl ?_
                  refine v_get hC fl_X12_34 m_1 hf_1325 rfl dX12_readLoss_166 ?_
                  refine v_iload_n hC dX12_readLoss_169 rfl ?_
                  refine v_iconst hC dX12_readLoss_170 (v := 2) (by decide) ?_
                  obtain ⟨v_1329, h_1330⟩ : ∃ v9 : Int32, v_41 + 2 = v9 := ⟨_, rfl⟩
                  refine v_iadd hC dX12_readLoss_171 h_1330 ?_
                  have h_1331 := add_v h_1330 (by first | omega | (simp only [Int32.lt_iff_toInt_lt, Int32.le_iff_toInt_le, Int32.reduceToInt, ← Int32.toInt_inj, true_and, and_true, or_true, true_or, false_or, or_false, false_and, and_false, not_true_eq_false, not_false_eq_true] <;> omega)) (by first | omega | (simp only [Int32.lt_iff_toInt_lt, Int32.le_iff_toInt_le, Int32.reduceToInt, ← Int32.toInt_inj, true_and, and_true, or_true, true_or, false_or, or_false, false_and, and_false, not_true_eq_false, not_false_eq_true] <;> omega))
                  try simp only [Int32.reduceToInt] at h_1331
                  refine v_aload_n hC dX12_readLoss_172 rfl ?_
                  refine v_ldcwS hC sr_X12_295 dX12_readLoss_173 ?_
                  refine v_aload_n hC dX12_readLoss_176 rfl ?_
                  refine v_get hC fl_X12_34 m_1 hf_1325 rfl dX12_readLoss_177 ?_
                  refine v_iload_n hC dX12_readLoss_180 rfl ?_
                  refine v_iconst hC dX12_readLoss_181 (v := 1) (by decide) ?_
                  obtain ⟨v_1332, h_1333⟩ : ∃ v9 : Int32, v_41 + 1 = v9 := ⟨_, rfl⟩
                  refine v_iadd hC dX12_readLoss_182 h_1333 ?_
                  have h_1334 := add_v h_1333 (by first | omega | (simp only [Int32.lt_iff_toInt_lt, Int32.le_iff_toInt_le, Int32.reduceToInt, ← Int32.toInt_inj, true_and, and_true, or_true, true_or, false_or, or_false, false_and, and_false, not_true_eq_false, not_false_eq_true] <;> omega)) (by first | omega | (simp only [Int32.lt_iff_toInt_lt, Int32.le_iff_toInt_le, Int32.reduceToInt, ← Int32.toInt_inj, true_and, and_true, or_true, true_or, false_or, or_false, false_and, and_false, not_true_eq_false, not_false_eq_true] <;> omega))
                  try simp only [Int32.reduceToInt] at h_1334
                  obtain ⟨v_1335, h_1336⟩ : ∃ v9 : Int32, g_1321 (v_1332 : Int32).toNatClampNeg = v9 := ⟨_, rfl⟩
                  refine v_iald hC m_22 hf_1319 (vp_in_iff.mpr (by first | omega | (simp only [Int32.lt_iff_toInt_lt, Int32.le_iff_toInt_le, Int32.reduceToInt, ← Int32.toInt_inj, true_and, and_true, or_true, true_or, false_or, or_false, false_and, and_false, not_true_eq_false, not_false_eq_true] <;> omega))) h_1336 dX12_readLoss_183 ?_
                  refine v_bipush hC dX12_readLoss_184 (v := 15) (by decide) ?_
                  refine v_vi hC (rest := [.int v_1329, .ref (q 14)]) m_1 hf_1325 rfl mi_X12_told ms_X12_told (p_X12_told hW_1322 k_0 (by decide)) mx_X12_told ml_X12_189 (by decide) rfl (cells1 := 0) (slots1 := 0) (by decide) (by decide) (Nat.le_of_ble_eq_true rfl) (Nat.le_of_ble_eq_true rfl) rfl (Nat.le_of_ble_eq_true rfl) dX12_readLoss_186 (fun r_1337 L_1338 f_1339 h_1340 => ?_)
                  obtain ⟨rfl, hW_1342, hF_1343, -, -, -, -, -, x_1341⟩ := h_1340
                  have fe_1344 : fld (f_1318 a_0) 8 = (v_1306 : Int32).toInt := by rw [hf_1325]; rfl
                  have fe_1345 : fld (f_1318 a_0) 12 = (v_1310 : Int32).toInt := by rw [hf_1325]; rfl
                  have hf_1346 := hF_1343.at hf_1319 rfl
                  obtain ⟨v_1348, v_1349, v_1350, v_1351, v_1352, v_1353, v_1354, v_1355, v_1356, v_1357, v_1358, e_1347, -, -, -, -, -, -, -⟩ := hW_1342.at m_1 t_2
                  have fe_1359 : fld (f_1339 a_0) 8 = (v_1351 : Int32).toInt := by rw [e_1347]; rfl
                  have fe_1360 : fld (f_1339 a_0) 9 = (v_1352 : Int32).toInt := by rw [e_1347]; rfl
                  have fe_1361 : fld (f_1339 a_0) 10 = (v_1353 : Int32).toInt := by rw [e_1347]; rfl
                  have fe_1362 : fld (f_1339 a_0) 12 = (v_1355 : Int32).toInt := by rw [e_1347]; rfl
                  rw [fe_1362, fe_1345, fe_1344, fe_1360, fe_1359, fe_1361] at x_1341
                  clear fe_1344 fe_1345 fe_1359 fe_1360 fe_1361 fe_1362
                  try simp only [Int32.reduceToInt, Int64.reduceToInt] at x_1341
                  refine v_iast hC m_22 hf_1346 (vp_in_iff.mpr (by first | omega | (simp only [Int32.lt_iff_toInt_lt, Int32.le_iff_toInt_le, Int32.reduceToInt, ← Int32.toInt_inj, true_and, and_true, or_true, true_or, false_or, or_false, false_and, and_false, not_true_eq_false, not_false_eq_true] <;> omega))) dX12_readLoss_189 (fun f_1363 hf_1364 hk_1365 => ?_)
                  have hW_1367 := hW_1342.up hf_1364 hk_1365 t_23 ⟨_, rfl, (ok_1323.up (by first | omega | (simp only [Int32.lt_iff_toInt_lt, Int32.le_iff_toInt_le, Int32.reduceToInt, ← Int32.toInt_inj, true_and, and_true, or_true, true_or, false_or, or_false, false_and, and_false, not_true_eq_false, not_false_eq_true] <;> omega)) (fun q1 q2 => (by first | omega | (simp only [Int32.lt_iff_toInt_lt, Int32.le_iff_toInt_le, Int32.reduceToInt, ← Int32.toInt_inj] at *; omega))) (fun k9 q1 q2 q3 => (by first | omega | (simp only [Int32.lt_iff_toInt_lt, Int32.le_iff_toInt_le, Int32.reduceToInt, ← Int32.toInt_inj] at *; omega))))⟩
                  obtain ⟨g_1366, hf_1364, ok_1368, eg_1369⟩ : ∃ g9, f_1363 (q 14) = aI E 2076 g9 ∧ FOK g9 ∧ g9 = upd g_1321 (v_1329 : Int32).toNatClampNeg r_1337 := ⟨_, hf_1364, (ok_1323.up (by first | omega | (simp only [Int32.lt_iff_toInt_lt, Int32.le_iff_toInt_le, Int32.reduceToInt, ← Int32.toInt_inj, true_and, and_true, or_true, true_or, false_or, or_false, false_and, and_false, not_true_eq_false, not_false_eq_true] <;> omega)) (fun q1 q2 => (by first | omega | (simp only [Int32.lt_iff_toInt_lt, Int32.le_iff_toInt_le, Int32.reduceToInt, ← Int32.toInt_inj] at *; omega))) (fun k9 q1 q2 q3 => (by first | omega | (simp only [Int32.lt_iff_toInt_lt, Int32.le_iff_toInt_le, Int32.reduceToInt, ← Int32.toInt_inj] at *; omega)))), rfl⟩
                  have hf_1370 := (hk_1365 a_0 (ne_kd e_1347 hf_1346 rfl)).trans e_1347
                  have fr_1371 := FR.w hk_1365 hf_1346 (k := 2176) rfl
                  have lk_1372 := l2_at (g0 := g_f) eg_1369 (by omega) (by omega)
                  have ag_1373 := ag_1328.st eg_1369 (by omega) (by omega)
                  try simp only [Int32.reduceToInt] at lk_1372
                  refine v_goto hC dX12_readLoss_190 (tgt := 258) (by decide) ?_
                  refine v_aload_n hC dX12_readLoss_258 rfl ?_
                  refine v_vv hC (rest := []) m_1 hf_1370 rfl mi_X12_ends ms_X12_ends (p_X12_ends hW_1367 k_0) mx_X12_ends ml_X12_178 (by decide) rfl (cells1 := 0) (slots1 := 0) (by decide) (by decide) (Nat.le_of_ble_eq_true rfl) (Nat.le_of_ble_eq_true rfl) rfl (Nat.le_of_ble_eq_true rfl) dX12_readLoss_259 (fun L_1375 f_1376 h_1377 => ?_)
                  obtain ⟨rfl, hW_1379, hF_1380, -, -, -, -, x_1378⟩ := h_1377
                  have fe_1381 : fld (f_1363 a_0) 8 = (v_1351 : Int32).toInt := by rw [hf_1370]; rfl
                  have fe_1382 : fld (f_1363 a_0) 10 = (v_1353 : Int32).toInt := by rw [hf_1370]; rfl
                  have fe_1383 : fld (f_1363 a_0) 12 = (v_1355 : Int32).toInt := by rw [hf_1370]; rfl
                  have hf_1384 := hF_1380.at hf_1364 rfl
                  obtain ⟨v_1386, v_1387, v_1388, v_1389, v_1390, v_1391, v_1392, v_1393, v_1394, v_1395, v_1396, e_1385, -, -, -, -, -, -, -⟩ := hW_1379.at m_1 t_2
                  have fe_1397 : fld (f_1376 a_0) 8 = (v_1389 : Int32).toInt := by rw [e_1385]; rfl
                  have fe_1398 : fld (f_1376 a_0) 9 = (v_1390 : Int32).toInt := by rw [e_1385]; rfl
                  have fe_1399 : fld (f_1376 a_0) 10 = (v_1391 : Int32).toInt := by rw [e_1385]; rfl
                  have fe_1400 : fld (f_1376 a_0) 12 = (v_1393 : Int32).toInt := by rw [e_1385]; rfl
                  rw [fe_1400, fe_1383, fe_1382, fe_1381, fe_1398, fe_1397, fe_1399] at x_1378
                  clear fe_1381 fe_1382 fe_1383 fe_1397 fe_1398 fe_1399 fe_1400
                  refine v_aload_n hC dX12_readLoss_262 rfl ?_
                  refine v_get hC fl_X12_34 m_1 e_1385 rfl dX12_readLoss_263 ?_
                  refine v_bipush hC dX12_readLoss_266 (v := 6) (by decide) ?_
                  refine v_dup2 hC dX12_readLoss_268 rfl rfl ?_
                  have l6_1401 : (g_1366 6).toInt = (g_f 6).toInt := congrArg Int32.toInt ag_1373.2.1
                  refine v_iald hC m_22 hf_1384 (vp_in_iff.mpr (by decide)) (v := g_1366 6) rfl dX12_readLoss_269 ?_
                  refine v_iconst hC dX12_readLoss_270 (v := 1) (by decide) ?_
                  obtain ⟨v_1402, h_1403⟩ : ∃ v9 : Int32, (g_1366 6) + 1 = v9 := ⟨_, rfl⟩
                  refine v_iadd hC dX12_readLoss_271 h_1403 ?_
                  have h_1404 := add_v h_1403 (by first | omega | (simp only [Int32.lt_iff_toInt_lt, Int32.le_iff_toInt_le, Int32.reduceToInt, ← Int32.toInt_inj, true_and, and_true, or_true, true_or, false_or, or_false, false_and, and_false, not_true_eq_false, not_false_eq_true] <;> omega)) (by first | omega | (simp only [Int32.lt_iff_toInt_lt, Int32.le_iff_toInt_le, Int32.reduceToInt, ← Int32.toInt_inj, true_and, and_true, or_true, true_or, false_or, or_false, false_and, and_false, not_true_eq_false, not_false_eq_true] <;> omega))
                  try simp only [Int32.reduceToInt] at h_1404
                  refine v_iast hC m_22 hf_1384 (vp_in_iff.mpr (by decide)) dX12_readLoss_272 (fun f_1405 hf_1406 hk_1407 => ?_)
                  have hW_1409 := hW_1379.up hf_1406 hk_1407 t_23 ⟨_, rfl, (ok_1368.up (i := 6) (by decide) (fun q1 q2 => absurd (And.intro q1 q2) (by decide)) (fun k9 q1 q2 q3 => by simp only [Int32.reduceToInt] at q3; omega))⟩
                  obtain ⟨g_1408, hf_1406, ok_1410, eg_1411⟩ : ∃ g9, f_1405 (q 14) = aI E 2076 g9 ∧ FOK g9 ∧ g9 = upd g_1366 (6 : Int32).toNatClampNeg v_1402 := ⟨_, hf_1406, (ok_1368.up (i := 6) (by decide) (fun q1 q2 => absurd (And.intro q1 q2) (by decide)) (fun k9 q1 q2 q3 => by simp only [Int32.reduceToInt] at q3; omega)), rfl⟩
                  have hf_1412 := (hk_1407 a_0 (ne_kd e_1385 hf_1384 rfl)).trans e_1385
                  have fr_1413 := FR.w hk_1407 hf_1384 (k := 2176) rfl
                  have ln6_1414 := FOK.n6 ag_1373.1 eg_1411
                  have ln6_1414_t : (g_1408 6).toInt = v_1402.toInt := congrArg Int32.toInt ln6_1414.2
                  have fe_1415 : fld (f_1405 a_0) 12 = (v_1393 : Int32).toInt := by rw [hf_1412]; rfl
                  have fe_1420 : fld (f_1405 a_0) 8 = (v_1389 : Int32).toInt := by rw [hf_1412]; rfl
                  have fe_1421 : fld (f_1405 a_0) 12 = (v_1393 : Int32).toInt := by rw [hf_1412]; rfl
                  exact hR _ _ _ _ _ _ dX12_readLoss_273 (Nat.le_of_ble_eq_true rfl) (Nat.le_of_ble_eq_true rfl) ⟨rfl, hW_1409, ((((((((((hF_93.tr hF_1075).tr hF_1257).tr fr_1285).tr hF_1297).tr fr_1326).tr hF_1343).tr fr_1371).tr hF_1380).tr fr_1413).mono rfl), ⟨_, hf_1406, ln6_1414.1, (by omega), (by rw [fe_1415]; by_cases q9 : v_1393.toInt = 0; have gp_1416 := x_1378.resolve_left (fun h9 => h9 q9); clear x_1378; have gp_1417 := x_1341.resolve_left (fun h9 => h9 gp_1416.1); clear x_1341; have gp_1418 := x_1295.resolve_left (fun h9 => h9 gp_1417.1); clear x_1295; have gz_1419 := x_1255.symm.trans gp_1418.1; exact .inr (LO.fin hLO ag_1373 eg_1411 (by omega) (by omega) (fun q8 => by omega)); exact .inl q9)⟩, (by simp only [fe_1420, fe_1421, mz_36, mz_37]; by_cases q9 : (v_1393 : Int32).toInt = 0; have gp_1422 := x_1378.resolve_left (fun h9 => h9 q9); clear x_1378; have gp_1423 := x_1341.resolve_left (fun h9 => h9 gp_1422.1); clear x_1341; have gp_1424 := x_1295.resolve_left (fun h9 => h9 gp_1423.1); clear x_1295; have gz_1425 := x_1255.symm.trans gp_1424.1; (right; omega); exact .inl q9)⟩
        · simp only [Int32.lt_iff_toInt_lt, Int32.le_iff_toInt_le, Int32.reduceToInt, ← Int32.toInt_inj] at h_81
          have g0_84 := gd_f x_77 h_81
          clear x_77
          have fe_1426 : fld (f a_0) 12 = (v_32 : Int32).toInt := by rw [e_24]; rfl
          have fe_1427 : fld (f a_0) 8 = (v_28 : Int32).toInt := by rw [e_24]; rfl
          have fe_1428 : fld (f a_0) 12 = (v_32 : Int32).toInt := by rw [e_24]; rfl
          exact hR _ _ _ _ _ _ dX12_readLoss_87 (Nat.le_of_ble_eq_true rfl) (Nat.le_of_ble_eq_true rfl) ⟨rfl, hW, FR.rf, ⟨_, e_f, (AG.rf o_f).1, (by omega), (by rw [fe_1426]; left; omega)⟩, (by simp only [fe_1427, fe_1428, mz_36, mz_37]; exact .inl g0_84)⟩
      · simp only [Int32.lt_iff_toInt_lt, Int32.le_iff_toInt_le, Int32.reduceToInt, ← Int32.toInt_inj] at h_70
        refine v_aload_n hC dX12_readLoss_75 rfl ?_
        refine v_iconst hC dX12_readLoss_76 (v := 3) (by decide) ?_
        refine v_vv hC (rest := []) m_1 e_24 rfl mi_X12_errs ms_X12_errs (p_X12_errs hW k_0 (by decide)) mx_X12_errs ml_X12_162 (by decide) rfl (cells1 := 0) (slots1 := 0) (by decide) (by decide) (Nat.le_of_ble_eq_true rfl) (Nat.le_of_ble_eq_true rfl) rfl (Nat.le_of_ble_eq_true rfl) dX12_readLoss_77 (fun L_1430 f_1431 h_1432 => ?_)
        obtain ⟨rfl, hW_1435, hF_1436, x_1433, x_1434, -, -, -⟩ := h_1432
        have fe_1437 : fld (f a_0) 8 = (v_28 : Int32).toInt := by rw [e_24]; rfl
        have hf_1438 := hF_1436.at e_f rfl
        obtain ⟨v_1440, v_1441, v_1442, v_1443, v_1444, v_1445, v_1446, v_1447, v_1448, v_1449, v_1450, e_1439, -, -, -, -, -, -, -⟩ := hW_1435.at m_1 t_2
        have fe_1451 : fld (f_1431 a_0) 8 = (v_1443 : Int32).toInt := by rw [e_1439]; rfl
        have fe_1452 : fld (f_1431 a_0) 12 = (v_1447 : Int32).toInt := by rw [e_1439]; rfl
        rw [fe_1452] at x_1433
        rw [fe_1451, fe_1437] at x_1434
        clear fe_1437 fe_1451 fe_1452
        refine v_aload_n hC dX12_readLoss_80 rfl ?_
        refine v_vi hC (rest := []) m_1 e_1439 rfl mi_X12_good ms_X12_good (p_X12_good hW_1435 k_0) mx_X12_good ml_X12_139 (by decide) rfl (cells1 := 0) (slots1 := 0) (by decide) (by decide) (Nat.le_of_ble_eq_true rfl) (Nat.le_of_ble_eq_true rfl) rfl (Nat.le_of_ble_eq_true rfl) dX12_readLoss_81 (fun r_1453 L_1454 f_1455 h_1456 => ?_)
        obtain ⟨rfl, rfl, b_1457, x_1458⟩ := h_1456
        have fe_1461 : fld (f_1431 a_0) 12 = (v_1447 : Int32).toInt := by rw [e_1439]; rfl
        rw [fe_1461] at x_1458
        clear fe_1461
        try simp only [Int32.reduceToInt, Int64.reduceToInt] at x_1458
        refine v_if_ne hC dX12_readLoss_84 (tgt := 88) (by decide) (fun h_1462 => ?_) (fun h_1462 => ?_)
        · simp only [Int32.lt_iff_toInt_lt, Int32.le_iff_toInt_le, Int32.reduceToInt, ← Int32.toInt_inj] at h_1462
          have nb_1463 : (1 ≤ r_1453.toInt ∧ r_1453.toInt ≤ 1) := by omega
          have g0_1464 := gd_t x_1458 h_1462
          clear x_1458
          refine v_aload_n hC dX12_readLoss_88 rfl ?_
          refine v_ldcwS hC sr_X12_287 dX12_readLoss_89 ?_
          refine v_vi hC (rest := []) m_1 e_1439 rfl mi_X12_takes ms_X12_takes (p_X12_takes hW_1435 k_0 (by decide)) mx_X12_takes ml_X12_159 (by decide) rfl (cells1 := 0) (slots1 := 0) (by decide) (by decide) (Nat.le_of_ble_eq_true rfl) (Nat.le_of_ble_eq_true rfl) rfl (Nat.le_of_ble_eq_true rfl) dX12_readLoss_92 (fun r_1466 L_1467 f_1468 h_1469 => ?_)
          obtain ⟨rfl, hW_1473, hF_1474, rfl, x_1470, x_1471, x_1472, -⟩ := h_1469
          have fe_1475 : fld (f_1431 a_0) 8 = (v_1443 : Int32).toInt := by rw [e_1439]; rfl
          have fe_1476 : fld (f_1431 a_0) 9 = (v_1444 : Int32).toInt := by rw [e_1439]; rfl
          have fe_1477 : fld (f_1431 a_0) 10 = (v_1445 : Int32).toInt := by rw [e_1439]; rfl
          have fe_1478 : fld (f_1431 a_0) 12 = (v_1447 : Int32).toInt := by rw [e_1439]; rfl
          have hf_1479 := hF_1474.at hf_1438 rfl
          obtain ⟨v_1481, v_1482, v_1483, v_1484, v_1485, v_1486, v_1487, v_1488, v_1489, v_1490, v_1491, e_1480, -, -, -, -, -, -, -⟩ := hW_1473.at m_1 t_2
          have fe_1492 : fld (f_1468 a_0) 8 = (v_1484 : Int32).toInt := by rw [e_1480]; rfl
          have fe_1493 : fld (f_1468 a_0) 9 = (v_1485 : Int32).toInt := by rw [e_1480]; rfl
          have fe_1494 : fld (f_1468 a_0) 10 = (v_1486 : Int32).toInt := by rw [e_1480]; rfl
          have fe_1495 : fld (f_1468 a_0) 12 = (v_1488 : Int32).toInt := by rw [e_1480]; rfl
          rw [fe_1475, fe_1493, fe_1492, fe_1494] at x_1470
          rw [fe_1492, fe_1475, fe_1493, fe_1476, fe_1494, fe_1477] at x_1471
          rw [fe_1495, fe_1478] at x_1472
          clear fe_1475 fe_1476 fe_1477 fe_1478 fe_1492 fe_1493 fe_1494 fe_1495
          try simp only [Int32.reduceToInt, Int64.reduceToInt] at x_1470
          try simp only [Int32.reduceToInt, Int64.reduceToInt] at x_1471
          try simp only [Int32.reduceToInt, Int64.reduceToInt] at x_1472
          refine v_if_eq hC dX12_readLoss_95 (tgt := 193) (by decide) (fun h_1496 => ?_) (fun h_1496 => ?_)
          · simp only [Int32.lt_iff_toInt_lt, Int32.le_iff_toInt_le, Int32.reduceToInt, ← Int32.toInt_inj] at h_1496
            refine v_aload_n hC dX12_readLoss_193 rfl ?_
            refine v_ldcwS hC sr_X12_289 dX12_readLoss_194 ?_
            refine v_vi hC (rest := []) m_1 e_1480 rfl mi_X12_takes ms_X12_takes (p_X12_takes hW_1473 k_0 (by decide)) mx_X12_takes ml_X12_159 (by decide) rfl (cells1 := 0) (slots1 := 0) (by decide) (by decide) (Nat.le_of_ble_eq_true rfl) (Nat.le_of_ble_eq_true rfl) rfl (Nat.le_of_ble_eq_true rfl) dX12_readLoss_197 (fun r_1497 L_1498 f_1499 h_1500 => ?_)
            obtain ⟨rfl, hW_1504, hF_1505, rfl, x_1501, x_1502, x_1503, -⟩ := h_1500
            have fe_1506 : fld (f_1468 a_0) 8 = (v_1484 : Int32).toInt := by rw [e_1480]; rfl
            have fe_1507 : fld (f_1468 a_0) 9 = (v_1485 : Int32).toInt := by rw [e_1480]; rfl
            have fe_1508 : fld (f_1468 a_0) 10 = (v_1486 : Int32).toInt := by rw [e_1480]; rfl
            have fe_1509 : fld (f_1468 a_0) 12 = (v_1488 : Int32).toInt := by rw [e_1480]; rfl
            have hf_1510 := hF_1505.at hf_1479 rfl
            obtain ⟨v_1512, v_1513, v_1514, v_1515, v_1516, v_1517, v_1518, v_1519, v_1520, v_1521, v_1522, e_1511, -, -, -, -, -, -, -⟩ := hW_1504.at m_1 t_2
            have fe_1523 : fld (f_1499 a_0) 8 = (v_1515 : Int32).toInt := by rw [e_1511]; rfl
            have fe_1524 : fld (f_1499 a_0) 9 = (v_1516 : Int32).toInt := by rw [e_1511]; rfl
            have fe_1525 : fld (f_1499 a_0) 10 = (v_1517 : Int32).toInt := by rw [e_1511]; rfl
            have fe_1526 : fld (f_1499 a_0) 12 = (v_1519 : Int32).toInt := by rw [e_1511]; rfl
            rw [fe_1506, fe_1524, fe_1523, fe_1525] at x_1501
            rw [fe_1523, fe_1506, fe_1524, fe_1507, fe_1525, fe_1508] at x_1502
            rw [fe_1526, fe_1509] at x_1503
            clear fe_1506 fe_1507 fe_1508 fe_1509 fe_1523 fe_1524 fe_1525 fe_1526
            try simp only [Int32.reduceToInt, Int64.reduceToInt] at x_1501
            try simp only [Int32.reduceToInt, Int64.reduceToInt] at x_1502
            try simp only [Int32.reduceToInt, Int64.reduceToInt] at x_1503
            refine v_if_eq hC dX12_readLoss_200 (tgt := 247) (by decide) (fun h_1527 => ?_) (fun h_1527 => ?_)
            · simp only [Int32.lt_iff_toInt_lt, Int32.le_iff_toInt_le, Int32.reduceToInt, ← Int32.toInt_inj] at h_1527
              refine v_aload_n hC dX12_readLoss_247 rfl ?_
              refine v_vv hC (rest := []) m_1 e_1511 rfl mi_X12_advance ms_X12_advance (p_X12_advance hW_1504 k_0) mx_X12_advance ml_X12_156 (by decide) rfl (cells1 := 0) (slots1 := 0) (by decide) (by decide) (Nat.le_of_ble_eq_true rfl) (Nat.le_of_ble_eq_true rfl) rfl (Nat.le_of_ble_eq_true rfl) dX12_readLoss_248 (fun L_1529 f_1530 h_1531 => ?_)
              obtain ⟨rfl, hW_1535, hF_1536, x_1532, x_1533, x_1534, -⟩ := h_1531
              have fe_1537 : fld (f_1499 a_0) 8 = (v_1515 : Int32).toInt := by rw [e_1511]; rfl
              have fe_1538 : fld (f_1499 a_0) 12 = (v_1519 : Int32).toInt := by rw [e_1511]; rfl
              have hf_1539 := hF_1536.at hf_1510 rfl
              obtain ⟨v_1541, v_1542, v_1543, v_1544, v_1545, v_1546, v_1547, v_1548, v_1549, v_1550, v_1551, e_1540, -, -, -, -, -, -, -⟩ := hW_1535.at m_1 t_2
              have fe_1552 : fld (f_1530 a_0) 8 = (v_1544 : Int32).toInt := by rw [e_1540]; rfl
              have fe_1553 : fld (f_1530 a_0) 9 = (v_1545 : Int32).toInt := by rw [e_1540]; rfl
              have fe_1554 : fld (f_1530 a_0) 10 = (v_1546 : Int32).toInt := by rw [e_1540]; rfl
              have fe_1555 : fld (f_1530 a_0) 12 = (v_1548 : Int32).toInt := by rw [e_1540]; rfl
              rw [fe_1537, fe_1553, fe_1552] at x_1532
              rw [fe_1554, fe_1553, fe_1552] at x_1533
              rw [fe_1555, fe_1538] at x_1534
              clear fe_1537 fe_1538 fe_1552 fe_1553 fe_1554 fe_1555
              refine v_aload_n hC dX12_readLoss_251 rfl ?_
              refine v_get hC fl_X12_34 m_1 e_1540 rfl dX12_readLoss_252 ?_
              refine v_iload_n hC dX12_readLoss_255 rfl ?_
              refine v_iconst hC dX12_readLoss_256 (v := 3) (by decide) ?_
              refine v_iast hC m_22 hf_1539 (vp_in_iff.mpr (by first | omega | (simp only [Int32.lt_iff_toInt_lt, Int32.le_iff_toInt_le, Int32.reduceToInt, ← Int32.toInt_inj, true_and, and_true, or_true, true_or, false_or, or_false, false_and, and_false, not_true_eq_false, not_false_eq_true] <;> omega))) dX12_readLoss_257 (fun f_1556 hf_1557 hk_1558 => ?_)
              have hW_1560 := hW_1535.up hf_1557 hk_1558 t_23 ⟨_, rfl, (o_f.up (by first | omega | (simp only [Int32.lt_iff_toInt_lt, Int32.le_iff_toInt_le, Int32.reduceToInt, ← Int32.toInt_inj, true_and, and_true, or_true, true_or, false_or, or_false, false_and, and_false, not_true_eq_false, not_false_eq_true] <;> omega)) (fun q1 q2 => (by first | omega | (simp only [Int32.lt_iff_toInt_lt, Int32.le_iff_toInt_le, Int32.reduceToInt, ← Int32.toInt_inj] at *; omega))) (fun k9 q1 q2 q3 => (by first | omega | (simp only [Int32.lt_iff_toInt_lt, Int32.le_iff_toInt_le, Int32.reduceToInt, ← Int32.toInt_inj] at *; omega))))⟩
              obtain ⟨g_1559, hf_1557, ok_1561, eg_1562⟩ : ∃ g9, f_1556 (q 14) = aI E 2076 g9 ∧ FOK g9 ∧ g9 = upd g_f (v_41 : Int32).toNatClampNeg 3 := ⟨_, hf_1557, (o_f.up (by first | omega | (simp only [Int32.lt_iff_toInt_lt, Int32.le_iff_toInt_le, Int32.reduceToInt, ← Int32.toInt_inj, true_and, and_true, or_true, true_or, false_or, or_false, false_and, and_false, not_true_eq_false, not_false_eq_true] <;> omega)) (fun q1 q2 => (by first | omega | (simp only [Int32.lt_iff_toInt_lt, Int32.le_iff_toInt_le, Int32.reduceToInt, ← Int32.toInt_inj] at *; omega))) (fun k9 q1 q2 q3 => (by first | omega | (simp only [Int32.lt_iff_toInt_lt, Int32.le_iff_toInt_le, Int32.reduceToInt, ← Int32.toInt_inj] at *; omega)))), rfl⟩
              have hf_1563 := (hk_1558 a_0 (ne_kd e_1540 hf_1539 rfl)).trans e_1540
              have fr_1564 := FR.w hk_1558 hf_1539 (k := 2176) rfl
              have lk_1565 := lk_at (g0 := g_f) eg_1562 (by omega) (by omega)
              have ag_1566 := (AG.rf o_f).st eg_1562 (by omega) (by omega)
              try simp only [Int32.reduceToInt] at lk_1565
              refine v_aload_n hC dX12_readLoss_258 rfl ?_
              refine v_vv hC (rest := []) m_1 hf_1563 rfl mi_X12_ends ms_X12_ends (p_X12_ends hW_1560 k_0) mx_X12_ends ml_X12_178 (by decide) rfl (cells1 := 0) (slots1 := 0) (by decide) (by decide) (Nat.le_of_ble_eq_true rfl) (Nat.le_of_ble_eq_true rfl) rfl (Nat.le_of_ble_eq_true rfl) dX12_readLoss_259 (fun L_1568 f_1569 h_1570 => ?_)
              obtain ⟨rfl, hW_1572, hF_1573, -, -, -, -, x_1571⟩ := h_1570
              have fe_1574 : fld (f_1556 a_0) 8 = (v_1544 : Int32).toInt := by rw [hf_1563]; rfl
              have fe_1575 : fld (f_1556 a_0) 10 = (v_1546 : Int32).toInt := by rw [hf_1563]; rfl
              have fe_1576 : fld (f_1556 a_0) 12 = (v_1548 : Int32).toInt := by rw [hf_1563]; rfl
              have hf_1577 := hF_1573.at hf_1557 rfl
              obtain ⟨v_1579, v_1580, v_1581, v_1582, v_1583, v_1584, v_1585, v_1586, v_1587, v_1588, v_1589, e_1578, -, -, -, -, -, -, -⟩ := hW_1572.at m_1 t_2
              have fe_1590 : fld (f_1569 a_0) 8 = (v_1582 : Int32).toInt := by rw [e_1578]; rfl
              have fe_1591 : fld (f_1569 a_0) 9 = (v_1583 : Int32).toInt := by rw [e_1578]; rfl
              have fe_1592 : fld (f_1569 a_0) 10 = (v_1584 : Int32).toInt := by rw [e_1578]; rfl
              have fe_1593 : fld (f_1569 a_0) 12 = (v_1586 : Int32).toInt := by rw [e_1578]; rfl
              rw [fe_1593, fe_1576, fe_1575, fe_1574, fe_1591, fe_1590, fe_1592] at x_1571
              clear fe_1574 fe_1575 fe_1576 fe_1590 fe_1591 fe_1592 fe_1593
              refine v_aload_n hC dX12_readLoss_262 rfl ?_
              refine v_get hC fl_X12_34 m_1 e_1578 rfl dX12_readLoss_263 ?_
              refine v_bipush hC dX12_readLoss_266 (v := 6) (by decide) ?_
              refine v_dup2 hC dX12_readLoss_268 rfl rfl ?_
              have l6_1594 : (g_1559 6).toInt = (g_f 6).toInt := congrArg Int32.toInt ag_1566.2.1
              refine v_iald hC m_22 hf_1577 (vp_in_iff.mpr (by decide)) (v := g_1559 6) rfl dX12_readLoss_269 ?_
              refine v_iconst hC dX12_readLoss_270 (v := 1) (by decide) ?_
              obtain ⟨v_1595, h_1596⟩ : ∃ v9 : Int32, (g_1559 6) + 1 = v9 := ⟨_, rfl⟩
              refine v_iadd hC dX12_readLoss_271 h_1596 ?_
              have h_1597 := add_v h_1596 (by first | omega | (simp only [Int32.lt_iff_toInt_lt, Int32.le_iff_toInt_le, Int32.reduceToInt, ← Int32.toInt_inj, true_and, and_true, or_true, true_or, false_or, or_false, false_and, and_false, not_true_eq_false, not_false_eq_true] <;> omega)) (by first | omega | (simp only [Int32.lt_iff_toInt_lt, Int32.le_iff_toInt_le, Int32.reduceToInt, ← Int32.toInt_inj, true_and, and_true, or_true, true_or, false_or, or_false, false_and, and_false, not_true_eq_false, not_false_eq_true] <;> omega))
              try simp only [Int32.reduceToInt] at h_1597
              refine v_iast hC m_22 hf_1577 (vp_in_iff.mpr (by decide)) dX12_readLoss_272 (fun f_1598 hf_1599 hk_1600 => ?_)
              have hW_1602 := hW_1572.up hf_1599 hk_1600 t_23 ⟨_, rfl, (ok_1561.up (i := 6) (by decide) (fun q1 q2 => absurd (And.intro q1 q2) (by decide)) (fun k9 q1 q2 q3 => by simp only [Int32.reduceToInt] at q3; omega))⟩
              obtain ⟨g_1601, hf_1599, ok_1603, eg_1604⟩ : ∃ g9, f_1598 (q 14) = aI E 2076 g9 ∧ FOK g9 ∧ g9 = upd g_1559 (6 : Int32).toNatClampNeg v_1595 := ⟨_, hf_1599, (ok_1561.up (i := 6) (by decide) (fun q1 q2 => absurd (And.intro q1 q2) (by decide)) (fun k9 q1 q2 q3 => by simp only [Int32.reduceToInt] at q3; omega)), rfl⟩
              have hf_1605 := (hk_1600 a_0 (ne_kd e_1578 hf_1577 rfl)).trans e_1578
              have fr_1606 := FR.w hk_1600 hf_1577 (k := 2176) rfl
              have ln6_1607 := FOK.n6 ag_1566.1 eg_1604
              have ln6_1607_t : (g_1601 6).toInt = v_1595.toInt := congrArg Int32.toInt ln6_1607.2
              have fe_1608 : fld (f_1598 a_0) 12 = (v_1586 : Int32).toInt := by rw [hf_1605]; rfl
              have fe_1613 : fld (f_1598 a_0) 8 = (v_1582 : Int32).toInt := by rw [hf_1605]; rfl
              have fe_1614 : fld (f_1598 a_0) 12 = (v_1586 : Int32).toInt := by rw [hf_1605]; rfl
              exact hR _ _ _ _ _ _ dX12_readLoss_273 (Nat.le_of_ble_eq_true rfl) (Nat.le_of_ble_eq_true rfl) ⟨rfl, hW_1602, (((((((hF_1436.tr hF_1474).tr hF_1505).tr hF_1536).tr fr_1564).tr hF_1573).tr fr_1606).mono rfl), ⟨_, hf_1599, ln6_1607.1, (by omega), (by rw [fe_1608]; by_cases q9 : v_1586.toInt = 0; have gp_1609 := x_1571.resolve_left (fun h9 => h9 q9); clear x_1571; have gz_1610 := x_1534.symm.trans gp_1609.1; have gz_1611 := x_1503.symm.trans gz_1610; have gz_1612 := x_1472.symm.trans gz_1611; exact .inr (LO.fin hLO ag_1566 eg_1604 (by omega) (by omega) (fun q8 => by omega)); exact .inl q9)⟩, (by simp only [fe_1613, fe_1614, mz_36, mz_37]; by_cases q9 : (v_1586 : Int32).toInt = 0; have gp_1615 := x_1571.resolve_left (fun h9 => h9 q9); clear x_1571; have gz_1616 := x_1534.symm.trans gp_1615.1; have gz_1617 := x_1503.symm.trans gz_1616; have gz_1618 := x_1472.symm.trans gz_1617; (right; omega); exact .inl q9)⟩
            · simp only [Int32.lt_iff_toInt_lt, Int32.le_iff_toInt_le, Int32.reduceToInt, ← Int32.toInt_inj] at h_1527
              refine v_aload_n hC dX12_readLoss_203 rfl ?_
              refine v_get hC fl_X12_34 m_1 e_1511 rfl dX12_readLoss_204 ?_
              refine v_iload_n hC dX12_readLoss_207 rfl ?_
              refine v_iconst hC dX12_readLoss_208 (v := 2) (by decide) ?_
              refine v_iast hC m_22 hf_1510 (vp_in_iff.mpr (by first | omega | (simp only [Int32.lt_iff_toInt_lt, Int32.le_iff_toInt_le, Int32.reduceToInt, ← Int32.toInt_inj, true_and, and_true, or_true, true_or, false_or, or_false, false_and, and_false, not_true_eq_false, not_false_eq_true] <;> omega))) dX12_readLoss_209 (fun f_1619 hf_1620 hk_1621 => ?_)
              have hW_1623 := hW_1504.up hf_1620 hk_1621 t_23 ⟨_, rfl, (o_f.up (by first | omega | (simp only [Int32.lt_iff_toInt_lt, Int32.le_iff_toInt_le, Int32.reduceToInt, ← Int32.toInt_inj, true_and, and_true, or_true, true_or, false_or, or_false, false_and, and_false, not_true_eq_false, not_false_eq_true] <;> omega)) (fun q1 q2 => (by first | omega | (simp only [Int32.lt_iff_toInt_lt, Int32.le_iff_toInt_le, Int32.reduceToInt, ← Int32.toInt_inj] at *; omega))) (fun k9 q1 q2 q3 => (by first | omega | (simp only [Int32.lt_iff_toInt_lt, Int32.le_iff_toInt_le, Int32.reduceToInt, ← Int32.toInt_inj] at *; omega))))⟩
              obtain ⟨g_1622, hf_1620, ok_1624, eg_1625⟩ : ∃ g9, f_1619 (q 14) = aI E 2076 g9 ∧ FOK g9 ∧ g9 = upd g_f (v_41 : Int32).toNatClampNeg 2 := ⟨_, hf_1620, (o_f.up (by first | omega | (simp only [Int32.lt_iff_toInt_lt, Int32.le_iff_toInt_le, Int32.reduceToInt, ← Int32.toInt_inj, true_and, and_true, or_true, true_or, false_or, or_false, false_and, and_false, not_true_eq_false, not_false_eq_true] <;> omega)) (fun q1 q2 => (by first | omega | (simp only [Int32.lt_iff_toInt_lt, Int32.le_iff_toInt_le, Int32.reduceToInt, ← Int32.toInt_inj] at *; omega))) (fun k9 q1 q2 q3 => (by first | omega | (simp only [Int32.lt_iff_toInt_lt, Int32.le_iff_toInt_le, Int32.reduceToInt, ← Int32.toInt_inj] at *; omega)))), rfl⟩
              have hf_1626 := (hk_1621 a_0 (ne_kd e_1511 hf_1510 rfl)).trans e_1511
              have fr_1627 := FR.w hk_1621 hf_1510 (k := 2176) rfl
              have lk_1628 := lk_at (g0 := g_f) eg_1625 (by omega) (by omega)
              have ag_1629 := (AG.rf o_f).st eg_1625 (by omega) (by omega)
              try simp only [Int32.reduceToInt] at lk_1628
              refine v_aload_n hC dX12_readLoss_210 rfl ?_
              refine v_get hC fl_X12_34 m_1 hf_1626 rfl dX12_readLoss_211 ?_
              refine v_iload_n hC dX12_readLoss_214 rfl ?_
              refine v_iconst hC dX12_readLoss_215 (v := 1) (by decide) ?_
              obtain ⟨v_1630, h_1631⟩ : ∃ v9 : Int32, v_41 + 1 = v9 := ⟨_, rfl⟩
              refine v_iadd hC dX12_readLoss_216 h_1631 ?_
              have h_1632 := add_v h_1631 (by first | omega | (simp only [Int32.lt_iff_toInt_lt, Int32.le_iff_toInt_le, Int32.reduceToInt, ← Int32.toInt_inj, true_and, and_true, or_true, true_or, false_or, or_false, false_and, and_false, not_true_eq_false, not_false_eq_true] <;> omega)) (by first | omega | (simp only [Int32.lt_iff_toInt_lt, Int32.le_iff_toInt_le, Int32.reduceToInt, ← Int32.toInt_inj, true_and, and_true, or_true, true_or, false_or, or_false, false_and, and_false, not_true_eq_false, not_false_eq_true] <;> omega))
              try simp only [Int32.reduceToInt] at h_1632
              refine v_aload_n hC dX12_readLoss_217 rfl ?_
              refine v_iconst hC dX12_readLoss_218 (v := 1) (by decide) ?_
              refine v_bipush hC dX12_readLoss_219 (v := 99) (by decide) ?_
              refine v_vi hC (rest := [.int v_1630, .ref (q 14)]) m_1 hf_1626 rfl mi_X12_number ms_X12_number (p_X12_number hW_1623 k_0) mx_X12_number ml_X12_170 (by decide) rfl (cells1 := 0) (slots1 := 0) (by decide) (by decide) (Nat.le_of_ble_eq_true rfl) (Nat.le_of_ble_eq_true rfl) rfl (Nat.le_of_ble_eq_true rfl) dX12_readLoss_221 (fun r_1633 L_1634 f_1635 h_1636 => ?_)
              obtain ⟨rfl, hW_1638, hF_1639, -, -, -, -, -, x_1637⟩ := h_1636
              have fe_1640 : fld (f_1619 a_0) 8 = (v_1515 : Int32).toInt := by rw [hf_1626]; rfl
              have fe_1641 : fld (f_1619 a_0) 10 = (v_1517 : Int32).toInt := by rw [hf_1626]; rfl
              have fe_1642 : fld (f_1619 a_0) 12 = (v_1519 : Int32).toInt := by rw [hf_1626]; rfl
              have hf_1643 := hF_1639.at hf_1620 rfl
              obtain ⟨v_1645, v_1646, v_1647, v_1648, v_1649, v_1650, v_1651, v_1652, v_1653, v_1654, v_1655, e_1644, -, -, -, -, -, -, -⟩ := hW_1638.at m_1 t_2
              have fe_1656 : fld (f_1635 a_0) 8 = (v_1648 : Int32).toInt := by rw [e_1644]; rfl
              have fe_1657 : fld (f_1635 a_0) 9 = (v_1649 : Int32).toInt := by rw [e_1644]; rfl
              have fe_1658 : fld (f_1635 a_0) 10 = (v_1650 : Int32).toInt := by rw [e_1644]; rfl
              have fe_1659 : fld (f_1635 a_0) 12 = (v_1652 : Int32).toInt := by rw [e_1644]; rfl
              rw [fe_1659, fe_1642, fe_1641, fe_1640, fe_1657, fe_1656, fe_1658] at x_1637
              clear fe_1640 fe_1641 fe_1642 fe_1656 fe_1657 fe_1658 fe_1659
              try simp only [Int32.reduceToInt, Int64.reduceToInt] at x_1637
              refine v_iast hC m_22 hf_1643 (vp_in_iff.mpr (by first | omega | (simp only [Int32.lt_iff_toInt_lt, Int32.le_iff_toInt_le, Int32.reduceToInt, ← Int32.toInt_inj, true_and, and_true, or_true, true_or, false_or, or_false, false_and, and_false, not_true_eq_false, not_false_eq_true] <;> omega))) dX12_readLoss_224 (fun f_1660 hf_1661 hk_1662 => ?_)
              have hW_1664 := hW_1638.up hf_1661 hk_1662 t_23 ⟨_, rfl, (ok_1624.up (by first | omega | (simp only [Int32.lt_iff_toInt_lt, Int32.le_iff_toInt_le, Int32.reduceToInt, ← Int32.toInt_inj, true_and, and_true, or_true, true_or, false_or, or_false, false_and, and_false, not_true_eq_false, not_false_eq_true] <;> omega)) (fun q1 q2 => (by first | omega | (simp only [Int32.lt_iff_toInt_lt, Int32.le_iff_toInt_le, Int32.reduceToInt, ← Int32.toInt_inj] at *; omega))) (fun k9 q1 q2 q3 => (by first | omega | (simp only [Int32.lt_iff_toInt_lt, Int32.le_iff_toInt_le, Int32.reduceToInt, ← Int32.toInt_inj] at *; omega))))⟩
              obtain ⟨g_1663, hf_1661, ok_1665, eg_1666⟩ : ∃ g9, f_1660 (q 14) = aI E 2076 g9 ∧ FOK g9 ∧ g9 = upd g_1622 (v_1630 : Int32).toNatClampNeg r_1633 := ⟨_, hf_1661, (ok_1624.up (by first | omega | (simp only [Int32.lt_iff_toInt_lt, Int32.le_iff_toInt_le, Int32.reduceToInt, ← Int32.toInt_inj, true_and, and_true, or_true, true_or, false_or, or_false, false_and, and_false, not_true_eq_false, not_false_eq_true] <;> omega)) (fun q1 q2 => (by first | omega | (simp only [Int32.lt_iff_toInt_lt, Int32.le_iff_toInt_le, Int32.reduceToInt, ← Int32.toInt_inj] at *; omega))) (fun k9 q1 q2 q3 => (by first | omega | (simp only [Int32.lt_iff_toInt_lt, Int32.le_iff_toInt_le, Int32.reduceToInt, ← Int32.toInt_inj] at *; omega)))), rfl⟩
              have hf_1667 := (hk_1662 a_0 (ne_kd e_1644 hf_1643 rfl)).trans e_1644
              have fr_1668 := FR.w hk_1662 hf_1643 (k := 2176) rfl
              have lk_1669 := lf_at (g0 := g_f) eg_1666 (by omega) (by omega)
              have ag_1670 := ag_1629.st eg_1666 (by omega) (by omega)
              try simp only [Int32.reduceToInt] at lk_1669
              refine v_aload_n hC dX12_readLoss_225 rfl ?_
              refine v_get hC fl_X12_34 m_1 hf_1667 rfl dX12_readLoss_226 ?_
              refine v_iload_n hC dX12_readLoss_229 rfl ?_
              refine v_iconst hC dX12_readLoss_230 (v := 2) (by decide) ?_
              obtain ⟨v_1671, h_1672⟩ : ∃ v9 : Int32, v_41 + 2 = v9 := ⟨_, rfl⟩
              refine v_iadd hC dX12_readLoss_231 h_1672 ?_
              have h_1673 := add_v h_1672 (by first | omega | (simp only [Int32.lt_iff_toInt_lt, Int32.le_iff_toInt_le, Int32.reduceToInt, ← Int32.toInt_inj, true_and, and_true, or_true, true_or, false_or, or_false, false_and, and_false, not_true_eq_false, not_false_eq_true] <;> omega)) (by first | omega | (simp only [Int32.lt_iff_toInt_lt, Int32.le_iff_toInt_le, Int32.reduceToInt, ← Int32.toInt_inj, true_and, and_true, or_true, true_or, false_or, or_false, false_and, and_false, not_true_eq_false, not_false_eq_true] <;> omega))
              try simp only [Int32.reduceToInt] at h_1673
              refine v_aload_n hC dX12_readLoss_232 rfl ?_
              refine v_ldcwS hC sr_X12_297 dX12_readLoss_233 ?_
              refine v_iconst hC dX12_readLoss_236 (v := 0) (by decide) ?_
              refine v_sipush hC dX12_readLoss_237 (v := 255) (by decide) ?_
              refine v_vi hC (rest := [.int v_1671, .ref (q 14)]) m_1 hf_1667 rfl mi_X12_told ms_X12_told (p_X12_told hW_1664 k_0 (by decide)) mx_X12_told ml_X12_189 (by decide) rfl (cells1 := 0) (slots1 := 0) (by decide) (by decide) (Nat.le_of_ble_eq_true rfl) (Nat.le_of_ble_eq_true rfl) rfl (Nat.le_of_ble_eq_true rfl) dX12_readLoss_240 (fun r_1674 L_1675 f_1676 h_1677 => ?_)
              obtain ⟨rfl, hW_1679, hF_1680, -, -, -, -, -, x_1678⟩ := h_1677
              have fe_1681 : fld (f_1660 a_0) 8 = (v_1648 : Int32).toInt := by rw [hf_1667]; rfl
              have fe_1682 : fld (f_1660 a_0) 12 = (v_1652 : Int32).toInt := by rw [hf_1667]; rfl
              have hf_1683 := hF_1680.at hf_1661 rfl
              obtain ⟨v_1685, v_1686, v_1687, v_1688, v_1689, v_1690, v_1691, v_1692, v_1693, v_1694, v_1695, e_1684, -, -, -, -, -, -, -⟩ := hW_1679.at m_1 t_2
              have fe_1696 : fld (f_1676 a_0) 8 = (v_1688 : Int32).toInt := by rw [e_1684]; rfl
              have fe_1697 : fld (f_1676 a_0) 9 = (v_1689 : Int32).toInt := by rw [e_1684]; rfl
              have fe_1698 : fld (f_1676 a_0) 10 = (v_1690 : Int32).toInt := by rw [e_1684]; rfl
              have fe_1699 : fld (f_1676 a_0) 12 = (v_1692 : Int32).toInt := by rw [e_1684]; rfl
              rw [fe_1699, fe_1682, fe_1681, fe_1697, fe_1696, fe_1698] at x_1678
              clear fe_1681 fe_1682 fe_1696 fe_1697 fe_1698 fe_1699
              try simp only [Int32.reduceToInt, Int64.reduceToInt] at x_1678
              refine v_iast hC m_22 hf_1683 (vp_in_iff.mpr (by first | omega | (simp only [Int32.lt_iff_toInt_lt, Int32.le_iff_toInt_le, Int32.reduceToInt, ← Int32.toInt_inj, true_and, and_true, or_true, true_or, false_or, or_false, false_and, and_false, not_true_eq_false, not_false_eq_true] <;> omega))) dX12_readLoss_243 (fun f_1700 hf_1701 hk_1702 => ?_)
              have hW_1704 := hW_1679.up hf_1701 hk_1702 t_23 ⟨_, rfl, (ok_1665.up (by first | omega | (simp only [Int32.lt_iff_toInt_lt, Int32.le_iff_toInt_le, Int32.reduceToInt, ← Int32.toInt_inj, true_and, and_true, or_true, true_or, false_or, or_false, false_and, and_false, not_true_eq_false, not_false_eq_true] <;> omega)) (fun q1 q2 => (by first | omega | (simp only [Int32.lt_iff_toInt_lt, Int32.le_iff_toInt_le, Int32.reduceToInt, ← Int32.toInt_inj] at *; omega))) (fun k9 q1 q2 q3 => (by first | omega | (simp only [Int32.lt_iff_toInt_lt, Int32.le_iff_toInt_le, Int32.reduceToInt, ← Int32.toInt_inj] at *; omega))))⟩
              obtain ⟨g_1703, hf_1701, ok_1705, eg_1706⟩ : ∃ g9, f_1700 (q 14) = aI E 2076 g9 ∧ FOK g9 ∧ g9 = upd g_1663 (v_1671 : Int32).toNatClampNeg r_1674 := ⟨_, hf_1701, (ok_1665.up (by first | omega | (simp only [Int32.lt_iff_toInt_lt, Int32.le_iff_toInt_le, Int32.reduceToInt, ← Int32.toInt_inj, true_and, and_true, or_true, true_or, false_or, or_false, false_and, and_false, not_true_eq_false, not_false_eq_true] <;> omega)) (fun q1 q2 => (by first | omega | (simp only [Int32.lt_iff_toInt_lt, Int32.le_iff_toInt_le, Int32.reduceToInt, ← Int32.toInt_inj] at *; omega))) (fun k9 q1 q2 q3 => (by first | omega | (simp only [Int32.lt_iff_toInt_lt, Int32.le_iff_toInt_le, Int32.reduceToInt, ← Int32.toInt_inj] at *; omega)))), rfl⟩
              have hf_1707 := (hk_1702 a_0 (ne_kd e_1684 hf_1683 rfl)).trans e_1684
              have fr_1708 := FR.w hk_1702 hf_1683 (k := 2176) rfl
              have lk_1709 := l2_at (g0 := g_f) eg_1706 (by omega) (by omega)
              have ag_1710 := ag_1670.st eg_1706 (by omega) (by omega)
              try simp only [Int32.reduceToInt] at lk_1709
              refine v_goto hC dX12_readLoss_244 (tgt := 258) (by decide) ?_
              refine v_aload_n hC dX12_readLoss_258 rfl ?_
              refine v_vv hC (rest := []) m_1 hf_1707 rfl mi_X12_ends ms_X12_ends (p_X12_ends hW_1704 k_0) mx_X12_ends ml_X12_178 (by decide) rfl (cells1 := 0) (slots1 := 0) (by decide) (by decide) (Nat.le_of_ble_eq_true rfl) (Nat.le_of_ble_eq_true rfl) rfl (Nat.le_of_ble_eq_true rfl) dX12_readLoss_259 (fun L_1712 f_1713 h_1714 => ?_)
              obtain ⟨rfl, hW_1716, hF_1717, -, -, -, -, x_1715⟩ := h_1714
              have fe_1718 : fld (f_1700 a_0) 8 = (v_1688 : Int32).toInt := by rw [hf_1707]; rfl
              have fe_1719 : fld (f_1700 a_0) 10 = (v_1690 : Int32).toInt := by rw [hf_1707]; rfl
              have fe_1720 : fld (f_1700 a_0) 12 = (v_1692 : Int32).toInt := by rw [hf_1707]; rfl
              have hf_1721 := hF_1717.at hf_1701 rfl
              obtain ⟨v_1723, v_1724, v_1725, v_1726, v_1727, v_1728, v_1729, v_1730, v_1731, v_1732, v_1733, e_1722, -, -, -, -, -, -, -⟩ := hW_1716.at m_1 t_2
              have fe_1734 : fld (f_1713 a_0) 8 = (v_1726 : Int32).toInt := by rw [e_1722]; rfl
              have fe_1735 : fld (f_1713 a_0) 9 = (v_1727 : Int32).toInt := by rw [e_1722]; rfl
              have fe_1736 : fld (f_1713 a_0) 10 = (v_1728 : Int32).toInt := by rw [e_1722]; rfl
              have fe_1737 : fld (f_1713 a_0) 12 = (v_1730 : Int32).toInt := by rw [e_1722]; rfl
              rw [fe_1737, fe_1720, fe_1719, fe_1718, fe_1735, fe_1734, fe_1736] at x_1715
              clear fe_1718 fe_1719 fe_1720 fe_1734 fe_1735 fe_1736 fe_1737
              refine v_aload_n hC dX12_readLoss_262 rfl ?_
              refine v_get hC fl_X12_34 m_1 e_1722 rfl dX12_readLoss_263 ?_
              refine v_bipush hC dX12_readLoss_266 (v := 6) (by decide) ?_
              refine v_dup2 hC dX12_readLoss_268 rfl rfl ?_
              have l6_1738 : (g_1703 6).toInt = (g_f 6).toInt := congrArg Int32.toInt ag_1710.2.1
              refine v_iald hC m_22 hf_1721 (vp_in_iff.mpr (by decide)) (v := g_1703 6) rfl dX12_readLoss_269 ?_
              refine v_iconst hC dX12_readLoss_270 (v := 1) (by decide) ?_
              obtain ⟨v_1739, h_1740⟩ : ∃ v9 : Int32, (g_1703 6) + 1 = v9 := ⟨_, rfl⟩
              refine v_iadd hC dX12_readLoss_271 h_1740 ?_
              have h_1741 := add_v h_1740 (by first | omega | (simp only [Int32.lt_iff_toInt_lt, Int32.le_iff_toInt_le, Int32.reduceToInt, ← Int32.toInt_inj, true_and, and_true, or_true, true_or, false_or, or_false, false_and, and_false, not_true_eq_false, not_false_eq_true] <;> omega)) (by first | omega | (simp only [Int32.lt_iff_toInt_lt, Int32.le_iff_toInt_le, Int32.reduceToInt, ← Int32.toInt_inj, true_and, and_true, or_true, true_or, false_or, or_false, false_and, and_false, not_true_eq_false, not_false_eq_true] <;> omega))
              try simp only [Int32.reduceToInt] at h_1741
              refine v_iast hC m_22 hf_1721 (vp_in_iff.mpr (by decide)) dX12_readLoss_272 (fun f_1742 hf_1743 hk_1744 => ?_)
              have hW_1746 := hW_1716.up hf_1743 hk_1744 t_23 ⟨_, rfl, (ok_1705.up (i := 6) (by decide) (fun q1 q2 => absurd (And.intro q1 q2) (by decide)) (fun k9 q1 q2 q3 => by simp only [Int32.reduceToInt] at q3; omega))⟩
              obtain ⟨g_1745, hf_1743, ok_1747, eg_1748⟩ : ∃ g9, f_1742 (q 14) = aI E 2076 g9 ∧ FOK g9 ∧ g9 = upd g_1703 (6 : Int32).toNatClampNeg v_1739 := ⟨_, hf_1743, (ok_1705.up (i := 6) (by decide) (fun q1 q2 => absurd (And.intro q1 q2) (by decide)) (fun k9 q1 q2 q3 => by simp only [Int32.reduceToInt] at q3; omega)), rfl⟩
              have hf_1749 := (hk_1744 a_0 (ne_kd e_1722 hf_1721 rfl)).trans e_1722
              have fr_1750 := FR.w hk_1744 hf_1721 (k := 2176) rfl
              have ln6_1751 := FOK.n6 ag_1710.1 eg_1748
              have ln6_1751_t : (g_1745 6).toInt = v_1739.toInt := congrArg Int32.toInt ln6_1751.2
              have fe_1752 : fld (f_1742 a_0) 12 = (v_1730 : Int32).toInt := by rw [hf_1749]; rfl
              have fe_1758 : fld (f_1742 a_0) 8 = (v_1726 : Int32).toInt := by rw [hf_1749]; rfl
              have fe_1759 : fld (f_1742 a_0) 12 = (v_1730 : Int32).toInt := by rw [hf_1749]; rfl
              exact hR _ _ _ _ _ _ dX12_readLoss_273 (Nat.le_of_ble_eq_true rfl) (Nat.le_of_ble_eq_true rfl) ⟨rfl, hW_1746, ((((((((((hF_1436.tr hF_1474).tr hF_1505).tr fr_1627).tr hF_1639).tr fr_1668).tr hF_1680).tr fr_1708).tr hF_1717).tr fr_1750).mono rfl), ⟨_, hf_1743, ln6_1751.1, (by omega), (by rw [fe_1752]; by_cases q9 : v_1730.toInt = 0; have gp_1753 := x_1715.resolve_left (fun h9 => h9 q9); clear x_1715; have gp_1754 := x_1678.resolve_left (fun h9 => h9 gp_1753.1); clear x_1678; have gp_1755 := x_1637.resolve_left (fun h9 => h9 gp_1754.1); clear x_1637; have gz_1756 := x_1503.symm.trans gp_1755.1; have gz_1757 := x_1472.symm.trans gz_1756; exact .inr (LO.fin hLO ag_1710 eg_1748 (by omega) (by omega) (fun q8 => by omega)); exact .inl q9)⟩, (by simp only [fe_1758, fe_1759, mz_36, mz_37]; by_cases q9 : (v_1730 : Int32).toInt = 0; have gp_1760 := x_1715.resolve_left (fun h9 => h9 q9); clear x_1715; have gp_1761 := x_1678.resolve_left (fun h9 => h9 gp_1760.1); clear x_1678; have gp_1762 := x_1637.resolve_left (fun h9 => h9 gp_1761.1); clear x_1637; have gz_1763 := x_1503.symm.trans gp_1762.1; have gz_1764 := x_1472.symm.trans gz_1763; (right; omega); exact .inl q9)⟩
          · simp only [Int32.lt_iff_toInt_lt, Int32.le_iff_toInt_le, Int32.reduceToInt, ← Int32.toInt_inj] at h_1496
            refine v_aload_n hC dX12_readLoss_98 rfl ?_
            refine v_ldcwS hC sr_X12_293 dX12_readLoss_99 ?_
            refine v_vi hC (rest := []) m_1 e_1480 rfl mi_X12_is ms_X12_is (p_X12_is hW_1473 k_0 (by decide)) mx_X12_is ml_X12_152 (by decide) rfl (cells1 := 0) (slots1 := 0) (by decide) (by decide) (Nat.le_of_ble_eq_true rfl) (Nat.le_of_ble_eq_true rfl) rfl (Nat.le_of_ble_eq_true rfl) dX12_readLoss_102 (fun r_1765 L_1766 f_1767 h_1768 => ?_)
            obtain ⟨rfl, rfl, rfl⟩ := h_1768
            refine v_istore_n hC dX12_readLoss_105 (by decide) (lv' := [(3, .int (iw (f_1468 a_0) (f_1468 (q 4)) 74)), (2, .int v_66), (1, .int v_41), (0, .ref a_0)]) rfl ?_
            refine v_iload_n hC dX12_readLoss_106 rfl ?_
            refine v_if_ne hC dX12_readLoss_107 (tgt := 124) (by decide) (fun h_1771 => ?_) (fun h_1771 => ?_)
            · simp only [Int32.lt_iff_toInt_lt, Int32.le_iff_toInt_le, Int32.reduceToInt, ← Int32.toInt_inj] at h_1771
              refine v_aload_n hC dX12_readLoss_124 rfl ?_
              refine v_vi hC (rest := []) m_1 e_1480 rfl mi_X12_good ms_X12_good (p_X12_good hW_1473 k_0) mx_X12_good ml_X12_139 (by decide) rfl (cells1 := 0) (slots1 := 0) (by decide) (by decide) (Nat.le_of_ble_eq_true rfl) (Nat.le_of_ble_eq_true rfl) rfl (Nat.le_of_ble_eq_true rfl) dX12_readLoss_125 (fun r_1772 L_1773 f_1774 h_1775 => ?_)
              obtain ⟨rfl, rfl, b_1776, x_1777⟩ := h_1775
              have fe_1780 : fld (f_1468 a_0) 12 = (v_1488 : Int32).toInt := by rw [e_1480]; rfl
              rw [fe_1780] at x_1777
              clear fe_1780
              try simp only [Int32.reduceToInt, Int64.reduceToInt] at x_1777
              refine v_if_eq hC dX12_readLoss_128 (tgt := 135) (by decide) (fun h_1781 => ?_) (fun h_1781 => ?_)
              · simp only [Int32.lt_iff_toInt_lt, Int32.le_iff_toInt_le, Int32.reduceToInt, ← Int32.toInt_inj] at h_1781
                have g0_1782 := gd_f x_1777 h_1781
                clear x_1777
                clear x_1472
                refine v_aload_n hC dX12_readLoss_135 rfl ?_
                refine v_get hC fl_X12_34 m_1 e_1480 rfl dX12_readLoss_136 ?_
                refine v_iload_n hC dX12_readLoss_139 rfl ?_
                refine v_iload_n hC dX12_readLoss_140 rfl ?_
                refine v_if_eq_f hC dX12_readLoss_141 (tgt := 148) (by decide) (by first | omega | (simp only [Int32.lt_iff_toInt_lt, Int32.le_iff_toInt_le, Int32.reduceToInt, ← Int32.toInt_inj, true_and, and_true, or_true, true_or, false_or, or_false, false_and, and_false, not_true_eq_false, not_false_eq_true] <;> omega)) ?_
                refine v_iconst hC dX12_readLoss_144 (v := 1) (by decide) ?_
                refine v_goto hC dX12_readLoss_145 (tgt := 149) (by decide) ?_
                refine v_iast hC m_22 hf_1479 (vp_in_iff.mpr (by first | omega | (simp only [Int32.lt_iff_toInt_lt, Int32.le_iff_toInt_le, Int32.reduceToInt, ← Int32.toInt_inj, true_and, and_true, or_true, true_or, false_or, or_false, false_and, and_false, not_true_eq_false, not_false_eq_true] <;> omega))) dX12_readLoss_149 (fun f_1786 hf_1787 hk_1788 => ?_)
                have hW_1790 := hW_1473.up hf_1787 hk_1788 t_23 ⟨_, rfl, (o_f.up (by first | omega | (simp only [Int32.lt_iff_toInt_lt, Int32.le_iff_toInt_le, Int32.reduceToInt, ← Int32.toInt_inj, true_and, and_true, or_true, true_or, false_or, or_false, false_and, and_false, not_true_eq_false, not_false_eq_true] <;> omega)) (fun q1 q2 => (by first | omega | (simp only [Int32.lt_iff_toInt_lt, Int32.le_iff_toInt_le, Int32.reduceToInt, ← Int32.toInt_inj] at *; omega))) (fun k9 q1 q2 q3 => (by first | omega | (simp only [Int32.lt_iff_toInt_lt, Int32.le_iff_toInt_le, Int32.reduceToInt, ← Int32.toInt_inj] at *; omega))))⟩
                obtain ⟨g_1789, hf_1787, ok_1791, eg_1792⟩ : ∃ g9, f_1786 (q 14) = aI E 2076 g9 ∧ FOK g9 ∧ g9 = upd g_f (v_41 : Int32).toNatClampNeg 1 := ⟨_, hf_1787, (o_f.up (by first | omega | (simp only [Int32.lt_iff_toInt_lt, Int32.le_iff_toInt_le, Int32.reduceToInt, ← Int32.toInt_inj, true_and, and_true, or_true, true_or, false_or, or_false, false_and, and_false, not_true_eq_false, not_false_eq_true] <;> omega)) (fun q1 q2 => (by first | omega | (simp only [Int32.lt_iff_toInt_lt, Int32.le_iff_toInt_le, Int32.reduceToInt, ← Int32.toInt_inj] at *; omega))) (fun k9 q1 q2 q3 => (by first | omega | (simp only [Int32.lt_iff_toInt_lt, Int32.le_iff_toInt_le, Int32.reduceToInt, ← Int32.toInt_inj] at *; omega)))), rfl⟩
                have hf_1793 := (hk_1788 a_0 (ne_kd e_1480 hf_1479 rfl)).trans e_1480
                have fr_1794 := FR.w hk_1788 hf_1479 (k := 2176) rfl
                have lk_1795 := lk_at (g0 := g_f) eg_1792 (by omega) (by omega)
                have ag_1796 := (AG.rf o_f).st eg_1792 (by omega) (by omega)
                try simp only [Int32.reduceToInt] at lk_1795
                refine v_aload_n hC dX12_readLoss_150 rfl ?_
                refine v_get hC fl_X12_34 m_1 hf_1793 rfl dX12_readLoss_151 ?_
                refine v_iload_n hC dX12_readLoss_154 rfl ?_
                refine v_iconst hC dX12_readLoss_155 (v := 1) (by decide) ?_
                obtain ⟨v_1797, h_1798⟩ : ∃ v9 : Int32, v_41 + 1 = v9 := ⟨_, rfl⟩
                refine v_iadd hC dX12_readLoss_156 h_1798 ?_
                have h_1799 := add_v h_1798 (by first | omega | (simp only [Int32.lt_iff_toInt_lt, Int32.le_iff_toInt_le, Int32.reduceToInt, ← Int32.toInt_inj, true_and, and_true, or_true, true_or, false_or, or_false, false_and, and_false, not_true_eq_false, not_false_eq_true] <;> omega)) (by first | omega | (simp only [Int32.lt_iff_toInt_lt, Int32.le_iff_toInt_le, Int32.reduceToInt, ← Int32.toInt_inj, true_and, and_true, or_true, true_or, false_or, or_false, false_and, and_false, not_true_eq_false, not_false_eq_true] <;> omega))
                try simp only [Int32.reduceToInt] at h_1799
                refine v_aload_n hC dX12_readLoss_157 rfl ?_
                refine v_iconst hC dX12_readLoss_158 (v := 0) (by decide) ?_
                refine v_bipush hC dX12_readLoss_159 (v := 15) (by decide) ?_
                refine v_vi hC (rest := [.int v_1797, .ref (q 14)]) m_1 hf_1793 rfl mi_X12_number ms_X12_number (p_X12_number hW_1790 k_0) mx_X12_number ml_X12_170 (by decide) rfl (cells1 := 0) (slots1 := 0) (by decide) (by decide) (Nat.le_of_ble_eq_true rfl) (Nat.le_of_ble_eq_true rfl) rfl (Nat.le_of_ble_eq_true rfl) dX12_readLoss_161 (fun r_1800 L_1801 f_1802 h_1803 => ?_)
                obtain ⟨rfl, hW_1805, hF_1806, -, -, -, -, -, x_1804⟩ := h_1803
                have fe_1807 : fld (f_1786 a_0) 8 = (v_1484 : Int32).toInt := by rw [hf_1793]; rfl
                have fe_1808 : fld (f_1786 a_0) 10 = (v_1486 : Int32).toInt := by rw [hf_1793]; rfl
                have fe_1809 : fld (f_1786 a_0) 12 = (v_1488 : Int32).toInt := by rw [hf_1793]; rfl
                have hf_1810 := hF_1806.at hf_1787 rfl
                obtain ⟨v_1812, v_1813, v_1814, v_1815, v_1816, v_1817, v_1818, v_1819, v_1820, v_1821, v_1822, e_1811, -, -, -, -, -, -, -⟩ := hW_1805.at m_1 t_2
                have fe_1823 : fld (f_1802 a_0) 8 = (v_1815 : Int32).toInt := by rw [e_1811]; rfl
                have fe_1824 : fld (f_1802 a_0) 9 = (v_1816 : Int32).toInt := by rw [e_1811]; rfl
                have fe_1825 : fld (f_1802 a_0) 10 = (v_1817 : Int32).toInt := by rw [e_1811]; rfl
                have fe_1826 : fld (f_1802 a_0) 12 = (v_1819 : Int32).toInt := by rw [e_1811]; rfl
                rw [fe_1826, fe_1809, fe_1808, fe_1807, fe_1824, fe_1823, fe_1825] at x_1804
                have nb_1827 : ¬ (v_1819 : Int32).toInt = 0 := x_1804.elim id (fun h9 => absurd h9.1 g0_1782)
                clear x_1804
                clear fe_1807 fe_1808 fe_1809 fe_1823 fe_1824 fe_1825 fe_1826
                try simp only [Int32.reduceToInt, Int64.reduceToInt] at x_1804
                refine v_iast hC m_22 hf_1810 (vp_in_iff.mpr (by first | omega | (simp only [Int32.lt_iff_toInt_lt, Int32.le_iff_toInt_le, Int32.reduceToInt, ← Int32.toInt_inj, true_and, and_true, or_true, true_or, false_or, or_false, false_and, and_false, not_true_eq_false, not_false_eq_true] <;> omega))) dX12_readLoss_164 (fun f_1828 hf_1829 hk_1830 => ?_)
                have hW_1832 := hW_1805.up hf_1829 hk_1830 t_23 ⟨_, rfl, (ok_1791.up (by first | omega | (simp only [Int32.lt_iff_toInt_lt, Int32.le_iff_toInt_le, Int32.reduceToInt, ← Int32.toInt_inj, true_and, and_true, or_true, true_or, false_or, or_false, false_and, and_false, not_true_eq_false, not_false_eq_true] <;> omega)) (fun q1 q2 => (by first | omega | (simp only [Int32.lt_iff_toInt_lt, Int32.le_iff_toInt_le, Int32.reduceToInt, ← Int32.toInt_inj] at *; omega))) (fun k9 q1 q2 q3 => (by first | omega | (simp only [Int32.lt_iff_toInt_lt, Int32.le_iff_toInt_le, Int32.reduceToInt, ← Int32.toInt_inj] at *; omega))))⟩
                obtain ⟨g_1831, hf_1829, ok_1833, eg_1834⟩ : ∃ g9, f_1828 (q 14) = aI E 2076 g9 ∧ FOK g9 ∧ g9 = upd g_1789 (v_1797 : Int32).toNatClampNeg r_1800 := ⟨_, hf_1829, (ok_1791.up (by first | omega | (simp only [Int32.lt_iff_toInt_lt, Int32.le_iff_toInt_le, Int32.reduceToInt, ← Int32.toInt_inj, true_and, and_true, or_true, true_or, false_or, or_false, false_and, and_false, not_true_eq_false, not_false_eq_true] <;> omega)) (fun q1 q2 => (by first | omega | (simp only [Int32.lt_iff_toInt_lt, Int32.le_iff_toInt_le, Int32.reduceToInt, ← Int32.toInt_inj] at *; omega))) (fun k9 q1 q2 q3 => (by first | omega | (simp only [Int32.lt_iff_toInt_lt, Int32.le_iff_toInt_le, Int32.reduceToInt, ← Int32.toInt_inj] at *; omega)))), rfl⟩
                have hf_1835 := (hk_1830 a_0 (ne_kd e_1811 hf_1810 rfl)).trans e_1811
                have fr_1836 := FR.w hk_1830 hf_1810 (k := 2176) rfl
                have lk_1837 := lf_at (g0 := g_f) eg_1834 (by omega) (by omega)
                have ag_1838 := ag_1796.st eg_1834 (by omega) (by omega)
                try simp only [Int32.reduceToInt] at lk_1837
                refine v_aload_n hC dX12_readLoss_165 rfl ?_
                refine v_get hC fl_X12_34 m_1 hf_1835 rfl dX12_readLoss_166 ?_
                refine v_iload_n hC dX12_readLoss_169 rfl ?_
                refine v_iconst hC dX12_readLoss_170 (v := 2) (by decide) ?_
                obtain ⟨v_1839, h_1840⟩ : ∃ v9 : Int32, v_41 + 2 = v9 := ⟨_, rfl⟩
                refine v_iadd hC dX12_readLoss_171 h_1840 ?_
                have h_1841 := add_v h_1840 (by first | omega | (simp only [Int32.lt_iff_toInt_lt, Int32.le_iff_toInt_le, Int32.reduceToInt, ← Int32.toInt_inj, true_and, and_true, or_true, true_or, false_or, or_false, false_and, and_false, not_true_eq_false, not_false_eq_true] <;> omega)) (by first | omega | (simp only [Int32.lt_iff_toInt_lt, Int32.le_iff_toInt_le, Int32.reduceToInt, ← Int32.toInt_inj, true_and, and_true, or_true, true_or, false_or, or_false, false_and, and_false, not_true_eq_false, not_false_eq_true] <;> omega))
                try simp only [Int32.reduceToInt] at h_1841
                refine v_aload_n hC dX12_readLoss_172 rfl ?_
                refine v_ldcwS hC sr_X12_295 dX12_readLoss_173 ?_
                refine v_aload_n hC dX12_readLoss_176 rfl ?_
                refine v_get hC fl_X12_34 m_1 hf_1835 rfl dX12_readLoss_177 ?_
                refine v_iload_n hC dX12_readLoss_180 rfl ?_
                refine v_iconst hC dX12_readLoss_181 (v := 1) (by decide) ?_
                obtain ⟨v_1842, h_1843⟩ : ∃ v9 : Int32, v_41 + 1 = v9 := ⟨_, rfl⟩
                refine v_iadd hC dX12_readLoss_182 h_1843 ?_
                have h_1844 := add_v h_1843 (by first | omega | (simp only [Int32.lt_iff_toInt_lt, Int32.le_iff_toInt_le, Int32.reduceToInt, ← Int32.toInt_inj, true_and, and_true, or_true, true_or, false_or, or_false, false_and, and_false, not_true_eq_false, not_false_eq_true] <;> omega)) (by first | omega | (simp only [Int32.lt_iff_toInt_lt, Int32.le_iff_toInt_le, Int32.reduceToInt, ← Int32.toInt_inj, true_and, and_true, or_true, true_or, false_or, or_false, false_and, and_false, not_true_eq_false, not_false_eq_true] <;> omega))
                try simp only [Int32.reduceToInt] at h_1844
                obtain ⟨v_1845, h_1846⟩ : ∃ v9 : Int32, g_1831 (v_1842 : Int32).toNatClampNeg = v9 := ⟨_, rfl⟩
                refine v_iald hC m_22 hf_1829 (vp_in_iff.mpr (by first | omega | (simp only [Int32.lt_iff_toInt_lt, Int32.le_iff_toInt_le, Int32.reduceToInt, ← Int32.toInt_inj, true_and, and_true, or_true, true_or, false_or, or_false, false_and, and_false, not_true_eq_false, not_false_eq_true] <;> omega))) h_1846 dX12_readLoss_183 ?_
                refine v_bipush hC dX12_readLoss_184 (v := 15) (by decide) ?_
                refine v_vi hC (rest := [.int v_1839, .ref (q 14)]) m_1 hf_1835 rfl mi_X12_told ms_X12_told (p_X12_told hW_1832 k_0 (by decide)) mx_X12_told ml_X12_189 (by decide) rfl (cells1 := 0) (slots1 := 0) (by decide) (by decide) (Nat.le_of_ble_eq_true rfl) (Nat.le_of_ble_eq_true rfl) rfl (Nat.le_of_ble_eq_true rfl) dX12_readLoss_186 (fun r_1847 L_1848 f_1849 h_1850 => ?_)
                obtain ⟨rfl, hW_1852, hF_1853, -, -, -, -, -, x_1851⟩ := h_1850
                have fe_1854 : fld (f_1828 a_0) 8 = (v_1815 : Int32).toInt := by rw [hf_1835]; rfl
                have fe_1855 : fld (f_1828 a_0) 12 = (v_1819 : Int32).toInt := by rw [hf_1835]; rfl
                have hf_1856 := hF_1853.at hf_1829 rfl
                obtain ⟨v_1858, v_1859, v_1860, v_1861, v_1862, v_1863, v_1864, v_1865, v_1866, v_1867, v_1868, e_1857, -, -, -, -, -, -, -⟩ := hW_1852.at m_1 t_2
                have fe_1869 : fld (f_1849 a_0) 8 = (v_1861 : Int32).toInt := by rw [e_1857]; rfl
                have fe_1870 : fld (f_1849 a_0) 9 = (v_1862 : Int32).toInt := by rw [e_1857]; rfl
                have fe_1871 : fld (f_1849 a_0) 10 = (v_1863 : Int32).toInt := by rw [e_1857]; rfl
                have fe_1872 : fld (f_1849 a_0) 12 = (v_1865 : Int32).toInt := by rw [e_1857]; rfl
                rw [fe_1872, fe_1855, fe_1854, fe_1870, fe_1869, fe_1871] at x_1851
                have nb_1873 : ¬ (v_1865 : Int32).toInt = 0 := x_1851.elim id (fun h9 => absurd h9.1 nb_1827)
                clear x_1851
                clear fe_1854 fe_1855 fe_1869 fe_1870 fe_1871 fe_1872
                try simp only [Int32.reduceToInt, Int64.reduceToInt] at x_1851
                refine v_iast hC m_22 hf_1856 (vp_in_iff.mpr (by first | omega | (simp only [Int32.lt_iff_toInt_lt, Int32.le_iff_toInt_le, Int32.reduceToInt, ← Int32.toInt_inj, true_and, and_true, or_true, true_or, false_or, or_false, false_and, and_false, not_true_eq_false, not_false_eq_true] <;> omega))) dX12_readLoss_189 (fun f_1874 hf_1875 hk_1876 => ?_)
                have hW_1878 := hW_1852.up hf_1875 hk_1876 t_23 ⟨_, rfl, (ok_1833.up (by first | omega | (simp only [Int32.lt_iff_toInt_lt, Int32.le_iff_toInt_le, Int32.reduceToInt, ← Int32.toInt_inj, true_and, and_true, or_true, true_or, false_or, or_false, false_and, and_false, not_true_eq_false, not_false_eq_true] <;> omega)) (fun q1 q2 => (by first | omega | (simp only [Int32.lt_iff_toInt_lt, Int32.le_iff_toInt_le, Int32.reduceToInt, ← Int32.toInt_inj] at *; omega))) (fun k9 q1 q2 q3 => (by first | omega | (simp only [Int32.lt_iff_toInt_lt, Int32.le_iff_toInt_le, Int32.reduceToInt, ← Int32.toInt_inj] at *; omega))))⟩
                obtain ⟨g_1877, hf_1875, ok_1879, eg_1880⟩ : ∃ g9, f_1874 (q 14) = aI E 2076 g9 ∧ FOK g9 ∧ g9 = upd g_1831 (v_1839 : Int32).toNatClampNeg r_1847 := ⟨_, hf_1875, (ok_1833.up (by first | omega | (simp only [Int32.lt_iff_toInt_lt, Int32.le_iff_toInt_le, Int32.reduceToInt, ← Int32.toInt_inj, true_and, and_true, or_true, true_or, false_or, or_false, false_and, and_false, not_true_eq_false, not_false_eq_true] <;> omega)) (fun q1 q2 => (by first | omega | (simp only [Int32.lt_iff_toInt_lt, Int32.le_iff_toInt_le, Int32.reduceToInt, ← Int32.toInt_inj] at *; omega))) (fun k9 q1 q2 q3 => (by first | omega | (simp only [Int32.lt_iff_toInt_lt, Int32.le_iff_toInt_le, Int32.reduceToInt, ← Int32.toInt_inj] at *; omega)))), rfl⟩
                have hf_1881 := (hk_1876 a_0 (ne_kd e_1857 hf_1856 rfl)).trans e_1857
                have fr_1882 := FR.w hk_1876 hf_1856 (k := 2176) rfl
                have lk_1883 := l2_at (g0 := g_f) eg_1880 (by omega) (by omega)
                have ag_1884 := ag_1838.st eg_1880 (by omega) (by omega)
                try simp only [Int32.reduceToInt] at lk_1883
                refine v_goto hC dX12_readLoss_190 (tgt := 258) (by decide) ?_
                refine v_aload_n hC dX12_readLoss_258 rfl ?_
                refine v_vv hC (rest := []) m_1 hf_1881 rfl mi_X12_ends ms_X12_ends (p_X12_ends hW_1878 k_0) mx_X12_ends ml_X12_178 (by decide) rfl (cells1 := 0) (slots1 := 0) (by decide) (by decide) (Nat.le_of_ble_eq_true rfl) (Nat.le_of_ble_eq_true rfl) rfl (Nat.le_of_ble_eq_true rfl) dX12_readLoss_259 (fun L_1886 f_1887 h_1888 => ?_)
                obtain ⟨rfl, hW_1890, hF_1891, -, -, -, -, x_1889⟩ := h_1888
                have fe_1892 : fld (f_1874 a_0) 8 = (v_1861 : Int32).toInt := by rw [hf_1881]; rfl
                have fe_1893 : fld (f_1874 a_0) 10 = (v_1863 : Int32).toInt := by rw [hf_1881]; rfl
                have fe_1894 : fld (f_1874 a_0) 12 = (v_1865 : Int32).toInt := by rw [hf_1881]; rfl
                have hf_1895 := hF_1891.at hf_1875 rfl
                obtain ⟨v_1897, v_1898, v_1899, v_1900, v_1901, v_1902, v_1903, v_1904, v_1905, v_1906, v_1907, e_1896, -, -, -, -, -, -, -⟩ := hW_1890.at m_1 t_2
                have fe_1908 : fld (f_1887 a_0) 8 = (v_1900 : Int32).toInt := by rw [e_1896]; rfl
                have fe_1909 : fld (f_1887 a_0) 9 = (v_1901 : Int32).toInt := by rw [e_1896]; rfl
                have fe_1910 : fld (f_1887 a_0) 10 = (v_1902 : Int32).toInt := by rw [e_1896]; rfl
                have fe_1911 : fld (f_1887 a_0) 12 = (v_1904 : Int32).toInt := by rw [e_1896]; rfl
                rw [fe_1911, fe_1894, fe_1893, fe_1892, fe_1909, fe_1908, fe_1910] at x_1889
                have nb_1912 : ¬ (v_1904 : Int32).toInt = 0 := x_1889.elim id (fun h9 => absurd h9.1 nb_1873)
                clear x_1889
                clear fe_1892 fe_1893 fe_1894 fe_1908 fe_1909 fe_1910 fe_1911
                refine v_aload_n hC dX12_readLoss_262 rfl ?_
                refine v_get hC fl_X12_34 m_1 e_1896 rfl dX12_readLoss_263 ?_
                refine v_bipush hC dX12_readLoss_266 (v := 6) (by decide) ?_
                refine v_dup2 hC dX12_readLoss_268 rfl rfl ?_
                have l6_1913 : (g_1877 6).toInt = (g_f 6).toInt := congrArg Int32.toInt ag_1884.2.1
                refine v_iald hC m_22 hf_1895 (vp_in_iff.mpr (by decide)) (v := g_1877 6) rfl dX12_readLoss_269 ?_
                refine v_iconst hC dX12_readLoss_270 (v := 1) (by decide) ?_
                obtain ⟨v_1914, h_1915⟩ : ∃ v9 : Int32, (g_1877 6) + 1 = v9 := ⟨_, rfl⟩
                refine v_iadd hC dX12_readLoss_271 h_1915 ?_
                have h_1916 := add_v h_1915 (by first | omega | (simp only [Int32.lt_iff_toInt_lt, Int32.le_iff_toInt_le, Int32.reduceToInt, ← Int32.toInt_inj, true_and, and_true, or_true, true_or, false_or, or_false, false_and, and_false, not_true_eq_false, not_false_eq_true] <;> omega)) (by first | omega | (simp only [Int32.lt_iff_toInt_lt, Int32.le_iff_toInt_le, Int32.reduceToInt, ← Int32.toInt_inj, true_and, and_true, or_true, true_or, false_or, or_false, false_and, and_false, not_true_eq_false, not_false_eq_true] <;> omega))
                try simp only [Int32.reduceToInt] at h_1916
                refine v_iast hC m_22 hf_1895 (vp_in_iff.mpr (by decide)) dX12_readLoss_272 (fun f_1917 hf_1918 hk_1919 => ?_)
                have hW_1921 := hW_1890.up hf_1918 hk_1919 t_23 ⟨_, rfl, (ok_1879.up (i := 6) (by decide) (fun q1 q2 => absurd (And.intro q1 q2) (by decide)) (fun k9 q1 q2 q3 => by simp only [Int32.reduceToInt] at q3; omega))⟩
                obtain ⟨g_1920, hf_1918, ok_1922, eg_1923⟩ : ∃ g9, f_1917 (q 14) = aI E 2076 g9 ∧ FOK g9 ∧ g9 = upd g_1877 (6 : Int32).toNatClampNeg v_1914 := ⟨_, hf_1918, (ok_1879.up (i := 6) (by decide) (fun q1 q2 => absurd (And.intro q1 q2) (by decide)) (fun k9 q1 q2 q3 => by simp only [Int32.reduceToInt] at q3; omega)), rfl⟩
                have hf_1924 := (hk_1919 a_0 (ne_kd e_1896 hf_1895 rfl)).trans e_1896
                have fr_1925 := FR.w hk_1919 hf_1895 (k := 2176) rfl
                have ln6_1926 := FOK.n6 ag_1884.1 eg_1923
                have ln6_1926_t : (g_1920 6).toInt = v_1914.toInt := congrArg Int32.toInt ln6_1926.2
                have fe_1927 : fld (f_1917 a_0) 12 = (v_1904 : Int32).toInt := by rw [hf_1924]; rfl
                have fe_1928 : fld (f_1917 a_0) 8 = (v_1900 : Int32).toInt := by rw [hf_1924]; rfl
                have fe_1929 : fld (f_1917 a_0) 12 = (v_1904 : Int32).toInt := by rw [hf_1924]; rfl
                exact hR _ _ _ _ _ _ dX12_readLoss_273 (Nat.le_of_ble_eq_true rfl) (Nat.le_of_ble_eq_true rfl) ⟨rfl, hW_1921, (((((((((hF_1436.tr hF_1474).tr fr_1794).tr hF_1806).tr fr_1836).tr hF_1853).tr fr_1882).tr hF_1891).tr fr_1925).mono rfl), ⟨_, hf_1918, ln6_1926.1, (by omega), (by rw [fe_1927]; exact .inl nb_1912)⟩, (by simp only [fe_1928, fe_1929, mz_36, mz_37]; exact .inl nb_1912)⟩
              · simp only [Int32.lt_iff_toInt_lt, Int32.le_iff_toInt_le, Int32.reduceToInt, ← Int32.toInt_inj] at h_1781
                have nb_1783 : (1 ≤ r_1772.toInt ∧ r_1772.toInt ≤ 1) := by omega
                have g0_1784 := gd_t x_1777 h_1781
                clear x_1777
                have gz_1785 := x_1472.symm.trans g0_1784
                refine v_aload_n hC dX12_readLoss_131 rfl ?_
                refine v_vv hC (rest := []) m_1 e_1480 rfl mi_X12_advance ms_X12_advance (p_X12_advance hW_1473 k_0) mx_X12_advance ml_X12_156 (by decide) rfl (cells1 := 0) (slots1 := 0) (by decide) (by decide) (Nat.le_of_ble_eq_true rfl) (Nat.le_of_ble_eq_true rfl) rfl (Nat.le_of_ble_eq_true rfl) dX12_readLoss_132 (fun L_1931 f_1932 h_1933 => ?_)
                obtain ⟨rfl, hW_1937, hF_1938, x_1934, x_1935, x_1936, -⟩ := h_1933
                have fe_1939 : fld (f_1468 a_0) 8 = (v_1484 : Int32).toInt := by rw [e_1480]; rfl
                have fe_1940 : fld (f_1468 a_0) 12 = (v_1488 : Int32).toInt := by rw [e_1480]; rfl
                have hf_1941 := hF_1938.at hf_1479 rfl
                obtain ⟨v_1943, v_1944, v_1945, v_1946, v_1947, v_1948, v_1949, v_1950, v_1951, v_1952, v_1953, e_1942, -, -, -, -, -, -, -⟩ := hW_1937.at m_1 t_2
                have fe_1954 : fld (f_1932 a_0) 8 = (v_1946 : Int32).toInt := by rw [e_1942]; rfl
                have fe_1955 : fld (f_1932 a_0) 9 = (v_1947 : Int32).toInt := by rw [e_1942]; rfl
                have fe_1956 : fld (f_1932 a_0) 10 = (v_1948 : Int32).toInt := by rw [e_1942]; rfl
                have fe_1957 : fld (f_1932 a_0) 12 = (v_1950 : Int32).toInt := by rw [e_1942]; rfl
                rw [fe_1939, fe_1955, fe_1954] at x_1934
                rw [fe_1956, fe_1955, fe_1954] at x_1935
                rw [fe_1957, fe_1940] at x_1936
                clear fe_1939 fe_1940 fe_1954 fe_1955 fe_1956 fe_1957
                refine v_aload_n hC dX12_readLoss_135 rfl ?_
                refine v_get hC fl_X12_34 m_1 e_1942 rfl dX12_readLoss_136 ?_
                refine v_iload_n hC dX12_readLoss_139 rfl ?_
                refine v_iload_n hC dX12_readLoss_140 rfl ?_
                refine v_if_eq_f hC dX12_readLoss_141 (tgt := 148) (by decide) (by first | omega | (simp only [Int32.lt_iff_toInt_lt, Int32.le_iff_toInt_le, Int32.reduceToInt, ← Int32.toInt_inj, true_and, and_true, or_true, true_or, false_or, or_false, false_and, and_false, not_true_eq_false, not_false_eq_true] <;> omega)) ?_
                refine v_iconst hC dX12_readLoss_144 (v := 1) (by decide) ?_
                refine v_goto hC dX12_readLoss_145 (tgt := 149) (by decide) ?_
                refine v_iast hC m_22 hf_1941 (vp_in_iff.mpr (by first | omega | (simp only [Int32.lt_iff_toInt_lt, Int32.le_iff_toInt_le, Int32.reduceToInt, ← Int32.toInt_inj, true_and, and_true, or_true, true_or, false_or, or_false, false_and, and_false, not_true_eq_false, not_false_eq_true] <;> omega))) dX12_readLoss_149 (fun f_1958 hf_1959 hk_1960 => ?_)
                have hW_1962 := hW_1937.up hf_1959 hk_1960 t_23 ⟨_, rfl, (o_f.up (by first | omega | (simp only [Int32.lt_iff_toInt_lt, Int32.le_iff_toInt_le, Int32.reduceToInt, ← Int32.toInt_inj, true_and, and_true, or_true, true_or, false_or, or_false, false_and, and_false, not_true_eq_false, not_false_eq_true] <;> omega)) (fun q1 q2 => (by first | omega | (simp only [Int32.lt_iff_toInt_lt, Int32.le_iff_toInt_le, Int32.reduceToInt, ← Int32.toInt_inj] at *; omega))) (fun k9 q1 q2 q3 => (by first | omega | (simp only [Int32.lt_iff_toInt_lt, Int32.le_iff_toInt_le, Int32.reduceToInt, ← Int32.toInt_inj] at *; omega))))⟩
                obtain ⟨g_1961, hf_1959, ok_1963, eg_1964⟩ : ∃ g9, f_1958 (q 14) = aI E 2076 g9 ∧ FOK g9 ∧ g9 = upd g_f (v_41 : Int32).toNatClampNeg 1 := ⟨_, hf_1959, (o_f.up (by first | omega | (simp only [Int32.lt_iff_toInt_lt, Int32.le_iff_toInt_le, Int32.reduceToInt, ← Int32.toInt_inj, true_and, and_true, or_true, true_or, false_or, or_false, false_and, and_false, not_true_eq_false, not_false_eq_true] <;> omega)) (fun q1 q2 => (by first | omega | (simp only [Int32.lt_iff_toInt_lt, Int32.le_iff_toInt_le, Int32.reduceToInt, ← Int32.toInt_inj] at *; omega))) (fun k9 q1 q2 q3 => (by first | omega | (simp only [Int32.lt_iff_toInt_lt, Int32.le_iff_toInt_le, Int32.reduceToInt, ← Int32.toInt_inj] at *; omega)))), rfl⟩
                have hf_1965 := (hk_1960 a_0 (ne_kd e_1942 hf_1941 rfl)).trans e_1942
                have fr_1966 := FR.w hk_1960 hf_1941 (k := 2176) rfl
                have lk_1967 := lk_at (g0 := g_f) eg_1964 (by omega) (by omega)
                have ag_1968 := (AG.rf o_f).st eg_1964 (by omega) (by omega)
                try simp only [Int32.reduceToInt] at lk_1967
                refine v_aload_n hC dX12_readLoss_150 rfl ?_
                refine v_get hC fl_X12_34 m_1 hf_1965 rfl dX12_readLoss_151 ?_
                refine v_iload_n hC dX12_readLoss_154 rfl ?_
                refine v_iconst hC dX12_readLoss_155 (v := 1) (by decide) ?_
                obtain ⟨v_1969, h_1970⟩ : ∃ v9 : Int32, v_41 + 1 = v9 := ⟨_, rfl⟩
                refine v_iadd hC dX12_readLoss_156 h_1970 ?_
                have h_1971 := add_v h_1970 (by first | omega | (simp only [Int32.lt_iff_toInt_lt, Int32.le_iff_toInt_le, Int32.reduceToInt, ← Int32.toInt_inj, true_and, and_true, or_true, true_or, false_or, or_false, false_and, and_false, not_true_eq_false, not_false_eq_true] <;> omega)) (by first | omega | (simp only [Int32.lt_iff_toInt_lt, Int32.le_iff_toInt_le, Int32.reduceToInt, ← Int32.toInt_inj, true_and, and_true, or_true, true_or, false_or, or_false, false_and, and_false, not_true_eq_false, not_false_eq_true] <;> omega))
                try simp only [Int32.reduceToInt] at h_1971
                refine v_aload_n hC dX12_readLoss_157 rfl ?_
                refine v_iconst hC dX12_readLoss_158 (v := 0) (by decide) ?_
                refine v_bipush hC dX12_readLoss_159 (v := 15) (by decide) ?_
                refine v_vi hC (rest := [.int v_1969, .ref (q 14)]) m_1 hf_1965 rfl mi_X12_number ms_X12_number (p_X12_number hW_1962 k_0) mx_X12_number ml_X12_170 (by decide) rfl (cells1 := 0) (slots1 := 0) (by decide) (by decide) (Nat.le_of_ble_eq_true rfl) (Nat.le_of_ble_eq_true rfl) rfl (Nat.le_of_ble_eq_true rfl) dX12_readLoss_161 (fun r_1972 L_1973 f_1974 h_1975 => ?_)
                obtain ⟨rfl, hW_1977, hF_1978, -, -, -, -, -, x_1976⟩ := h_1975
                have fe_1979 : fld (f_1958 a_0) 8 = (v_1946 : Int32).toInt := by rw [hf_1965]; rfl
                have fe_1980 : fld (f_1958 a_0) 10 = (v_1948 : Int32).toInt := by rw [hf_1965]; rfl
                have fe_1981 : fld (f_1958 a_0) 12 = (v_1950 : Int32).toInt := by rw [hf_1965]; rfl
                have hf_1982 := hF_1978.at hf_1959 rfl
                obtain ⟨v_1984, v_1985, v_1986, v_1987, v_1988, v_1989, v_1990, v_1991, v_1992, v_1993, v_1994, e_1983, -, -, -, -, -, -, -⟩ := hW_1977.at m_1 t_2
                have fe_1995 : fld (f_1974 a_0) 8 = (v_1987 : Int32).toInt := by rw [e_1983]; rfl
                have fe_1996 : fld (f_1974 a_0) 9 = (v_1988 : Int32).toInt := by rw [e_1983]; rfl
                have fe_1997 : fld (f_1974 a_0) 10 = (v_1989 : Int32).toInt := by rw [e_1983]; rfl
                have fe_1998 : fld (f_1974 a_0) 12 = (v_1991 : Int32).toInt := by rw [e_1983]; rfl
                rw [fe_1998, fe_1981, fe_1980, fe_1979, fe_1996, fe_1995, fe_1997] at x_1976
                clear fe_1979 fe_1980 fe_1981 fe_1995 fe_1996 fe_1997 fe_1998
                try simp only [Int32.reduceToInt, Int64.reduceToInt] at x_1976
                refine v_iast hC m_22 hf_1982 (vp_in_iff.mpr (by first | omega | (simp only [Int32.lt_iff_toInt_lt, Int32.le_iff_toInt_le, Int32.reduceToInt, ← Int32.toInt_inj, true_and, and_true, or_true, true_or, false_or, or_false, false_and, and_false, not_true_eq_false, not_false_eq_true] <;> omega))) dX12_readLoss_164 (fun f_1999 hf_2000 hk_2001 => ?_)
                have hW_2003 := hW_1977.up hf_2000 hk_2001 t_23 ⟨_, rfl, (ok_1963.up (by first | omega | (simp only [Int32.lt_iff_toInt_lt, Int32.le_iff_toInt_le, Int32.reduceToInt, ← Int32.toInt_inj, true_and, and_true, or_true, true_or, false_or, or_false, false_and, and_false, not_true_eq_false, not_false_eq_true] <;> omega)) (fun q1 q2 => (by first | omega | (simp only [Int32.lt_iff_toInt_lt, Int32.le_iff_toInt_le, Int32.reduceToInt, ← Int32.toInt_inj] at *; omega))) (fun k9 q1 q2 q3 => (by first | omega | (simp only [Int32.lt_iff_toInt_lt, Int32.le_iff_toInt_le, Int32.reduceToInt, ← Int32.toInt_inj] at *; omega))))⟩
                obtain ⟨g_2002, hf_2000, ok_2004, eg_2005⟩ : ∃ g9, f_1999 (q 14) = aI E 2076 g9 ∧ FOK g9 ∧ g9 = upd g_1961 (v_1969 : Int32).toNatClampNeg r_1972 := ⟨_, hf_2000, (ok_1963.up (by first | omega | (simp only [Int32.lt_iff_toInt_lt, Int32.le_iff_toInt_le, Int32.reduceToInt, ← Int32.toInt_inj, true_and, and_true, or_true, true_or, false_or, or_false, false_and, and_false, not_true_eq_false, not_false_eq_true] <;> omega)) (fun q1 q2 => (by first | omega | (simp only [Int32.lt_iff_toInt_lt, Int32.le_iff_toInt_le, Int32.reduceToInt, ← Int32.toInt_inj] at *; omega))) (fun k9 q1 q2 q3 => (by first | omega | (simp only [Int32.lt_iff_toInt_lt, Int32.le_iff_toInt_le, Int32.reduceToInt, ← Int32.toInt_inj] at *; omega)))), rfl⟩
                have hf_2006 := (hk_2001 a_0 (ne_kd e_1983 hf_1982 rfl)).trans e_1983
                have fr_2007 := FR.w hk_2001 hf_1982 (k := 2176) rfl
                have lk_2008 := lf_at (g0 := g_f) eg_2005 (by omega) (by omega)
                have ag_2009 := ag_1968.st eg_2005 (by omega) (by omega)
                try simp only [Int32.reduceToInt] at lk_2008
                refine v_aload_n hC dX12_readLoss_165 rfl ?_
                refine v_get hC fl_X12_34 m_1 hf_2006 rfl dX12_readLoss_166 ?_
                refine v_iload_n hC dX12_readLoss_169 rfl ?_
                refine v_iconst hC dX12_readLoss_170 (v := 2) (by decide) ?_
                obtain ⟨v_2010, h_2011⟩ : ∃ v9 : Int32, v_41 + 2 = v9 := ⟨_, rfl⟩
                refine v_iadd hC dX12_readLoss_171 h_2011 ?_
                have h_2012 := add_v h_2011 (by first | omega | (simp only [Int32.lt_iff_toInt_lt, Int32.le_iff_toInt_le, Int32.reduceToInt, ← Int32.toInt_inj, true_and, and_true, or_true, true_or, false_or, or_false, false_and, and_false, not_true_eq_false, not_false_eq_true] <;> omega)) (by first | omega | (simp only [Int32.lt_iff_toInt_lt, Int32.le_iff_toInt_le, Int32.reduceToInt, ← Int32.toInt_inj, true_and, and_true, or_true, true_or, false_or, or_false, false_and, and_false, not_true_eq_false, not_false_eq_true] <;> omega))
                try simp only [Int32.reduceToInt] at h_2012
                refine v_aload_n hC dX12_readLoss_172 rfl ?_
                refine v_ldcwS hC sr_X12_295 dX12_readLoss_173 ?_
                refine v_aload_n hC dX12_readLoss_176 rfl ?_
                refine v_get hC fl_X12_34 m_1 hf_2006 rfl dX12_readLoss_177 ?_
                refine v_iload_n hC dX12_readLoss_180 rfl ?_
                refine v_iconst hC dX12_readLoss_181 (v := 1) (by decide) ?_
                obtain ⟨v_2013, h_2014⟩ : ∃ v9 : Int32, v_41 + 1 = v9 := ⟨_, rfl⟩
                refine v_iadd hC dX12_readLoss_182 h_2014 ?_
                have h_2015 := add_v h_2014 (by first | omega | (simp only [Int32.lt_iff_toInt_lt, Int32.le_iff_toInt_le, Int32.reduceToInt, ← Int32.toInt_inj, true_and, and_true, or_true, true_or, false_or, or_false, false_and, and_false, not_true_eq_false, not_false_eq_true] <;> omega)) (by first | omega | (simp only [Int32.lt_iff_toInt_lt, Int32.le_iff_toInt_le, Int32.reduceToInt, ← Int32.toInt_inj, true_and, and_true, or_true, true_or, false_or, or_false, false_and, and_false, not_true_eq_false, not_false_eq_true] <;> omega))
                try simp only [Int32.reduceToInt] at h_2015
                obtain ⟨v_2016, h_2017⟩ : ∃ v9 : Int32, g_2002 (v_2013 : Int32).toNatClampNeg = v9 := ⟨_, rfl⟩
                refine v_iald hC m_22 hf_2000 (vp_in_iff.mpr (by first | omega | (simp only [Int32.lt_iff_toInt_lt, Int32.le_iff_toInt_le, Int32.reduceToInt, ← Int32.toInt_inj, true_and, and_true, or_true, true_or, false_or, or_false, false_and, and_false, not_true_eq_false, not_false_eq_true] <;> omega))) h_2017 dX12_readLoss_183 ?_
                refine v_bipush hC dX12_readLoss_184 (v := 15) (by decide) ?_
                refine v_vi hC (rest := [.int v_2010, .ref (q 14)]) m_1 hf_2006 rfl mi_X12_told ms_X12_told (p_X12_told hW_2003 k_0 (by decide)) mx_X12_told ml_X12_189 (by decide) rfl (cells1 := 0) (slots1 := 0) (by decide) (by decide) (Nat.le_of_ble_eq_true rfl) (Nat.le_of_ble_eq_true rfl) rfl (Nat.le_of_ble_eq_true rfl) dX12_readLoss_186 (fun r_2018 L_2019 f_2020 h_2021 => ?_)
                obtain ⟨rfl, hW_2023, hF_2024, -, -, -, -, -, x_2022⟩ := h_2021
                have fe_2025 : fld (f_1999 a_0) 8 = (v_1987 : Int32).toInt := by rw [hf_2006]; rfl
                have fe_2026 : fld (f_1999 a_0) 12 = (v_1991 : Int32).toInt := by rw [hf_2006]; rfl
                have hf_2027 := hF_2024.at hf_2000 rfl
                obtain ⟨v_2029, v_2030, v_2031, v_2032, v_2033, v_2034, v_2035, v_2036, v_2037, v_2038, v_2039, e_2028, -, -, -, -, -, -, -⟩ := hW_2023.at m_1 t_2
                have fe_2040 : fld (f_2020 a_0) 8 = (v_2032 : Int32).toInt := by rw [e_2028]; rfl
                have fe_2041 : fld (f_2020 a_0) 9 = (v_2033 : Int32).toInt := by rw [e_2028]; rfl
                have fe_2042 : fld (f_2020 a_0) 10 = (v_2034 : Int32).toInt := by rw [e_2028]; rfl
                have fe_2043 : fld (f_2020 a_0) 12 = (v_2036 : Int32).toInt := by rw [e_2028]; rfl
                rw [fe_2043, fe_2026, fe_2025, fe_2041, fe_2040, fe_2042] at x_2022
                clear fe_2025 fe_2026 fe_2040 fe_2041 fe_2042 fe_2043
                try simp only [Int32.reduceToInt, Int64.reduceToInt] at x_2022
                refine v_iast hC m_22 hf_2027 (vp_in_iff.mpr (by first | omega | (simp only [Int32.lt_iff_toInt_lt, Int32.le_iff_toInt_le, Int32.reduceToInt, ← Int32.toInt_inj, true_and, and_true, or_true, true_or, false_or, or_false, false_and, and_false, not_true_eq_false, not_false_eq_true] <;> omega))) dX12_readLoss_189 (fun f_2044 hf_2045 hk_2046 => ?_)
                have hW_2048 := hW_2023.up hf_2045 hk_2046 t_23 ⟨_, rfl, (ok_2004.up (by first | omega | (simp only [Int32.lt_iff_toInt_lt, Int32.le_iff_toInt_le, Int32.reduceToInt, ← Int32.toInt_inj, true_and, and_true, or_true, true_or, false_or, or_false, false_and, and_false, not_true_eq_false, not_false_eq_true] <;> omega)) (fun q1 q2 => (by first | omega | (simp only [Int32.lt_iff_toInt_lt, Int32.le_iff_toInt_le, Int32.reduceToInt, ← Int32.toInt_inj] at *; omega))) (fun k9 q1 q2 q3 => (by first | omega | (simp only [Int32.lt_iff_toInt_lt, Int32.le_iff_toInt_le, Int32.reduceToInt, ← Int32.toInt_inj] at *; omega))))⟩
                obtain ⟨g_2047, hf_2045, ok_2049, eg_2050⟩ : ∃ g9, f_2044 (q 14) = aI E 2076 g9 ∧ FOK g9 ∧ g9 = upd g_2002 (v_2010 : Int32).toNatClampNeg r_2018 := ⟨_, hf_2045, (ok_2004.up (by first | omega | (simp only [Int32.lt_iff_toInt_lt, Int32.le_iff_toInt_le, Int32.reduceToInt, ← Int32.toInt_inj, true_and, and_true, or_true, true_or, false_or, or_false, false_and, and_false, not_true_eq_false, not_false_eq_true] <;> omega)) (fun q1 q2 => (by first | omega | (simp only [Int32.lt_iff_toInt_lt, Int32.le_iff_toInt_le, Int32.reduceToInt, ← Int32.toInt_inj] at *; omega))) (fun k9 q1 q2 q3 => (by first | omega | (simp only [Int32.lt_iff_toInt_lt, Int32.le_iff_toInt_le, Int32.reduceToInt, ← Int32.toInt_inj] at *; omega)))), rfl⟩
                have hf_2051 := (hk_2046 a_0 (ne_kd e_2028 hf_2027 rfl)).trans e_2028
                have fr_2052 := FR.w hk_2046 hf_2027 (k := 2176) rfl
                have lk_2053 := l2_at (g0 := g_f) eg_2050 (by omega) (by omega)
                have ag_2054 := ag_2009.st eg_2050 (by omega) (by omega)
                try simp only [Int32.reduceToInt] at lk_2053
                refine v_goto hC dX12_readLoss_190 (tgt := 258) (by decide) ?_
                refine v_aload_n hC dX12_readLoss_258 rfl ?_
                refine v_vv hC (rest := []) m_1 hf_2051 rfl mi_X12_ends ms_X12_ends (p_X12_ends hW_2048 k_0) mx_X12_ends ml_X12_178 (by decide) rfl (cells1 := 0) (slots1 := 0) (by decide) (by decide) (Nat.le_of_ble_eq_true rfl) (Nat.le_of_ble_eq_true rfl) rfl (Nat.le_of_ble_eq_true rfl) dX12_readLoss_259 (fun L_2056 f_2057 h_2058 => ?_)
                obtain ⟨rfl, hW_2060, hF_2061, -, -, -, -, x_2059⟩ := h_2058
                have fe_2062 : fld (f_2044 a_0) 8 = (v_2032 : Int32).toInt := by rw [hf_2051]; rfl
                have fe_2063 : fld (f_2044 a_0) 10 = (v_2034 : Int32).toInt := by rw [hf_2051]; rfl
                have fe_2064 : fld (f_2044 a_0) 12 = (v_2036 : Int32).toInt := by rw [hf_2051]; rfl
                have hf_2065 := hF_2061.at hf_2045 rfl
                obtain ⟨v_2067, v_2068, v_2069, v_2070, v_2071, v_2072, v_2073, v_2074, v_2075, v_2076, v_2077, e_2066, -, -, -, -, -, -, -⟩ := hW_2060.at m_1 t_2
                have fe_2078 : fld (f_2057 a_0) 8 = (v_2070 : Int32).toInt := by rw [e_2066]; rfl
                have fe_2079 : fld (f_2057 a_0) 9 = (v_2071 : Int32).toInt := by rw [e_2066]; rfl
                have fe_2080 : fld (f_2057 a_0) 10 = (v_2072 : Int32).toInt := by rw [e_2066]; rfl
                have fe_2081 : fld (f_2057 a_0) 12 = (v_2074 : Int32).toInt := by rw [e_2066]; rfl
                rw [fe_2081, fe_2064, fe_2063, fe_2062, fe_2079, fe_2078, fe_2080] at x_2059
                clear fe_2062 fe_2063 fe_2064 fe_2078 fe_2079 fe_2080 fe_2081
                refine v_aload_n hC dX12_readLoss_262 rfl ?_
                refine v_get hC fl_X12_34 m_1 e_2066 rfl dX12_readLoss_263 ?_
                refine v_bipush hC dX12_readLoss_266 (v := 6) (by decide) ?_
                refine v_dup2 hC dX12_readLoss_268 rfl rfl ?_
                have l6_2082 : (g_2047 6).toInt = (g_f 6).toInt := congrArg Int32.toInt ag_2054.2.1
                refine v_iald hC m_22 hf_2065 (vp_in_iff.mpr (by decide)) (v := g_2047 6) rfl dX12_readLoss_269 ?_
                refine v_iconst hC dX12_readLoss_270 (v := 1) (by decide) ?_
                obtain ⟨v_2083, h_2084⟩ : ∃ v9 : Int32, (g_2047 6) + 1 = v9 := ⟨_, rfl⟩
                refine v_iadd hC dX12_readLoss_271 h_2084 ?_
                have h_2085 := add_v h_2084 (by first | omega | (simp only [Int32.lt_iff_toInt_lt, Int32.le_iff_toInt_le, Int32.reduceToInt, ← Int32.toInt_inj, true_and, and_true, or_true, true_or, false_or, or_false, false_and, and_false, not_true_eq_false, not_false_eq_true] <;> omega)) (by first | omega | (simp only [Int32.lt_iff_toInt_lt, Int32.le_iff_toInt_le, Int32.reduceToInt, ← Int32.toInt_inj, true_and, and_true, or_true, true_or, false_or, or_false, false_and, and_false, not_true_eq_false, not_false_eq_true] <;> omega))
                try simp only [Int32.reduceToInt] at h_2085
                refine v_iast hC m_22 hf_2065 (vp_in_iff.mpr (by decide)) dX12_readLoss_272 (fun f_2086 hf_2087 hk_2088 => ?_)
                have hW_2090 := hW_2060.up hf_2087 hk_2088 t_23 ⟨_, rfl, (ok_2049.up (i := 6) (by decide) (fun q1 q2 => absurd (And.intro q1 q2) (by decide)) (fun k9 q1 q2 q3 => by simp only [Int32.reduceToInt] at q3; omega))⟩
                obtain ⟨g_2089, hf_2087, ok_2091, eg_2092⟩ : ∃ g9, f_2086 (q 14) = aI E 2076 g9 ∧ FOK g9 ∧ g9 = upd g_2047 (6 : Int32).toNatClampNeg v_2083 := ⟨_, hf_2087, (ok_2049.up (i := 6) (by decide) (fun q1 q2 => absurd (And.intro q1 q2) (by decide)) (fun k9 q1 q2 q3 => by simp only [Int32.reduceToInt] at q3; omega)), rfl⟩
                have hf_2093 := (hk_2088 a_0 (ne_kd e_2066 hf_2065 rfl)).trans e_2066
                have fr_2094 := FR.w hk_2088 hf_2065 (k := 2176) rfl
                have ln6_2095 := FOK.n6 ag_2054.1 eg_2092
                have ln6_2095_t : (g_2089 6).toInt = v_2083.toInt := congrArg Int32.toInt ln6_2095.2
                have fe_2096 : fld (f_2086 a_0) 12 = (v_2074 : Int32).toInt := by rw [hf_2093]; rfl
                have fe_2101 : fld (f_2086 a_0) 8 = (v_2070 : Int32).toInt := by rw [hf_2093]; rfl
                have fe_2102 : fld (f_2086 a_0) 12 = (v_2074 : Int32).toInt := by rw [hf_2093]; rfl
                exact hR _ _ _ _ _ _ dX12_readLoss_273 (Nat.le_of_ble_eq_true rfl) (Nat.le_of_ble_eq_true rfl) ⟨rfl, hW_2090, ((((((((((hF_1436.tr hF_1474).tr hF_1938).tr fr_1966).tr hF_1978).tr fr_2007).tr hF_2024).tr fr_2052).tr hF_2061).tr fr_2094).mono rfl), ⟨_, hf_2087, ln6_2095.1, (by omega), (by rw [fe_2096]; by_cases q9 : v_2074.toInt = 0; have gp_2097 := x_2059.resolve_left (fun h9 => h9 q9); clear x_2059; have gp_2098 := x_2022.resolve_left (fun h9 => h9 gp_2097.1); clear x_2022; have gp_2099 := x_1976.resolve_left (fun h9 => h9 gp_2098.1); clear x_1976; have gz_2100 := x_1936.symm.trans gp_2099.1; exact .inr (LO.fin hLO ag_2054 eg_2092 (by omega) (by omega) (fun q8 => by omega)); exact .inl q9)⟩, (by simp only [fe_2101, fe_2102, mz_36, mz_37]; by_cases q9 : (v_2074 : Int32).toInt = 0; have gp_2103 := x_2059.resolve_left (fun h9 => h9 q9); clear x_2059; have gp_2104 := x_2022.resolve_left (fun h9 => h9 gp_2103.1); clear x_2022; have gp_2105 := x_1976.resolve_left (fun h9 => h9 gp_2104.1); clear x_1976; have gz_2106 := x_1936.symm.trans gp_2105.1; (right; omega); exact .inl q9)⟩
            · simp only [Int32.lt_iff_toInt_lt, Int32.le_iff_toInt_le, Int32.reduceToInt, ← Int32.toInt_inj] at h_1771
              refine v_aload_n hC dX12_readLoss_110 rfl ?_
              refine v_ldcS hC sr_X12_193 dX12_readLoss_111 ?_
              refine v_vi hC (rest := []) m_1 e_1480 rfl mi_X12_is ms_X12_is (p_X12_is hW_1473 k_0 (by decide)) mx_X12_is ml_X12_152 (by decide) rfl (cells1 := 0) (slots1 := 0) (by decide) (by decide) (Nat.le_of_ble_eq_true rfl) (Nat.le_of_ble_eq_true rfl) rfl (Nat.le_of_ble_eq_true rfl) dX12_readLoss_113 (fun r_2107 L_2108 f_2109 h_2110 => ?_)
              obtain ⟨rfl, rfl, rfl⟩ := h_2110
              refine v_if_ne hC dX12_readLoss_116 (tgt := 124) (by decide) (fun h_2113 => ?_) (fun h_2113 => ?_)
              · simp only [Int32.lt_iff_toInt_lt, Int32.le_iff_toInt_le, Int32.reduceToInt, ← Int32.toInt_inj] at h_2113
                refine v_aload_n hC dX12_readLoss_124 rfl ?_
                refine v_vi hC (rest := []) m_1 e_1480 rfl mi_X12_good ms_X12_good (p_X12_good hW_1473 k_0) mx_X12_good ml_X12_139 (by decide) rfl (cells1 := 0) (slots1 := 0) (by decide) (by decide) (Nat.le_of_ble_eq_true rfl) (Nat.le_of_ble_eq_true rfl) rfl (Nat.le_of_ble_eq_true rfl) dX12_readLoss_125 (fun r_2114 L_2115 f_2116 h_2117 => ?_)
                obtain ⟨rfl, rfl, b_2118, x_2119⟩ := h_2117
                have fe_2122 : fld (f_1468 a_0) 12 = (v_1488 : Int32).toInt := by rw [e_1480]; rfl
                rw [fe_2122] at x_2119
                clear fe_2122
                try simp only [Int32.reduceToInt, Int64.reduceToInt] at x_2119
                refine v_if_eq hC dX12_readLoss_128 (tgt := 135) (by decide) (fun h_2123 => ?_) (fun h_2123 => ?_)
                · simp only [Int32.lt_iff_toInt_lt, Int32.le_iff_toInt_le, Int32.reduceToInt, ← Int32.toInt_inj] at h_2123
                  have g0_2124 := gd_f x_2119 h_2123
                  clear x_2119
                  clear x_1472
                  refine v_aload_n hC dX12_readLoss_135 rfl ?_
                  refine v_get hC fl_X12_34 m_1 e_1480 rfl dX12_readLoss_136 ?_
                  refine v_iload_n hC dX12_readLoss_139 rfl ?_
                  refine v_iload_n hC dX12_readLoss_140 rfl ?_
                  refine v_if_eq_t hC dX12_readLoss_141 (tgt := 148) (by decide) (by first | omega | (simp only [Int32.lt_iff_toInt_lt, Int32.le_iff_toInt_le, Int32.reduceToInt, ← Int32.toInt_inj, true_and, and_true, or_true, true_or, false_or, or_false, false_and, and_false, not_true_eq_false, not_false_eq_true] <;> omega)) ?_
                  refine v_iconst hC dX12_readLoss_148 (v := 0) (by decide) ?_
                  refine v_iast hC m_22 hf_1479 (vp_in_iff.mpr (by first | omega | (simp only [Int32.lt_iff_toInt_lt, Int32.le_iff_toInt_le, Int32.reduceToInt, ← Int32.toInt_inj, true_and, and_true, or_true, true_or, false_or, or_false, false_and, and_false, not_true_eq_false, not_false_eq_true] <;> omega))) dX12_readLoss_149 (fun f_2128 hf_2129 hk_2130 => ?_)
                  have hW_2132 := hW_1473.up hf_2129 hk_2130 t_23 ⟨_, rfl, (o_f.up (by first | omega | (simp only [Int32.lt_iff_toInt_lt, Int32.le_iff_toInt_le, Int32.reduceToInt, ← Int32.toInt_inj, true_and, and_true, or_true, true_or, false_or, or_false, false_and, and_false, not_true_eq_false, not_false_eq_true] <;> omega)) (fun q1 q2 => (by first | omega | (simp only [Int32.lt_iff_toInt_lt, Int32.le_iff_toInt_le, Int32.reduceToInt, ← Int32.toInt_inj] at *; omega))) (fun k9 q1 q2 q3 => (by first | omega | (simp only [Int32.lt_iff_toInt_lt, Int32.le_iff_toInt_le, Int32.reduceToInt, ← Int32.toInt_inj] at *; omega))))⟩
                  obtain ⟨g_2131, hf_2129, ok_2133, eg_2134⟩ : ∃ g9, f_2128 (q 14) = aI E 2076 g9 ∧ FOK g9 ∧ g9 = upd g_f (v_41 : Int32).toNatClampNeg 0 := ⟨_, hf_2129, (o_f.up (by first | omega | (simp only [Int32.lt_iff_toInt_lt, Int32.le_iff_toInt_le, Int32.reduceToInt, ← Int32.toInt_inj, true_and, and_true, or_true, true_or, false_or, or_false, false_and, and_false, not_true_eq_false, not_false_eq_true] <;> omega)) (fun q1 q2 => (by first | omega | (simp only [Int32.lt_iff_toInt_lt, Int32.le_iff_toInt_le, Int32.reduceToInt, ← Int32.toInt_inj] at *; omega))) (fun k9 q1 q2 q3 => (by first | omega | (simp only [Int32.lt_iff_toInt_lt, Int32.le_iff_toInt_le, Int32.reduceToInt, ← Int32.toInt_inj] at *; omega)))), rfl⟩
                  have hf_2135 := (hk_2130 a_0 (ne_kd e_1480 hf_1479 rfl)).trans e_1480
                  have fr_2136 := FR.w hk_2130 hf_1479 (k := 2176) rfl
                  have lk_2137 := lk_at (g0 := g_f) eg_2134 (by omega) (by omega)
                  have ag_2138 := (AG.rf o_f).st eg_2134 (by omega) (by omega)
                  try simp only [Int32.reduceToInt] at lk_2137
                  refine v_aload_n hC dX12_readLoss_150 rfl ?_
                  refine v_get hC fl_X12_34 m_1 hf_2135 rfl dX12_readLoss_151 ?_
                  refine v_iload_n hC dX12_readLoss_154 rfl ?_
                  refine v_iconst hC dX12_readLoss_155 (v := 1) (by decide) ?_
                  obtain ⟨v_2139, h_2140⟩ : ∃ v9 : Int32, v_41 + 1 = v9 := ⟨_, rfl⟩
                  refine v_iadd hC dX12_readLoss_156 h_2140 ?_
                  have h_2141 := add_v h_2140 (by first | omega | (simp only [Int32.lt_iff_toInt_lt, Int32.le_iff_toInt_le, Int32.reduceToInt, ← Int32.toInt_inj, true_and, and_true, or_true, true_or, false_or, or_false, false_and, and_false, not_true_eq_false, not_false_eq_true] <;> omega)) (by first | omega | (simp only [Int32.lt_iff_toInt_lt, Int32.le_iff_toInt_le, Int32.reduceToInt, ← Int32.toInt_inj, true_and, and_true, or_true, true_or, false_or, or_false, false_and, and_false, not_true_eq_false, not_false_eq_true] <;> omega))
                  try simp only [Int32.reduceToInt] at h_2141
                  refine v_aload_n hC dX12_readLoss_157 rfl ?_
                  refine v_iconst hC dX12_readLoss_158 (v := 0) (by decide) ?_
                  refine v_bipush hC dX12_readLoss_159 (v := 15) (by decide) ?_
                  refine v_vi hC (rest := [.int v_2139, .ref (q 14)]) m_1 hf_2135 rfl mi_X12_number ms_X12_number (p_X12_number hW_2132 k_0) mx_X12_number ml_X12_170 (by decide) rfl (cells1 := 0) (slots1 := 0) (by decide) (by decide) (Nat.le_of_ble_eq_true rfl) (Nat.le_of_ble_eq_true rfl) rfl (Nat.le_of_ble_eq_true rfl) dX12_readLoss_161 (fun r_2142 L_2143 f_2144 h_2145 => ?_)
                  obtain ⟨rfl, hW_2147, hF_2148, -, -, -, -, -, x_2146⟩ := h_2145
                  have fe_2149 : fld (f_2128 a_0) 8 = (v_1484 : Int32).toInt := by rw [hf_2135]; rfl
                  have fe_2150 : fld (f_2128 a_0) 10 = (v_1486 : Int32).toInt := by rw [hf_2135]; rfl
                  have fe_2151 : fld (f_2128 a_0) 12 = (v_1488 : Int32).toInt := by rw [hf_2135]; rfl
                  have hf_2152 := hF_2148.at hf_2129 rfl
                  obtain ⟨v_2154, v_2155, v_2156, v_2157, v_2158, v_2159, v_2160, v_2161, v_2162, v_2163, v_2164, e_2153, -, -, -, -, -, -, -⟩ := hW_2147.at m_1 t_2
                  have fe_2165 : fld (f_2144 a_0) 8 = (v_2157 : Int32).toInt := by rw [e_2153]; rfl
                  have fe_2166 : fld (f_2144 a_0) 9 = (v_2158 : Int32).toInt := by rw [e_2153]; rfl
                  have fe_2167 : fld (f_2144 a_0) 10 = (v_2159 : Int32).toInt := by rw [e_2153]; rfl
                  have fe_2168 : fld (f_2144 a_0) 12 = (v_2161 : Int32).toInt := by rw [e_2153]; rfl
                  rw [fe_2168, fe_2151, fe_2150, fe_2149, fe_2166, fe_2165, fe_2167] at x_2146
                  have nb_2169 : ¬ (v_2161 : Int32).toInt = 0 := x_2146.elim id (fun h9 => absurd h9.1 g0_2124)
                  clear x_2146
                  clear fe_2149 fe_2150 fe_2151 fe_2165 fe_2166 fe_2167 fe_2168
                  try simp only [Int32.reduceToInt, Int64.reduceToInt] at x_2146
                  refine v_iast hC m_22 hf_2152 (vp_in_iff.mpr (by first | omega | (simp only [Int32.lt_iff_toInt_lt, Int32.le_iff_toInt_le, Int32.reduceToInt, ← Int32.toInt_inj, true_and, and_true, or_true, true_or, false_or, or_false, false_and, and_false, not_true_eq_false, not_false_eq_true] <;> omega))) dX12_readLoss_164 (fun f_2170 hf_2171 hk_2172 => ?_)
                  have hW_2174 := hW_2147.up hf_2171 hk_2172 t_23 ⟨_, rfl, (ok_2133.up (by first | omega | (simp only [Int32.lt_iff_toInt_lt, Int32.le_iff_toInt_le, Int32.reduceToInt, ← Int32.toInt_inj, true_and, and_true, or_true, true_or, false_or, or_false, false_and, and_false, not_true_eq_false, not_false_eq_true] <;> omega)) (fun q1 q2 => (by first | omega | (simp only [Int32.lt_iff_toInt_lt, Int32.le_iff_toInt_le, Int32.reduceToInt, ← Int32.toInt_inj] at *; omega))) (fun k9 q1 q2 q3 => (by first | omega | (simp only [Int32.lt_iff_toInt_lt, Int32.le_iff_toInt_le, Int32.reduceToInt, ← Int32.toInt_inj] at *; omega))))⟩
                  obtain ⟨g_2173, hf_2171, ok_2175, eg_2176⟩ : ∃ g9, f_2170 (q 14) = aI E 2076 g9 ∧ FOK g9 ∧ g9 = upd g_2131 (v_2139 : Int32).toNatClampNeg r_2142 := ⟨_, hf_2171, (ok_2133.up (by first | omega | (simp only [Int32.lt_iff_toInt_lt, Int32.le_iff_toInt_le, Int32.reduceToInt, ← Int32.toInt_inj, true_and, and_true, or_true, true_or, false_or, or_false, false_and, and_false, not_true_eq_false, not_false_eq_true] <;> omega)) (fun q1 q2 => (by first | omega | (simp only [Int32.lt_iff_toInt_lt, Int32.le_iff_toInt_le, Int32.reduceToInt, ← Int32.toInt_inj] at *; omega))) (fun k9 q1 q2 q3 => (by first | omega | (simp only [Int32.lt_iff_toInt_lt, Int32.le_iff_toInt_le, Int32.reduceToInt, ← Int32.toInt_inj] at *; omega)))), rfl⟩
                  have hf_2177 := (hk_2172 a_0 (ne_kd e_2153 hf_2152 rfl)).trans e_2153
                  have fr_2178 := FR.w hk_2172 hf_2152 (k := 2176) rfl
                  have lk_2179 := lf_at (g0 := g_f) eg_2176 (by omega) (by omega)
                  have ag_2180 := ag_2138.st eg_2176 (by omega) (by omega)
                  try simp only [Int32.reduceToInt] at lk_2179
                  refine v_aload_n hC dX12_readLoss_165 rfl ?_
                  refine v_get hC fl_X12_34 m_1 hf_2177 rfl dX12_readLoss_166 ?_
                  refine v_iload_n hC dX12_readLoss_169 rfl ?_
                  refine v_iconst hC dX12_readLoss_170 (v := 2) (by decide) ?_
                  obtain ⟨v_2181, h_2182⟩ : ∃ v9 : Int32, v_41 + 2 = v9 := ⟨_, rfl⟩
                  refine v_iadd hC dX12_readLoss_171 h_2182 ?_
                  have h_2183 := add_v h_2182 (by first | omega | (simp only [Int32.lt_iff_toInt_lt, Int32.le_iff_toInt_le, Int32.reduceToInt, ← Int32.toInt_inj, true_and, and_true, or_true, true_or, false_or, or_false, false_and, and_false, not_true_eq_false, not_false_eq_true] <;> omega)) (by first | omega | (simp only [Int32.lt_iff_toInt_lt, Int32.le_iff_toInt_le, Int32.reduceToInt, ← Int32.toInt_inj, true_and, and_true, or_true, true_or, false_or, or_false, false_and, and_false, not_true_eq_false, not_false_eq_true] <;> omega))
                  try simp only [Int32.reduceToInt] at h_2183
                  refine v_aload_n hC dX12_readLoss_172 rfl ?_
                  refine v_ldcwS hC sr_X12_295 dX12_readLoss_173 ?_
                  refine v_aload_n hC dX12_readLoss_176 rfl ?_
                  refine v_get hC fl_X12_34 m_1 hf_2177 rfl dX12_readLoss_177 ?_
                  refine v_iload_n hC dX12_readLoss_180 rfl ?_
                  refine v_iconst hC dX12_readLoss_181 (v := 1) (by decide) ?_
                  obtain ⟨v_2184, h_2185⟩ : ∃ v9 : Int32, v_41 + 1 = v9 := ⟨_, rfl⟩
                  refine v_iadd hC dX12_readLoss_182 h_2185 ?_
                  have h_2186 := add_v h_2185 (by first | omega | (simp only [Int32.lt_iff_toInt_lt, Int32.le_iff_toInt_le, Int32.reduceToInt, ← Int32.toInt_inj, true_and, and_true, or_true, true_or, false_or, or_false, false_and, and_false, not_true_eq_false, not_false_eq_true] <;> omega)) (by first | omega | (simp only [Int32.lt_iff_toInt_lt, Int32.le_iff_toInt_le, Int32.reduceToInt, ← Int32.toInt_inj, true_and, and_true, or_true, true_or, false_or, or_false, false_and, and_false, not_true_eq_false, not_false_eq_true] <;> omega))
                  try simp only [Int32.reduceToInt] at h_2186
                  obtain ⟨v_2187, h_2188⟩ : ∃ v9 : Int32, g_2173 (v_2184 : Int32).toNatClampNeg = v9 := ⟨_, rfl⟩
                  refine v_iald hC m_22 hf_2171 (vp_in_iff.mpr (by first | omega | (simp only [Int32.lt_iff_toInt_lt, Int32.le_iff_toInt_le, Int32.reduceToInt, ← Int32.toInt_inj, true_and, and_true, or_true, true_or, false_or, or_false, false_and, and_false, not_true_eq_false, not_false_eq_true] <;> omega))) h_2188 dX12_readLoss_183 ?_
                  refine v_bipush hC dX12_readLoss_184 (v := 15) (by decide) ?_
                  refine v_vi hC (rest := [.int v_2181, .ref (q 14)]) m_1 hf_2177 rfl mi_X12_told ms_X12_told (p_X12_told hW_2174 k_0 (by decide)) mx_X12_told ml_X12_189 (by decide) rfl (cells1 := 0) (slots1 := 0) (by decide) (by decide) (Nat.le_of_ble_eq_true rfl) (Nat.le_of_ble_eq_true rfl) rfl (Nat.le_of_ble_eq_true rfl) dX12_readLoss_186 (fun r_2189 L_2190 f_2191 h_2192 => ?_)
                  obtain ⟨rfl, hW_2194, hF_2195, -, -, -, -, -, x_2193⟩ := h_2192
                  have fe_2196 : fld (f_2170 a_0) 8 = (v_2157 : Int32).toInt := by rw [hf_2177]; rfl
                  have fe_2197 : fld (f_2170 a_0) 12 = (v_2161 : Int32).toInt := by rw [hf_2177]; rfl
                  have hf_2198 := hF_2195.at hf_2171 rfl
                  obtain ⟨v_2200, v_2201, v_2202, v_2203, v_2204, v_2205, v_2206, v_2207, v_2208, v_2209, v_2210, e_2199, -, -, -, -, -, -, -⟩ := hW_2194.at m_1 t_2
                  have fe_2211 : fld (f_2191 a_0) 8 = (v_2203 : Int32).toInt := by rw [e_2199]; rfl
                  have fe_2212 : fld (f_2191 a_0) 9 = (v_2204 : Int32).toInt := by rw [e_2199]; rfl
                  have fe_2213 : fld (f_2191 a_0) 10 = (v_2205 : Int32).toInt := by rw [e_2199]; rfl
                  have fe_2214 : fld (f_2191 a_0) 12 = (v_2207 : Int32).toInt := by rw [e_2199]; rfl
                  rw [fe_2214, fe_2197, fe_2196, fe_2212, fe_2211, fe_2213] at x_2193
                  have nb_2215 : ¬ (v_2207 : Int32).toInt = 0 := x_2193.elim id (fun h9 => absurd h9.1 nb_2169)
                  clear x_2193
                  clear fe_2196 fe_2197 fe_2211 fe_2212 fe_2213 fe_2214
                  try simp only [Int32.reduceToInt, Int64.reduceToInt] at x_2193
                  refine v_iast hC m_22 hf_2198 (vp_in_iff.mpr (by first | omega | (simp only [Int32.lt_iff_toInt_lt, Int32.le_iff_toInt_le, Int32.reduceToInt, ← Int32.toInt_inj, true_and, and_true, or_true, true_or, false_or, or_false, false_and, and_false, not_true_eq_false, not_false_eq_true] <;> omega))) dX12_readLoss_189 (fun f_2216 hf_2217 hk_2218 => ?_)
                  have hW_2220 := hW_2194.up hf_2217 hk_2218 t_23 ⟨_, rfl, (ok_2175.up (by first | omega | (simp only [Int32.lt_iff_toInt_lt, Int32.le_iff_toInt_le, Int32.reduceToInt, ← Int32.toInt_inj, true_and, and_true, or_true, true_or, false_or, or_false, false_and, and_false, not_true_eq_false, not_false_eq_true] <;> omega)) (fun q1 q2 => (by first | omega | (simp only [Int32.lt_iff_toInt_lt, Int32.le_iff_toInt_le, Int32.reduceToInt, ← Int32.toInt_inj] at *; omega))) (fun k9 q1 q2 q3 => (by first | omega | (simp only [Int32.lt_iff_toInt_lt, Int32.le_iff_toInt_le, Int32.reduceToInt, ← Int32.toInt_inj] at *; omega))))⟩
                  obtain ⟨g_2219, hf_2217, ok_2221, eg_2222⟩ : ∃ g9, f_2216 (q 14) = aI E 2076 g9 ∧ FOK g9 ∧ g9 = upd g_2173 (v_2181 : Int32).toNatClampNeg r_2189 := ⟨_, hf_2217, (ok_2175.up (by first | omega | (simp only [Int32.lt_iff_toInt_lt, Int32.le_iff_toInt_le, Int32.reduceToInt, ← Int32.toInt_inj, true_and, and_true, or_true, true_or, false_or, or_false, false_and, and_false, not_true_eq_false, not_false_eq_true] <;> omega)) (fun q1 q2 => (by first | omega | (simp only [Int32.lt_iff_toInt_lt, Int32.le_iff_toInt_le, Int32.reduceToInt, ← Int32.toInt_inj] at *; omega))) (fun k9 q1 q2 q3 => (by first | omega | (simp only [Int32.lt_iff_toInt_lt, Int32.le_iff_toInt_le, Int32.reduceToInt, ← Int32.toInt_inj] at *; omega)))), rfl⟩
                  have hf_2223 := (hk_2218 a_0 (ne_kd e_2199 hf_2198 rfl)).trans e_2199
                  have fr_2224 := FR.w hk_2218 hf_2198 (k := 2176) rfl
                  have lk_2225 := l2_at (g0 := g_f) eg_2222 (by omega) (by omega)
                  have ag_2226 := ag_2180.st eg_2222 (by omega) (by omega)
                  try simp only [Int32.reduceToInt] at lk_2225
                  refine v_goto hC dX12_readLoss_190 (tgt := 258) (by decide) ?_
                  refine v_aload_n hC dX12_readLoss_258 rfl ?_
                  refine v_vv hC (rest := []) m_1 hf_2223 rfl mi_X12_ends ms_X12_ends (p_X12_ends hW_2220 k_0) mx_X12_ends ml_X12_178 (by decide) rfl (cells1 := 0) (slots1 := 0) (by decide) (by decide) (Nat.le_of_ble_eq_true rfl) (Nat.le_of_ble_eq_true rfl) rfl (Nat.le_of_ble_eq_true rfl) dX12_readLoss_259 (fun L_2228 f_2229 h_2230 => ?_)
                  obtain ⟨rfl, hW_2232, hF_2233, -, -, -, -, x_2231⟩ := h_2230
                  have fe_2234 : fld (f_2216 a_0) 8 = (v_2203 : Int32).toInt := by rw [hf_2223]; rfl
                  have fe_2235 : fld (f_2216 a_0) 10 = (v_2205 : Int32).toInt := by rw [hf_2223]; rfl
                  have fe_2236 : fld (f_2216 a_0) 12 = (v_2207 : Int32).toInt := by rw [hf_2223]; rfl
                  have hf_2237 := hF_2233.at hf_2217 rfl
                  obtain ⟨v_2239, v_2240, v_2241, v_2242, v_2243, v_2244, v_2245, v_2246, v_2247, v_2248, v_2249, e_2238, -, -, -, -, -, -, -⟩ := hW_2232.at m_1 t_2
                  have fe_2250 : fld (f_2229 a_0) 8 = (v_2242 : Int32).toInt := by rw [e_2238]; rfl
                  have fe_2251 : fld (f_2229 a_0) 9 = (v_2243 : Int32).toInt := by rw [e_2238]; rfl
                  have fe_2252 : fld (f_2229 a_0) 10 = (v_2244 : Int32).toInt := by rw [e_2238]; rfl
                  have fe_2253 : fld (f_2229 a_0) 12 = (v_2246 : Int32).toInt := by rw [e_2238]; rfl
                  rw [fe_2253, fe_2236, fe_2235, fe_2234, fe_2251, fe_2250, fe_2252] at x_2231
                  have nb_2254 : ¬ (v_2246 : Int32).toInt = 0 := x_2231.elim id (fun h9 => absurd h9.1 nb_2215)
                  clear x_2231
                  clear fe_2234 fe_2235 fe_2236 fe_2250 fe_2251 fe_2252 fe_2253
                  refine v_aload_n hC dX12_readLoss_262 rfl ?_
                  refine v_get hC fl_X12_34 m_1 e_2238 rfl dX12_readLoss_263 ?_
                  refine v_bipush hC dX12_readLoss_266 (v := 6) (by decide) ?_
                  refine v_dup2 hC dX12_readLoss_268 rfl rfl ?_
                  have l6_2255 : (g_2219 6).toInt = (g_f 6).toInt := congrArg Int32.toInt ag_2226.2.1
                  refine v_iald hC m_22 hf_2237 (vp_in_iff.mpr (by decide)) (v := g_2219 6) rfl dX12_readLoss_269 ?_
                  refine v_iconst hC dX12_readLoss_270 (v := 1) (by decide) ?_
                  obtain ⟨v_2256, h_2257⟩ : ∃ v9 : Int32, (g_2219 6) + 1 = v9 := ⟨_, rfl⟩
                  refine v_iadd hC dX12_readLoss_271 h_2257 ?_
                  have h_2258 := add_v h_2257 (by first | omega | (simp only [Int32.lt_iff_toInt_lt, Int32.le_iff_toInt_le, Int32.reduceToInt, ← Int32.toInt_inj, true_and, and_true, or_true, true_or, false_or, or_false, false_and, and_false, not_true_eq_false, not_false_eq_true] <;> omega)) (by first | omega | (simp only [Int32.lt_iff_toInt_lt, Int32.le_iff_toInt_le, Int32.reduceToInt, ← Int32.toInt_inj, true_and, and_true, or_true, true_or, false_or, or_false, false_and, and_false, not_true_eq_false, not_false_eq_true] <;> omega))
                  try simp only [Int32.reduceToInt] at h_2258
                  refine v_iast hC m_22 hf_2237 (vp_in_iff.mpr (by decide)) dX12_readLoss_272 (fun f_2259 hf_2260 hk_2261 => ?_)
                  have hW_2263 := hW_2232.up hf_2260 hk_2261 t_23 ⟨_, rfl, (ok_2221.up (i := 6) (by decide) (fun q1 q2 => absurd (And.intro q1 q2) (by decide)) (fun k9 q1 q2 q3 => by simp only [Int32.reduceToInt] at q3; omega))⟩
                  obtain ⟨g_2262, hf_2260, ok_2264, eg_2265⟩ : ∃ g9, f_2259 (q 14) = aI E 2076 g9 ∧ FOK g9 ∧ g9 = upd g_2219 (6 : Int32).toNatClampNeg v_2256 := ⟨_, hf_2260, (ok_2221.up (i := 6) (by decide) (fun q1 q2 => absurd (And.intro q1 q2) (by decide)) (fun k9 q1 q2 q3 => by simp only [Int32.reduceToInt] at q3; omega)), rfl⟩
                  have hf_2266 := (hk_2261 a_0 (ne_kd e_2238 hf_2237 rfl)).trans e_2238
                  have fr_2267 := FR.w hk_2261 hf_2237 (k := 2176) rfl
                  have ln6_2268 := FOK.n6 ag_2226.1 eg_2265
                  have ln6_2268_t : (g_2262 6).toInt = v_2256.toInt := congrArg Int32.toInt ln6_2268.2
                  have fe_2269 : fld (f_2259 a_0) 12 = (v_2246 : Int32).toInt := by rw [hf_2266]; rfl
                  have fe_2270 : fld (f_2259 a_0) 8 = (v_2242 : Int32).toInt := by rw [hf_2266]; rfl
                  have fe_2271 : fld (f_2259 a_0) 12 = (v_2246 : Int32).toInt := by rw [hf_2266]; rfl
                  exact hR _ _ _ _ _ _ dX12_readLoss_273 (Nat.le_of_ble_eq_true rfl) (Nat.le_of_ble_eq_true rfl) ⟨rfl, hW_2263, (((((((((hF_1436.tr hF_1474).tr fr_2136).tr hF_2148).tr fr_2178).tr hF_2195).tr fr_2224).tr hF_2233).tr fr_2267).mono rfl), ⟨_, hf_2260, ln6_2268.1, (by omega), (by rw [fe_2269]; exact .inl nb_2254)⟩, (by simp only [fe_2270, fe_2271, mz_36, mz_37]; exact .inl nb_2254)⟩
                · simp only [Int32.lt_iff_toInt_lt, Int32.le_iff_toInt_le, Int32.reduceToInt, ← Int32.toInt_inj] at h_2123
                  have nb_2125 : (1 ≤ r_2114.toInt ∧ r_2114.toInt ≤ 1) := by omega
                  have g0_2126 := gd_t x_2119 h_2123
                  clear x_2119
                  have gz_2127 := x_1472.symm.trans g0_2126
                  refine v_aload_n hC dX12_readLoss_131 rfl ?_
                  refine v_vv hC (rest := []) m_1 e_1480 rfl mi_X12_advance ms_X12_advance (p_X12_advance hW_1473 k_0) mx_X12_advance ml_X12_156 (by decide) rfl (cells1 := 0) (slots1 := 0) (by decide) (by decide) (Nat.le_of_ble_eq_true rfl) (Nat.le_of_ble_eq_true rfl) rfl (Nat.le_of_ble_eq_true rfl) dX12_readLoss_132 (fun L_2273 f_2274 h_2275 => ?_)
                  obtain ⟨rfl, hW_2279, hF_2280, x_2276, x_2277, x_2278, -⟩ := h_2275
                  have fe_2281 : fld (f_1468 a_0) 8 = (v_1484 : Int32).toInt := by rw [e_1480]; rfl
                  have fe_2282 : fld (f_1468 a_0) 12 = (v_1488 : Int32).toInt := by rw [e_1480]; rfl
                  have hf_2283 := hF_2280.at hf_1479 rfl
                  obtain ⟨v_2285, v_2286, v_2287, v_2288, v_2289, v_2290, v_2291, v_2292, v_2293, v_2294, v_2295, e_2284, -, -, -, -, -, -, -⟩ := hW_2279.at m_1 t_2
                  have fe_2296 : fld (f_2274 a_0) 8 = (v_2288 : Int32).toInt := by rw [e_2284]; rfl
                  have fe_2297 : fld (f_2274 a_0) 9 = (v_2289 : Int32).toInt := by rw [e_2284]; rfl
                  have fe_2298 : fld (f_2274 a_0) 10 = (v_2290 : Int32).toInt := by rw [e_2284]; rfl
                  have fe_2299 : fld (f_2274 a_0) 12 = (v_2292 : Int32).toInt := by rw [e_2284]; rfl
                  rw [fe_2281, fe_2297, fe_2296] at x_2276
                  rw [fe_2298, fe_2297, fe_2296] at x_2277
                  rw [fe_2299, fe_2282] at x_2278
                  clear fe_2281 fe_2282 fe_2296 fe_2297 fe_2298 fe_2299
                  refine v_aload_n hC dX12_readLoss_135 rfl ?_
                  refine v_get hC fl_X12_34 m_1 e_2284 rfl dX12_readLoss_136 ?_
                  refine v_iload_n hC dX12_readLoss_139 rfl ?_
                  refine v_iload_n hC dX12_readLoss_140 rfl ?_
                  refine v_if_eq_t hC dX12_readLoss_141 (tgt := 148) (by decide) (by first | omega | (simp only [Int32.lt_iff_toInt_lt, Int32.le_iff_toInt_le, Int32.reduceToInt, ← Int32.toInt_inj, true_and, and_true, or_true, true_or, false_or, or_false, false_and, and_false, not_true_eq_false, not_false_eq_true] <;> omega)) ?_
                  refine v_iconst hC dX12_readLoss_148 (v := 0) (by decide) ?_
                  refine v_iast hC m_22 hf_2283 (vp_in_iff.mpr (by first | omega | (simp only [Int32.lt_iff_toInt_lt, Int32.le_iff_toInt_le, Int32.reduceToInt, ← Int32.toInt_inj, true_and, and_true, or_true, true_or, false_or, or_false, false_and, and_false, not_true_eq_false, not_false_eq_true] <;> omega))) dX12_readLoss_149 (fun f_2300 hf_2301 hk_2302 => ?_)
                  have hW_2304 := hW_2279.up hf_2301 hk_2302 t_23 ⟨_, rfl, (o_f.up (by first | omega | (simp only [Int32.lt_iff_toInt_lt, Int32.le_iff_toInt_le, Int32.reduceToInt, ← Int32.toInt_inj, true_and, and_true, or_true, true_or, false_or, or_false, false_and, and_false, not_true_eq_false, not_false_eq_true] <;> omega)) (fun q1 q2 => (by first | omega | (simp only [Int32.lt_iff_toInt_lt, Int32.le_iff_toInt_le, Int32.reduceToInt, ← Int32.toInt_inj] at *; omega))) (fun k9 q1 q2 q3 => (by first | omega | (simp only [Int32.lt_iff_toInt_lt, Int32.le_iff_toInt_le, Int32.reduceToInt, ← Int32.toInt_inj] at *; omega))))⟩
                  obtain ⟨g_2303, hf_2301, ok_2305, eg_2306⟩ : ∃ g9, f_2300 (q 14) = aI E 2076 g9 ∧ FOK g9 ∧ g9 = upd g_f (v_41 : Int32).toNatClampNeg 0 := ⟨_, hf_2301, (o_f.up (by first | omega | (simp only [Int32.lt_iff_toInt_lt, Int32.le_iff_toInt_le, Int32.reduceToInt, ← Int32.toInt_inj, true_and, and_true, or_true, true_or, false_or, or_false, false_and, and_false, not_true_eq_false, not_false_eq_true] <;> omega)) (fun q1 q2 => (by first | omega | (simp only [Int32.lt_iff_toInt_lt, Int32.le_iff_toInt_le, Int32.reduceToInt, ← Int32.toInt_inj] at *; omega))) (fun k9 q1 q2 q3 => (by first | omega | (simp only [Int32.lt_iff_toInt_lt, Int32.le_iff_toInt_le, Int32.reduceToInt, ← Int32.toInt_inj] at *; omega)))), rfl⟩
                  have hf_2307 := (hk_2302 a_0 (ne_kd e_2284 hf_2283 rfl)).trans e_2284
                  have fr_2308 := FR.w hk_2302 hf_2283 (k := 2176) rfl
                  have lk_2309 := lk_at (g0 := g_f) eg_2306 (by omega) (by omega)
                  have ag_2310 := (AG.rf o_f).st eg_2306 (by omega) (by omega)
                  try simp only [Int32.reduceToInt] at lk_2309
                  refine v_aload_n hC dX12_readLoss_150 rfl ?_
                  refine v_get hC fl_X12_34 m_1 hf_2307 rfl dX12_readLoss_151 ?_
                  refine v_iload_n hC dX12_readLoss_154 rfl ?_
                  refine v_iconst hC dX12_readLoss_155 (v := 1) (by decide) ?_
                  obtain ⟨v_2311, h_2312⟩ : ∃ v9 : Int32, v_41 + 1 = v9 := ⟨_, rfl⟩
                  refine v_iadd hC dX12_readLoss_156 h_2312 ?_
                  have h_2313 := add_v h_2312 (by first | omega | (simp only [Int32.lt_iff_toInt_lt, Int32.le_iff_toInt_le, Int32.reduceToInt, ← Int32.toInt_inj, true_and, and_true, or_true, true_or, false_or, or_false, false_and, and_false, not_true_eq_false, not_false_eq_true] <;> omega)) (by first | omega | (simp only [Int32.lt_iff_toInt_lt, Int32.le_iff_toInt_le, Int32.reduceToInt, ← Int32.toInt_inj, true_and, and_true, or_true, true_or, false_or, or_false, false_and, and_false, not_true_eq_false, not_false_eq_true] <;> omega))
                  try simp only [Int32.reduceToInt] at h_2313
                  refine v_aload_n hC dX12_readLoss_157 rfl ?_
                  refine v_iconst hC dX12_readLoss_158 (v := 0) (by decide) ?_
                  refine v_bipush hC dX12_readLoss_159 (v := 15) (by decide) ?_
                  refine v_vi hC (rest := [.int v_2311, .ref (q 14)]) m_1 hf_2307 rfl mi_X12_number ms_X12_number (p_X12_number hW_2304 k_0) mx_X12_number ml_X12_170 (by decide) rfl (cells1 := 0) (slots1 := 0) (by decide) (by decide) (Nat.le_of_ble_eq_true rfl) (Nat.le_of_ble_eq_true rfl) rfl (Nat.le_of_ble_eq_true rfl) dX12_readLoss_161 (fun r_2314 L_2315 f_2316 h_2317 => ?_)
                  obtain ⟨rfl, hW_2319, hF_2320, -, -, -, -, -, x_2318⟩ := h_2317
                  have fe_2321 : fld (f_2300 a_0) 8 = (v_2288 : Int32).toInt := by rw [hf_2307]; rfl
                  have fe_2322 : fld (f_2300 a_0) 10 = (v_2290 : Int32).toInt := by rw [hf_2307]; rfl
                  have fe_2323 : fld (f_2300 a_0) 12 = (v_2292 : Int32).toInt := by rw [hf_2307]; rfl
                  have hf_2324 := hF_2320.at hf_2301 rfl
                  obtain ⟨v_2326, v_2327, v_2328, v_2329, v_2330, v_2331, v_2332, v_2333, v_2334, v_2335, v_2336, e_2325, -, -, -, -, -, -, -⟩ := hW_2319.at m_1 t_2
                  have fe_2337 : fld (f_2316 a_0) 8 = (v_2329 : Int32).toInt := by rw [e_2325]; rfl
                  have fe_2338 : fld (f_2316 a_0) 9 = (v_2330 : Int32).toInt := by rw [e_2325]; rfl
                  have fe_2339 : fld (f_2316 a_0) 10 = (v_2331 : Int32).toInt := by rw [e_2325]; rfl
                  have fe_2340 : fld (f_2316 a_0) 12 = (v_2333 : Int32).toInt := by rw [e_2325]; rfl
                  rw [fe_2340, fe_2323, fe_2322, fe_2321, fe_2338, fe_2337, fe_2339] at x_2318
                  clear fe_2321 fe_2322 fe_2323 fe_2337 fe_2338 fe_2339 fe_2340
                  try simp only [Int32.reduceToInt, Int64.reduceToInt] at x_2318
                  refine v_iast hC m_22 hf_2324 (vp_in_iff.mpr (by first | omega | (simp only [Int32.lt_iff_toInt_lt, Int32.le_iff_toInt_le, Int32.reduceToInt, ← Int32.toInt_inj, true_and, and_true, or_true, true_or, false_or, or_false, false_and, and_false, not_true_eq_false, not_false_eq_true] <;> omega))) dX12_readLoss_164 (fun f_2341 hf_2342 hk_2343 => ?_)
                  have hW_2345 := hW_2319.up hf_2342 hk_2343 t_23 ⟨_, rfl, (ok_2305.up (by first | omega | (simp only [Int32.lt_iff_toInt_lt, Int32.le_iff_toInt_le, Int32.reduceToInt, ← Int32.toInt_inj, true_and, and_true, or_true, true_or, false_or, or_false, false_and, and_false, not_true_eq_false, not_false_eq_true] <;> omega)) (fun q1 q2 => (by first | omega | (simp only [Int32.lt_iff_toInt_lt, Int32.le_iff_toInt_le, Int32.reduceToInt, ← Int32.toInt_inj] at *; omega))) (fun k9 q1 q2 q3 => (by first | omega | (simp only [Int32.lt_iff_toInt_lt, Int32.le_iff_toInt_le, Int32.reduceToInt, ← Int32.toInt_inj] at *; omega))))⟩
                  obtain ⟨g_2344, hf_2342, ok_2346, eg_2347⟩ : ∃ g9, f_2341 (q 14) = aI E 2076 g9 ∧ FOK g9 ∧ g9 = upd g_2303 (v_2311 : Int32).toNatClampNeg r_2314 := ⟨_, hf_2342, (ok_2305.up (by first | omega | (simp only [Int32.lt_iff_toInt_lt, Int32.le_iff_toInt_le, Int32.reduceToInt, ← Int32.toInt_inj, true_and, and_true, or_true, true_or, false_or, or_false, false_and, and_false, not_true_eq_false, not_false_eq_true] <;> omega)) (fun q1 q2 => (by first | omega | (simp only [Int32.lt_iff_toInt_lt, Int32.le_iff_toInt_le, Int32.reduceToInt, ← Int32.toInt_inj] at *; omega))) (fun k9 q1 q2 q3 => (by first | omega | (simp only [Int32.lt_iff_toInt_lt, Int32.le_iff_toInt_le, Int32.reduceToInt, ← Int32.toInt_inj] at *; omega)))), rfl⟩
                  have hf_2348 := (hk_2343 a_0 (ne_kd e_2325 hf_2324 rfl)).trans e_2325
                  have fr_2349 := FR.w hk_2343 hf_2324 (k := 2176) rfl
                  have lk_2350 := lf_at (g0 := g_f) eg_2347 (by omega) (by omega)
                  have ag_2351 := ag_2310.st eg_2347 (by omega) (by omega)
                  try simp only [Int32.reduceToInt] at lk_2350
                  refine v_aload_n hC dX12_readLoss_165 rfl ?_
                  refine v_get hC fl_X12_34 m_1 hf_2348 rfl dX12_readLoss_166 ?_
                  refine v_iload_n hC dX12_readLoss_169 rfl ?_
                  refine v_iconst hC dX12_readLoss_170 (v := 2) (by decide) ?_
                  obtain ⟨v_2352, h_2353⟩ : ∃ v9 : Int32, v_41 + 2 = v9 := ⟨_, rfl⟩
                  refine v_iadd hC dX12_readLoss_171 h_2353 ?_
                  have h_2354 := add_v h_2353 (by first | omega | (simp only [Int32.lt_iff_toInt_lt, Int32.le_iff_toInt_le, Int32.reduceToInt, ← Int32.toInt_inj, true_and, and_true, or_true, true_or, false_or, or_false, false_and, and_false, not_true_eq_false, not_false_eq_true] <;> omega)) (by first | omega | (simp only [Int32.lt_iff_toInt_lt, Int32.le_iff_toInt_le, Int32.reduceToInt, ← Int32.toInt_inj, true_and, and_true, or_true, true_or, false_or, or_false, false_and, and_false, not_true_eq_false, not_false_eq_true] <;> omega))
                  try simp only [Int32.reduceToInt] at h_2354
                  refine v_aload_n hC dX12_readLoss_172 rfl ?_
                  refine v_ldcwS hC sr_X12_295 dX12_readLoss_173 ?_
                  refine v_aload_n hC dX12_readLoss_176 rfl ?_
                  refine v_get hC fl_X12_34 m_1 hf_2348 rfl dX12_readLoss_177 ?_
                  refine v_iload_n hC dX12_readLoss_180 rfl ?_
                  refine v_iconst hC dX12_readLoss_181 (v := 1) (by decide) ?_
                  obtain ⟨v_2355, h_2356⟩ : ∃ v9 : Int32, v_41 + 1 = v9 := ⟨_, rfl⟩
                  refine v_iadd hC dX12_readLoss_182 h_2356 ?_
                  have h_2357 := add_v h_2356 (by first | omega | (simp only [Int32.lt_iff_toInt_lt, Int32.le_iff_toInt_le, Int32.reduceToInt, ← Int32.toInt_inj, true_and, and_true, or_true, true_or, false_or, or_false, false_and, and_false, not_true_eq_false, not_false_eq_true] <;> omega)) (by first | omega | (simp only [Int32.lt_iff_toInt_lt, Int32.le_iff_toInt_le, Int32.reduceToInt, ← Int32.toInt_inj, true_and, and_true, or_true, true_or, false_or, or_false, false_and, and_false, not_true_eq_false, not_false_eq_true] <;> omega))
                  try simp only [Int32.reduceToInt] at h_2357
                  obtain ⟨v_2358, h_2359⟩ : ∃ v9 : Int32, g_2344 (v_2355 : Int32).toNatClampNeg = v9 := ⟨_, rfl⟩
                  refine v_iald hC m_22 hf_2342 (vp_in_iff.mpr (by first | omega | (simp only [Int32.lt_iff_toInt_lt, Int32.le_iff_toInt_le, Int32.reduceToInt, ← Int32.toInt_inj, true_and, and_true, or_true, true_or, false_or, or_false, false_and, and_false, not_true_eq_false, not_false_eq_true] <;> omega))) h_2359 dX12_readLoss_183 ?_
                  refine v_bipush hC dX12_readLoss_184 (v := 15) (by decide) ?_
                  refine v_vi hC (rest := [.int v_2352, .ref (q 14)]) m_1 hf_2348 rfl mi_X12_told ms_X12_told (p_X12_told hW_2345 k_0 (by decide)) mx_X12_told ml_X12_189 (by decide) rfl (cells1 := 0) (slots1 := 0) (by decide) (by decide) (Nat.le_of_ble_eq_true rfl) (Nat.le_of_ble_eq_true rfl) rfl (Nat.le_of_ble_eq_true rfl) dX12_readLoss_186 (fun r_2360 L_2361 f_2362 h_2363 => ?_)
                  obtain ⟨rfl, hW_2365, hF_2366, -, -, -, -, -, x_2364⟩ := h_2363
                  have fe_2367 : fld (f_2341 a_0) 8 = (v_2329 : Int32).toInt := by rw [hf_2348]; rfl
                  have fe_2368 : fld (f_2341 a_0) 12 = (v_2333 : Int32).toInt := by rw [hf_2348]; rfl
                  have hf_2369 := hF_2366.at hf_2342 rfl
                  obtain ⟨v_2371, v_2372, v_2373, v_2374, v_2375, v_2376, v_2377, v_2378, v_2379, v_2380, v_2381, e_2370, -, -, -, -, -, -, -⟩ := hW_2365.at m_1 t_2
                  have fe_2382 : fld (f_2362 a_0) 8 = (v_2374 : Int32).toInt := by rw [e_2370]; rfl
                  have fe_2383 : fld (f_2362 a_0) 9 = (v_2375 : Int32).toInt := by rw [e_2370]; rfl
                  have fe_2384 : fld (f_2362 a_0) 10 = (v_2376 : Int32).toInt := by rw [e_2370]; rfl
                  have fe_2385 : fld (f_2362 a_0) 12 = (v_2378 : Int32).toInt := by rw [e_2370]; rfl
                  rw [fe_2385, fe_2368, fe_2367, fe_2383, fe_2382, fe_2384] at x_2364
                  clear fe_2367 fe_2368 fe_2382 fe_2383 fe_2384 fe_2385
                  try simp only [Int32.reduceToInt, Int64.reduceToInt] at x_2364
                  refine v_iast hC m_22 hf_2369 (vp_in_iff.mpr (by first | omega | (simp only [Int32.lt_iff_toInt_lt, Int32.le_iff_toInt_le, Int32.reduceToInt, ← Int32.toInt_inj, true_and, and_true, or_true, true_or, false_or, or_false, false_and, and_false, not_true_eq_false, not_false_eq_true] <;> omega))) dX12_readLoss_189 (fun f_2386 hf_2387 hk_2388 => ?_)
                  have hW_2390 := hW_2365.up hf_2387 hk_2388 t_23 ⟨_, rfl, (ok_2346.up (by first | omega | (simp only [Int32.lt_iff_toInt_lt, Int32.le_iff_toInt_le, Int32.reduceToInt, ← Int32.toInt_inj, true_and, and_true, or_true, true_or, false_or, or_false, false_and, and_false, not_true_eq_false, not_false_eq_true] <;> omega)) (fun q1 q2 => (by first | omega | (simp only [Int32.lt_iff_toInt_lt, Int32.le_iff_toInt_le, Int32.reduceToInt, ← Int32.toInt_inj] at *; omega))) (fun k9 q1 q2 q3 => (by first | omega | (simp only [Int32.lt_iff_toInt_lt, Int32.le_iff_toInt_le, Int32.reduceToInt, ← Int32.toInt_inj] at *; omega))))⟩
                  obtain ⟨g_2389, hf_2387, ok_2391, eg_2392⟩ : ∃ g9, f_2386 (q 14) = aI E 2076 g9 ∧ FOK g9 ∧ g9 = upd g_2344 (v_2352 : Int32).toNatClampNeg r_2360 := ⟨_, hf_2387, (ok_2346.up (by first | omega | (simp only [Int32.lt_iff_toInt_lt, Int32.le_iff_toInt_le, Int32.reduceToInt, ← Int32.toInt_inj, true_and, and_true, or_true, true_or, false_or, or_false, false_and, and_false, not_true_eq_false, not_false_eq_true] <;> omega)) (fun q1 q2 => (by first | omega | (simp only [Int32.lt_iff_toInt_lt, Int32.le_iff_toInt_le, Int32.reduceToInt, ← Int32.toInt_inj] at *; omega))) (fun k9 q1 q2 q3 => (by first | omega | (simp only [Int32.lt_iff_toInt_lt, Int32.le_iff_toInt_le, Int32.reduceToInt, ← Int32.toInt_inj] at *; omega)))), rfl⟩
                  have hf_2393 := (hk_2388 a_0 (ne_kd e_2370 hf_2369 rfl)).trans e_2370
                  have fr_2394 := FR.w hk_2388 hf_2369 (k := 2176) rfl
                  have lk_2395 := l2_at (g0 := g_f) eg_2392 (by omega) (by omega)
                  have ag_2396 := ag_2351.st eg_2392 (by omega) (by omega)
                  try simp only [Int32.reduceToInt] at lk_2395
                  refine v_goto hC dX12_readLoss_190 (tgt := 258) (by decide) ?_
                  refine v_aload_n hC dX12_readLoss_258 rfl ?_
                  refine v_vv hC (rest := []) m_1 hf_2393 rfl mi_X12_ends ms_X12_ends (p_X12_ends hW_2390 k_0) mx_X12_ends ml_X12_178 (by decide) rfl (cells1 := 0) (slots1 := 0) (by decide) (by decide) (Nat.le_of_ble_eq_true rfl) (Nat.le_of_ble_eq_true rfl) rfl (Nat.le_of_ble_eq_true rfl) dX12_readLoss_259 (fun L_2398 f_2399 h_2400 => ?_)
                  obtain ⟨rfl, hW_2402, hF_2403, -, -, -, -, x_2401⟩ := h_2400
                  have fe_2404 : fld (f_2386 a_0) 8 = (v_2374 : Int32).toInt := by rw [hf_2393]; rfl
                  have fe_2405 : fld (f_2386 a_0) 10 = (v_2376 : Int32).toInt := by rw [hf_2393]; rfl
                  have fe_2406 : fld (f_2386 a_0) 12 = (v_2378 : Int32).toInt := by rw [hf_2393]; rfl
                  have hf_2407 := hF_2403.at hf_2387 rfl
                  obtain ⟨v_2409, v_2410, v_2411, v_2412, v_2413, v_2414, v_2415, v_2416, v_2417, v_2418, v_2419, e_2408, -, -, -, -, -, -, -⟩ := hW_2402.at m_1 t_2
                  have fe_2420 : fld (f_2399 a_0) 8 = (v_2412 : Int32).toInt := by rw [e_2408]; rfl
                  have fe_2421 : fld (f_2399 a_0) 9 = (v_2413 : Int32).toInt := by rw [e_2408]; rfl
                  have fe_2422 : fld (f_2399 a_0) 10 = (v_2414 : Int32).toInt := by rw [e_2408]; rfl
                  have fe_2423 : fld (f_2399 a_0) 12 = (v_2416 : Int32).toInt := by rw [e_2408]; rfl
                  rw [fe_2423, fe_2406, fe_2405, fe_2404, fe_2421, fe_2420, fe_2422] at x_2401
                  clear fe_2404 fe_2405 fe_2406 fe_2420 fe_2421 fe_2422 fe_2423
                  refine v_aload_n hC dX12_readLoss_262 rfl ?_
                  refine v_get hC fl_X12_34 m_1 e_2408 rfl dX12_readLoss_263 ?_
                  refine v_bipush hC dX12_readLoss_266 (v := 6) (by decide) ?_
                  refine v_dup2 hC dX12_readLoss_268 rfl rfl ?_
                  have l6_2424 : (g_2389 6).toInt = (g_f 6).toInt := congrArg Int32.toInt ag_2396.2.1
                  refine v_iald hC m_22 hf_2407 (vp_in_iff.mpr (by decide)) (v := g_2389 6) rfl dX12_readLoss_269 ?_
                  refine v_iconst hC dX12_readLoss_270 (v := 1) (by decide) ?_
                  obtain ⟨v_2425, h_2426⟩ : ∃ v9 : Int32, (g_2389 6) + 1 = v9 := ⟨_, rfl⟩
                  refine v_iadd hC dX12_readLoss_271 h_2426 ?_
                  have h_2427 := add_v h_2426 (by first | omega | (simp only [Int32.lt_iff_toInt_lt, Int32.le_iff_toInt_le, Int32.reduceToInt, ← Int32.toInt_inj, true_and, and_true, or_true, true_or, false_or, or_false, false_and, and_false, not_true_eq_false, not_false_eq_true] <;> omega)) (by first | omega | (simp only [Int32.lt_iff_toInt_lt, Int32.le_iff_toInt_le, Int32.reduceToInt, ← Int32.toInt_inj, true_and, and_true, or_true, true_or, false_or, or_false, false_and, and_false, not_true_eq_false, not_false_eq_true] <;> omega))
                  try simp only [Int32.reduceToInt] at h_2427
                  refine v_iast hC m_22 hf_2407 (vp_in_iff.mpr (by decide)) dX12_readLoss_272 (fun f_2428 hf_2429 hk_2430 => ?_)
                  have hW_2432 := hW_2402.up hf_2429 hk_2430 t_23 ⟨_, rfl, (ok_2391.up (i := 6) (by decide) (fun q1 q2 => absurd (And.intro q1 q2) (by decide)) (fun k9 q1 q2 q3 => by simp only [Int32.reduceToInt] at q3; omega))⟩
                  obtain ⟨g_2431, hf_2429, ok_2433, eg_2434⟩ : ∃ g9, f_2428 (q 14) = aI E 2076 g9 ∧ FOK g9 ∧ g9 = upd g_2389 (6 : Int32).toNatClampNeg v_2425 := ⟨_, hf_2429, (ok_2391.up (i := 6) (by decide) (fun q1 q2 => absurd (And.intro q1 q2) (by decide)) (fun k9 q1 q2 q3 => by simp only [Int32.reduceToInt] at q3; omega)), rfl⟩
                  have hf_2435 := (hk_2430 a_0 (ne_kd e_2408 hf_2407 rfl)).trans e_2408
                  have fr_2436 := FR.w hk_2430 hf_2407 (k := 2176) rfl
                  have ln6_2437 := FOK.n6 ag_2396.1 eg_2434
                  have ln6_2437_t : (g_2431 6).toInt = v_2425.toInt := congrArg Int32.toInt ln6_2437.2
                  have fe_2438 : fld (f_2428 a_0) 12 = (v_2416 : Int32).toInt := by rw [hf_2435]; rfl
                  have fe_2443 : fld (f_2428 a_0) 8 = (v_2412 : Int32).toInt := by rw [hf_2435]; rfl
                  have fe_2444 : fld (f_2428 a_0) 12 = (v_2416 : Int32).toInt := by rw [hf_2435]; rfl
                  exact hR _ _ _ _ _ _ dX12_readLoss_273 (Nat.le_of_ble_eq_true rfl) (Nat.le_of_ble_eq_true rfl) ⟨rfl, hW_2432, ((((((((((hF_1436.tr hF_1474).tr hF_2280).tr fr_2308).tr hF_2320).tr fr_2349).tr hF_2366).tr fr_2394).tr hF_2403).tr fr_2436).mono rfl), ⟨_, hf_2429, ln6_2437.1, (by omega), (by rw [fe_2438]; by_cases q9 : v_2416.toInt = 0; have gp_2439 := x_2401.resolve_left (fun h9 => h9 q9); clear x_2401; have gp_2440 := x_2364.resolve_left (fun h9 => h9 gp_2439.1); clear x_2364; have gp_2441 := x_2318.resolve_left (fun h9 => h9 gp_2440.1); clear x_2318; have gz_2442 := x_2278.symm.trans gp_2441.1; exact .inr (LO.fin hLO ag_2396 eg_2434 (by omega) (by omega) (fun q8 => by omega)); exact .inl q9)⟩, (by simp only [fe_2443, fe_2444, mz_36, mz_37]; by_cases q9 : (v_2416 : Int32).toInt = 0; have gp_2445 := x_2401.resolve_left (fun h9 => h9 q9); clear x_2401; have gp_2446 := x_2364.resolve_left (fun h9 => h9 gp_2445.1); clear x_2364; have gp_2447 := x_2318.resolve_left (fun h9 => h9 gp_2446.1); clear x_2318; have gz_2448 := x_2278.symm.trans gp_2447.1; (right; omega); exact .inl q9)⟩
              · simp only [Int32.lt_iff_toInt_lt, Int32.le_iff_toInt_le, Int32.reduceToInt, ← Int32.toInt_inj] at h_2113
                refine v_aload_n hC dX12_readLoss_119 rfl ?_
                refine v_iconst hC dX12_readLoss_120 (v := 1) (by decide) ?_
                refine v_vv hC (rest := []) m_1 e_1480 rfl mi_X12_errs ms_X12_errs (p_X12_errs hW_1473 k_0 (by decide)) mx_X12_errs ml_X12_162 (by decide) rfl (cells1 := 0) (slots1 := 0) (by decide) (by decide) (Nat.le_of_ble_eq_true rfl) (Nat.le_of_ble_eq_true rfl) rfl (Nat.le_of_ble_eq_true rfl) dX12_readLoss_121 (fun L_2450 f_2451 h_2452 => ?_)
                obtain ⟨rfl, hW_2455, hF_2456, x_2453, x_2454, -, -, -⟩ := h_2452
                have fe_2457 : fld (f_1468 a_0) 8 = (v_1484 : Int32).toInt := by rw [e_1480]; rfl
                have hf_2458 := hF_2456.at hf_1479 rfl
                obtain ⟨v_2460, v_2461, v_2462, v_2463, v_2464, v_2465, v_2466, v_2467, v_2468, v_2469, v_2470, e_2459, -, -, -, -, -, -, -⟩ := hW_2455.at m_1 t_2
                have fe_2471 : fld (f_2451 a_0) 8 = (v_2463 : Int32).toInt := by rw [e_2459]; rfl
                have fe_2472 : fld (f_2451 a_0) 12 = (v_2467 : Int32).toInt := by rw [e_2459]; rfl
                rw [fe_2472] at x_2453
                rw [fe_2471, fe_2457] at x_2454
                clear x_1472
                clear fe_2457 fe_2471 fe_2472
                refine v_aload_n hC dX12_readLoss_124 rfl ?_
                refine v_vi hC (rest := []) m_1 e_2459 rfl mi_X12_good ms_X12_good (p_X12_good hW_2455 k_0) mx_X12_good ml_X12_139 (by decide) rfl (cells1 := 0) (slots1 := 0) (by decide) (by decide) (Nat.le_of_ble_eq_true rfl) (Nat.le_of_ble_eq_true rfl) rfl (Nat.le_of_ble_eq_true rfl) dX12_readLoss_125 (fun r_2473 L_2474 f_2475 h_2476 => ?_)
                obtain ⟨rfl, rfl, b_2477, x_2478⟩ := h_2476
                have fe_2481 : fld (f_2451 a_0) 12 = (v_2467 : Int32).toInt := by rw [e_2459]; rfl
                rw [fe_2481] at x_2478
                clear fe_2481
                try simp only [Int32.reduceToInt, Int64.reduceToInt] at x_2478
                refine v_if_eq hC dX12_readLoss_128 (tgt := 135) (by decide) (fun h_2482 => ?_) (fun h_2482 => ?_)
                · simp only [Int32.lt_iff_toInt_lt, Int32.le_iff_toInt_le, Int32.reduceToInt, ← Int32.toInt_inj] at h_2482
                  have g0_2483 := gd_f x_2478 h_2482
                  clear x_2478
                  refine v_aload_n hC dX12_readLoss_135 rfl ?_
                  refine v_get hC fl_X12_34 m_1 e_2459 rfl dX12_readLoss_136 ?_
                  refine v_iload_n hC dX12_readLoss_139 rfl ?_
                  refine v_iload_n hC dX12_readLoss_140 rfl ?_
                  refine v_if_eq_t hC dX12_readLoss_141 (tgt := 148) (by decide) (by first | omega | (simp only [Int32.lt_iff_toInt_lt, Int32.le_iff_toInt_le, Int32.reduceToInt, ← Int32.toInt_inj, true_and, and_true, or_true, true_or, false_or, or_false, false_and, and_false, not_true_eq_false, not_false_eq_true] <;> omega)) ?_
                  refine v_iconst hC dX12_readLoss_148 (v := 0) (by decide) ?_
                  refine v_iast hC m_22 hf_2458 (vp_in_iff.mpr (by first | omega | (simp only [Int32.lt_iff_toInt_lt, Int32.le_iff_toInt_le, Int32.reduceToInt, ← Int32.toInt_inj, true_and, and_true, or_true, true_or, false_or, or_false, false_and, and_false, not_true_eq_false, not_false_eq_true] <;> omega))) dX12_readLoss_149 (fun f_2486 hf_2487 hk_2488 => ?_)
                  have hW_2490 := hW_2455.up hf_2487 hk_2488 t_23 ⟨_, rfl, (o_f.up (by first | omega | (simp only [Int32.lt_iff_toInt_lt, Int32.le_iff_toInt_le, Int32.reduceToInt, ← Int32.toInt_inj, true_and, and_true, or_true, true_or, false_or, or_false, false_and, and_false, not_true_eq_false, not_false_eq_true] <;> omega)) (fun q1 q2 => (by first | omega | (simp only [Int32.lt_iff_toInt_lt, Int32.le_iff_toInt_le, Int32.reduceToInt, ← Int32.toInt_inj] at *; omega))) (fun k9 q1 q2 q3 => (by first | omega | (simp only [Int32.lt_iff_toInt_lt, Int32.le_iff_toInt_le, Int32.reduceToInt, ← Int32.toInt_inj] at *; omega))))⟩
                  obtain ⟨g_2489, hf_2487, ok_2491, eg_2492⟩ : ∃ g9, f_2486 (q 14) = aI E 2076 g9 ∧ FOK g9 ∧ g9 = upd g_f (v_41 : Int32).toNatClampNeg 0 := ⟨_, hf_2487, (o_f.up (by first | omega | (simp only [Int32.lt_iff_toInt_lt, Int32.le_iff_toInt_le, Int32.reduceToInt, ← Int32.toInt_inj, true_and, and_true, or_true, true_or, false_or, or_false, false_and, and_false, not_true_eq_false, not_false_eq_true] <;> omega)) (fun q1 q2 => (by first | omega | (simp only [Int32.lt_iff_toInt_lt, Int32.le_iff_toInt_le, Int32.reduceToInt, ← Int32.toInt_inj] at *; omega))) (fun k9 q1 q2 q3 => (by first | omega | (simp only [Int32.lt_iff_toInt_lt, Int32.le_iff_toInt_le, Int32.reduceToInt, ← Int32.toInt_inj] at *; omega)))), rfl⟩
                  have hf_2493 := (hk_2488 a_0 (ne_kd e_2459 hf_2458 rfl)).trans e_2459
                  have fr_2494 := FR.w hk_2488 hf_2458 (k := 2176) rfl
                  have lk_2495 := lk_at (g0 := g_f) eg_2492 (by omega) (by omega)
                  have ag_2496 := (AG.rf o_f).st eg_2492 (by omega) (by omega)
                  try simp only [Int32.reduceToInt] at lk_2495
                  refine v_aload_n hC dX12_readLoss_150 rfl ?_
                  refine v_get hC fl_X12_34 m_1 hf_2493 rfl dX12_readLoss_151 ?_
                  refine v_iload_n hC dX12_readLoss_154 rfl ?_
                  refine v_iconst hC dX12_readLoss_155 (v := 1) (by decide) ?_
                  obtain ⟨v_2497, h_2498⟩ : ∃ v9 : Int32, v_41 + 1 = v9 := ⟨_, rfl⟩
                  refine v_iadd hC dX12_readLoss_156 h_2498 ?_
                  have h_2499 := add_v h_2498 (by first | omega | (simp only [Int32.lt_iff_toInt_lt, Int32.le_iff_toInt_le, Int32.reduceToInt, ← Int32.toInt_inj, true_and, and_true, or_true, true_or, false_or, or_false, false_and, and_false, not_true_eq_false, not_false_eq_true] <;> omega)) (by first | omega | (simp only [Int32.lt_iff_toInt_lt, Int32.le_iff_toInt_le, Int32.reduceToInt, ← Int32.toInt_inj, true_and, and_true, or_true, true_or, false_or, or_false, false_and, and_false, not_true_eq_false, not_false_eq_true] <;> omega))
                  try simp only [Int32.reduceToInt] at h_2499
                  refine v_aload_n hC dX12_readLoss_157 rfl ?_
                  refine v_iconst hC dX12_readLoss_158 (v := 0) (by decide) ?_
                  refine v_bipush hC dX12_readLoss_159 (v := 15) (by decide) ?_
                  refine v_vi hC (rest := [.int v_2497, .ref (q 14)]) m_1 hf_2493 rfl mi_X12_number ms_X12_number (p_X12_number hW_2490 k_0) mx_X12_number ml_X12_170 (by decide) rfl (cells1 := 0) (slots1 := 0) (by decide) (by decide) (Nat.le_of_ble_eq_true rfl) (Nat.le_of_ble_eq_true rfl) rfl (Nat.le_of_ble_eq_true rfl) dX12_readLoss_161 (fun r_2500 L_2501 f_2502 h_2503 => ?_)
                  obtain ⟨rfl, hW_2505, hF_2506, -, -, -, -, -, x_2504⟩ := h_2503
                  have fe_2507 : fld (f_2486 a_0) 8 = (v_2463 : Int32).toInt := by rw [hf_2493]; rfl
                  have fe_2508 : fld (f_2486 a_0) 10 = (v_2465 : Int32).toInt := by rw [hf_2493]; rfl
                  have fe_2509 : fld (f_2486 a_0) 12 = (v_2467 : Int32).toInt := by rw [hf_2493]; rfl
                  have hf_2510 := hF_2506.at hf_2487 rfl
                  obtain ⟨v_2512, v_2513, v_2514, v_2515, v_2516, v_2517, v_2518, v_2519, v_2520, v_2521, v_2522, e_2511, -, -, -, -, -, -, -⟩ := hW_2505.at m_1 t_2
                  have fe_2523 : fld (f_2502 a_0) 8 = (v_2515 : Int32).toInt := by rw [e_2511]; rfl
                  have fe_2524 : fld (f_2502 a_0) 9 = (v_2516 : Int32).toInt := by rw [e_2511]; rfl
                  have fe_2525 : fld (f_2502 a_0) 10 = (v_2517 : Int32).toInt := by rw [e_2511]; rfl
                  have fe_2526 : fld (f_2502 a_0) 12 = (v_2519 : Int32).toInt := by rw [e_2511]; rfl
                  rw [fe_2526, fe_2509, fe_2508, fe_2507, fe_2524, fe_2523, fe_2525] at x_2504
                  have nb_2527 : ¬ (v_2519 : Int32).toInt = 0 := x_2504.elim id (fun h9 => absurd h9.1 g0_2483)
                  clear x_2504
                  clear fe_2507 fe_2508 fe_2509 fe_2523 fe_2524 fe_2525 fe_2526
                  try simp only [Int32.reduceToInt, Int64.reduceToInt] at x_2504
                  refine v_iast hC m_22 hf_2510 (vp_in_iff.mpr (by first | omega | (simp only [Int32.lt_iff_toInt_lt, Int32.le_iff_toInt_le, Int32.reduceToInt, ← Int32.toInt_inj, true_and, and_true, or_true, true_or, false_or, or_false, false_and, and_false, not_true_eq_false, not_false_eq_true] <;> omega))) dX12_readLoss_164 (fun f_2528 hf_2529 hk_2530 => ?_)
                  have hW_2532 := hW_2505.up hf_2529 hk_2530 t_23 ⟨_, rfl, (ok_2491.up (by first | omega | (simp only [Int32.lt_iff_toInt_lt, Int32.le_iff_toInt_le, Int32.reduceToInt, ← Int32.toInt_inj, true_and, and_true, or_true, true_or, false_or, or_false, false_and, and_false, not_true_eq_false, not_false_eq_true] <;> omega)) (fun q1 q2 => (by first | omega | (simp only [Int32.lt_iff_toInt_lt, Int32.le_iff_toInt_le, Int32.reduceToInt, ← Int32.toInt_inj] at *; omega))) (fun k9 q1 q2 q3 => (by first | omega | (simp only [Int32.lt_iff_toInt_lt, Int32.le_iff_toInt_le, Int32.reduceToInt, ← Int32.toInt_inj] at *; omega))))⟩
                  obtain ⟨g_2531, hf_2529, ok_2533, eg_2534⟩ : ∃ g9, f_2528 (q 14) = aI E 2076 g9 ∧ FOK g9 ∧ g9 = upd g_2489 (v_2497 : Int32).toNatClampNeg r_2500 := ⟨_, hf_2529, (ok_2491.up (by first | omega | (simp only [Int32.lt_iff_toInt_lt, Int32.le_iff_toInt_le, Int32.reduceToInt, ← Int32.toInt_inj, true_and, and_true, or_true, true_or, false_or, or_false, false_and, and_false, not_true_eq_false, not_false_eq_true] <;> omega)) (fun q1 q2 => (by first | omega | (simp only [Int32.lt_iff_toInt_lt, Int32.le_iff_toInt_le, Int32.reduceToInt, ← Int32.toInt_inj] at *; omega))) (fun k9 q1 q2 q3 => (by first | omega | (simp only [Int32.lt_iff_toInt_lt, Int32.le_iff_toInt_le, Int32.reduceToInt, ← Int32.toInt_inj] at *; omega)))), rfl⟩
                  have hf_2535 := (hk_2530 a_0 (ne_kd e_2511 hf_2510 rfl)).trans e_2511
                  have fr_2536 := FR.w hk_2530 hf_2510 (k := 2176) rfl
                  have lk_2537 := lf_at (g0 := g_f) eg_2534 (by omega) (by omega)
                  have ag_2538 := ag_2496.st eg_2534 (by omega) (by omega)
                  try simp only [Int32.reduceToInt] at lk_2537
                  refine v_aload_n hC dX12_readLoss_165 rfl ?_
                  refine v_get hC fl_X12_34 m_1 hf_2535 rfl dX12_readLoss_166 ?_
                  refine v_iload_n hC dX12_readLoss_169 rfl ?_
                  refine v_iconst hC dX12_readLoss_170 (v := 2) (by decide) ?_
                  obtain ⟨v_2539, h_2540⟩ : ∃ v9 : Int32, v_41 + 2 = v9 := ⟨_, rfl⟩
                  refine v_iadd hC dX12_readLoss_171 h_2540 ?_
                  have h_2541 := add_v h_2540 (by first | omega | (simp only [Int32.lt_iff_toInt_lt, Int32.le_iff_toInt_le, Int32.reduceToInt, ← Int32.toInt_inj, true_and, and_true, or_true, true_or, false_or, or_false, false_and, and_false, not_true_eq_false, not_false_eq_true] <;> omega)) (by first | omega | (simp only [Int32.lt_iff_toInt_lt, Int32.le_iff_toInt_le, Int32.reduceToInt, ← Int32.toInt_inj, true_and, and_true, or_true, true_or, false_or, or_false, false_and, and_false, not_true_eq_false, not_false_eq_true] <;> omega))
                  try simp only [Int32.reduceToInt] at h_2541
                  refine v_aload_n hC dX12_readLoss_172 rfl ?_
                  refine v_ldcwS hC sr_X12_295 dX12_readLoss_173 ?_
                  refine v_aload_n hC dX12_readLoss_176 rfl ?_
                  refine v_get hC fl_X12_34 m_1 hf_2535 rfl dX12_readLoss_177 ?_
                  refine v_iload_n hC dX12_readLoss_180 rfl ?_
                  refine v_iconst hC dX12_readLoss_181 (v := 1) (by decide) ?_
                  obtain ⟨v_2542, h_2543⟩ : ∃ v9 : Int32, v_41 + 1 = v9 := ⟨_, rfl⟩
                  refine v_iadd hC dX12_readLoss_182 h_2543 ?_
                  have h_2544 := add_v h_2543 (by first | omega | (simp only [Int32.lt_iff_toInt_lt, Int32.le_iff_toInt_le, Int32.reduceToInt, ← Int32.toInt_inj, true_and, and_true, or_true, true_or, false_or, or_false, false_and, and_false, not_true_eq_false, not_false_eq_true] <;> omega)) (by first | omega | (simp only [Int32.lt_iff_toInt_lt, Int32.le_iff_toInt_le, Int32.reduceToInt, ← Int32.toInt_inj, true_and, and_true, or_true, true_or, false_or, or_false, false_and, and_false, not_true_eq_false, not_false_eq_true] <;> omega))
                  try simp only [Int32.reduceToInt] at h_2544
                  obtain ⟨v_2545, h_2546⟩ : ∃ v9 : Int32, g_2531 (v_2542 : Int32).toNatClampNeg = v9 := ⟨_, rfl⟩
                  refine v_iald hC m_22 hf_2529 (vp_in_iff.mpr (by first | omega | (simp only [Int32.lt_iff_toInt_lt, Int32.le_iff_toInt_le, Int32.reduceToInt, ← Int32.toInt_inj, true_and, and_true, or_true, true_or, false_or, or_false, false_and, and_false, not_true_eq_false, not_false_eq_true] <;> omega))) h_2546 dX12_readLoss_183 ?_
                  refine v_bipush hC dX12_readLoss_184 (v := 15) (by decide) ?_
                  refine v_vi hC (rest := [.int v_2539, .ref (q 14)]) m_1 hf_2535 rfl mi_X12_told ms_X12_told (p_X12_told hW_2532 k_0 (by decide)) mx_X12_told ml_X12_189 (by decide) rfl (cells1 := 0) (slots1 := 0) (by decide) (by decide) (Nat.le_of_ble_eq_true rfl) (Nat.le_of_ble_eq_true rfl) rfl (Nat.le_of_ble_eq_true rfl) dX12_readLoss_186 (fun r_2547 L_2548 f_2549 h_2550 => ?_)
                  obtain ⟨rfl, hW_2552, hF_2553, -, -, -, -, -, x_2551⟩ := h_2550
                  have fe_2554 : fld (f_2528 a_0) 8 = (v_2515 : Int32).toInt := by rw [hf_2535]; rfl
                  have fe_2555 : fld (f_2528 a_0) 12 = (v_2519 : Int32).toInt := by rw [hf_2535]; rfl
                  have hf_2556 := hF_2553.at hf_2529 rfl
                  obtain ⟨v_2558, v_2559, v_2560, v_2561, v_2562, v_2563, v_2564, v_2565, v_2566, v_2567, v_2568, e_2557, -, -, -, -, -, -, -⟩ := hW_2552.at m_1 t_2
                  have fe_2569 : fld (f_2549 a_0) 8 = (v_2561 : Int32).toInt := by rw [e_2557]; rfl
                  have fe_2570 : fld (f_2549 a_0) 9 = (v_2562 : Int32).toInt := by rw [e_2557]; rfl
                  have fe_2571 : fld (f_2549 a_0) 10 = (v_2563 : Int32).toInt := by rw [e_2557]; rfl
                  have fe_2572 : fld (f_2549 a_0) 12 = (v_2565 : Int32).toInt := by rw [e_2557]; rfl
                  rw [fe_2572, fe_2555, fe_2554, fe_2570, fe_2569, fe_2571] at x_2551
                  have nb_2573 : ¬ (v_2565 : Int32).toInt = 0 := x_2551.elim id (fun h9 => absurd h9.1 nb_2527)
                  clear x_2551
                  clear fe_2554 fe_2555 fe_2569 fe_2570 fe_2571 fe_2572
                  try simp only [Int32.reduceToInt, Int64.reduceToInt] at x_2551
                  refine v_iast hC m_22 hf_2556 (vp_in_iff.mpr (by first | omega | (simp only [Int32.lt_iff_toInt_lt, Int32.le_iff_toInt_le, Int32.reduceToInt, ← Int32.toInt_inj, true_and, and_true, or_true, true_or, false_or, or_false, false_and, and_false, not_true_eq_false, not_false_eq_true] <;> omega))) dX12_readLoss_189 (fun f_2574 hf_2575 hk_2576 => ?_)
                  have hW_2578 := hW_2552.up hf_2575 hk_2576 t_23 ⟨_, rfl, (ok_2533.up (by first | omega | (simp only [Int32.lt_iff_toInt_lt, Int32.le_iff_toInt_le, Int32.reduceToInt, ← Int32.toInt_inj, true_and, and_true, or_true, true_or, false_or, or_false, false_and, and_false, not_true_eq_false, not_false_eq_true] <;> omega)) (fun q1 q2 => (by first | omega | (simp only [Int32.lt_iff_toInt_lt, Int32.le_iff_toInt_le, Int32.reduceToInt, ← Int32.toInt_inj] at *; omega))) (fun k9 q1 q2 q3 => (by first | omega | (simp only [Int32.lt_iff_toInt_lt, Int32.le_iff_toInt_le, Int32.reduceToInt, ← Int32.toInt_inj] at *; omega))))⟩
                  obtain ⟨g_2577, hf_2575, ok_2579, eg_2580⟩ : ∃ g9, f_2574 (q 14) = aI E 2076 g9 ∧ FOK g9 ∧ g9 = upd g_2531 (v_2539 : Int32).toNatClampNeg r_2547 := ⟨_, hf_2575, (ok_2533.up (by first | omega | (simp only [Int32.lt_iff_toInt_lt, Int32.le_iff_toInt_le, Int32.reduceToInt, ← Int32.toInt_inj, true_and, and_true, or_true, true_or, false_or, or_false, false_and, and_false, not_true_eq_false, not_false_eq_true] <;> omega)) (fun q1 q2 => (by first | omega | (simp only [Int32.lt_iff_toInt_lt, Int32.le_iff_toInt_le, Int32.reduceToInt, ← Int32.toInt_inj] at *; omega))) (fun k9 q1 q2 q3 => (by first | omega | (simp only [Int32.lt_iff_toInt_lt, Int32.le_iff_toInt_le, Int32.reduceToInt, ← Int32.toInt_inj] at *; omega)))), rfl⟩
                  have hf_2581 := (hk_2576 a_0 (ne_kd e_2557 hf_2556 rfl)).trans e_2557
                  have fr_2582 := FR.w hk_2576 hf_2556 (k := 2176) rfl
                  have lk_2583 := l2_at (g0 := g_f) eg_2580 (by omega) (by omega)
                  have ag_2584 := ag_2538.st eg_2580 (by omega) (by omega)
                  try simp only [Int32.reduceToInt] at lk_2583
                  refine v_goto hC dX12_readLoss_190 (tgt := 258) (by decide) ?_
                  refine v_aload_n hC dX12_readLoss_258 rfl ?_
                  refine v_vv hC (rest := []) m_1 hf_2581 rfl mi_X12_ends ms_X12_ends (p_X12_ends hW_2578 k_0) mx_X12_ends ml_X12_178 (by decide) rfl (cells1 := 0) (slots1 := 0) (by decide) (by decide) (Nat.le_of_ble_eq_true rfl) (Nat.le_of_ble_eq_true rfl) rfl (Nat.le_of_ble_eq_true rfl) dX12_readLoss_259 (fun L_2586 f_2587 h_2588 => ?_)
                  obtain ⟨rfl, hW_2590, hF_2591, -, -, -, -, x_2589⟩ := h_2588
                  have fe_2592 : fld (f_2574 a_0) 8 = (v_2561 : Int32).toInt := by rw [hf_2581]; rfl
                  have fe_2593 : fld (f_2574 a_0) 10 = (v_2563 : Int32).toInt := by rw [hf_2581]; rfl
                  have fe_2594 : fld (f_2574 a_0) 12 = (v_2565 : Int32).toInt := by rw [hf_2581]; rfl
                  have hf_2595 := hF_2591.at hf_2575 rfl
                  obtain ⟨v_2597, v_2598, v_2599, v_2600, v_2601, v_2602, v_2603, v_2604, v_2605, v_2606, v_2607, e_2596, -, -, -, -, -, -, -⟩ := hW_2590.at m_1 t_2
                  have fe_2608 : fld (f_2587 a_0) 8 = (v_2600 : Int32).toInt := by rw [e_2596]; rfl
                  have fe_2609 : fld (f_2587 a_0) 9 = (v_2601 : Int32).toInt := by rw [e_2596]; rfl
                  have fe_2610 : fld (f_2587 a_0) 10 = (v_2602 : Int32).toInt := by rw [e_2596]; rfl
                  have fe_2611 : fld (f_2587 a_0) 12 = (v_2604 : Int32).toInt := by rw [e_2596]; rfl
                  rw [fe_2611, fe_2594, fe_2593, fe_2592, fe_2609, fe_2608, fe_2610] at x_2589
                  have nb_2612 : ¬ (v_2604 : Int32).toInt = 0 := x_2589.elim id (fun h9 => absurd h9.1 nb_2573)
                  clear x_2589
                  clear fe_2592 fe_2593 fe_2594 fe_2608 fe_2609 fe_2610 fe_2611
                  refine v_aload_n hC dX12_readLoss_262 rfl ?_
                  refine v_get hC fl_X12_34 m_1 e_2596 rfl dX12_readLoss_263 ?_
                  refine v_bipush hC dX12_readLoss_266 (v := 6) (by decide) ?_
                  refine v_dup2 hC dX12_readLoss_268 rfl rfl ?_
                  have l6_2613 : (g_2577 6).toInt = (g_f 6).toInt := congrArg Int32.toInt ag_2584.2.1
                  refine v_iald hC m_22 hf_2595 (vp_in_iff.mpr (by decide)) (v := g_2577 6) rfl dX12_readLoss_269 ?_
                  refine v_iconst hC dX12_readLoss_270 (v := 1) (by decide) ?_
                  obtain ⟨v_2614, h_2615⟩ : ∃ v9 : Int32, (g_2577 6) + 1 = v9 := ⟨_, rfl⟩
                  refine v_iadd hC dX12_readLoss_271 h_2615 ?_
                  have h_2616 := add_v h_2615 (by first | omega | (simp only [Int32.lt_iff_toInt_lt, Int32.le_iff_toInt_le, Int32.reduceToInt, ← Int32.toInt_inj, true_and, and_true, or_true, true_or, false_or, or_false, false_and, and_false, not_true_eq_false, not_false_eq_true] <;> omega)) (by first | omega | (simp only [Int32.lt_iff_toInt_lt, Int32.le_iff_toInt_le, Int32.reduceToInt, ← Int32.toInt_inj, true_and, and_true, or_true, true_or, false_or, or_false, false_and, and_false, not_true_eq_false, not_false_eq_true] <;> omega))
                  try simp only [Int32.reduceToInt] at h_2616
                  refine v_iast hC m_22 hf_2595 (vp_in_iff.mpr (by decide)) dX12_readLoss_272 (fun f_2617 hf_2618 hk_2619 => ?_)
                  have hW_2621 := hW_2590.up hf_2618 hk_2619 t_23 ⟨_, rfl, (ok_2579.up (i := 6) (by decide) (fun q1 q2 => absurd (And.intro q1 q2) (by decide)) (fun k9 q1 q2 q3 => by simp only [Int32.reduceToInt] at q3; omega))⟩
                  obtain ⟨g_2620, hf_2618, ok_2622, eg_2623⟩ : ∃ g9, f_2617 (q 14) = aI E 2076 g9 ∧ FOK g9 ∧ g9 = upd g_2577 (6 : Int32).toNatClampNeg v_2614 := ⟨_, hf_2618, (ok_2579.up (i := 6) (by decide) (fun q1 q2 => absurd (And.intro q1 q2) (by decide)) (fun k9 q1 q2 q3 => by simp only [Int32.reduceToInt] at q3; omega)), rfl⟩
                  have hf_2624 := (hk_2619 a_0 (ne_kd e_2596 hf_2595 rfl)).trans e_2596
                  have fr_2625 := FR.w hk_2619 hf_2595 (k := 2176) rfl
                  have ln6_2626 := FOK.n6 ag_2584.1 eg_2623
                  have ln6_2626_t : (g_2620 6).toInt = v_2614.toInt := congrArg Int32.toInt ln6_2626.2
                  have fe_2627 : fld (f_2617 a_0) 12 = (v_2604 : Int32).toInt := by rw [hf_2624]; rfl
                  have fe_2628 : fld (f_2617 a_0) 8 = (v_2600 : Int32).toInt := by rw [hf_2624]; rfl
                  have fe_2629 : fld (f_2617 a_0) 12 = (v_2604 : Int32).toInt := by rw [hf_2624]; rfl
                  exact hR _ _ _ _ _ _ dX12_readLoss_273 (Nat.le_of_ble_eq_true rfl) (Nat.le_of_ble_eq_true rfl) ⟨rfl, hW_2621, ((((((((((hF_1436.tr hF_1474).tr hF_2456).tr fr_2494).tr hF_2506).tr fr_2536).tr hF_2553).tr fr_2582).tr hF_2591).tr fr_2625).mono rfl), ⟨_, hf_2618, ln6_2626.1, (by omega), (by rw [fe_2627]; exact .inl nb_2612)⟩, (by simp only [fe_2628, fe_2629, mz_36, mz_37]; exact .inl nb_2612)⟩
                · simp only [Int32.lt_iff_toInt_lt, Int32.le_iff_toInt_le, Int32.reduceToInt, ← Int32.toInt_inj] at h_2482
                  have nb_2484 : (1 ≤ r_2473.toInt ∧ r_2473.toInt ≤ 1) := by omega
                  have g0_2485 := gd_t x_2478 h_2482
                  clear x_2478
                  refine v_aload_n hC dX12_readLoss_131 rfl ?_
                  refine v_vv hC (rest := []) m_1 e_2459 rfl mi_X12_advance ms_X12_advance (p_X12_advance hW_2455 k_0) mx_X12_advance ml_X12_156 (by decide) rfl (cells1 := 0) (slots1 := 0) (by decide) (by decide) (Nat.le_of_ble_eq_true rfl) (Nat.le_of_ble_eq_true rfl) rfl (Nat.le_of_ble_eq_true rfl) dX12_readLoss_132 (fun L_2631 f_2632 h_2633 => ?_)
                  obtain ⟨rfl, hW_2637, hF_2638, x_2634, x_2635, x_2636, -⟩ := h_2633
                  have fe_2639 : fld (f_2451 a_0) 8 = (v_2463 : Int32).toInt := by rw [e_2459]; rfl
                  have fe_2640 : fld (f_2451 a_0) 12 = (v_2467 : Int32).toInt := by rw [e_2459]; rfl
                  have hf_2641 := hF_2638.at hf_2458 rfl
                  obtain ⟨v_2643, v_2644, v_2645, v_2646, v_2647, v_2648, v_2649, v_2650, v_2651, v_2652, v_2653, e_2642, -, -, -, -, -, -, -⟩ := hW_2637.at m_1 t_2
                  have fe_2654 : fld (f_2632 a_0) 8 = (v_2646 : Int32).toInt := by rw [e_2642]; rfl
                  have fe_2655 : fld (f_2632 a_0) 9 = (v_2647 : Int32).toInt := by rw [e_2642]; rfl
                  have fe_2656 : fld (f_2632 a_0) 10 = (v_2648 : Int32).toInt := by rw [e_2642]; rfl
                  have fe_2657 : fld (f_2632 a_0) 12 = (v_2650 : Int32).toInt := by rw [e_2642]; rfl
                  rw [fe_2639, fe_2655, fe_2654] at x_2634
                  rw [fe_2656, fe_2655, fe_2654] at x_2635
                  rw [fe_2657, fe_2640] at x_2636
                  clear fe_2639 fe_2640 fe_2654 fe_2655 fe_2656 fe_2657
                  refine v_aload_n hC dX12_readLoss_135 rfl ?_
                  refine v_get hC fl_X12_34 m_1 e_2642 rfl dX12_readLoss_136 ?_
                  refine v_iload_n hC dX12_readLoss_139 rfl ?_
                  refine v_iload_n hC dX12_readLoss_140 rfl ?_
                  refine v_if_eq_t hC dX12_readLoss_141 (tgt := 148) (by decide) (by first | omega | (simp only [Int32.lt_iff_toInt_lt, Int32.le_iff_toInt_le, Int32.reduceToInt, ← Int32.toInt_inj, true_and, and_true, or_true, true_or, false_or, or_false, false_and, and_false, not_true_eq_false, not_false_eq_true] <;> omega)) ?_
                  refine v_iconst hC dX12_readLoss_148 (v := 0) (by decide) ?_
                  refine v_iast hC m_22 hf_2641 (vp_in_iff.mpr (by first | omega | (simp only [Int32.lt_iff_toInt_lt, Int32.le_iff_toInt_le, Int32.reduceToInt, ← Int32.toInt_inj, true_and, and_true, or_true, true_or, false_or, or_false, false_and, and_false, not_true_eq_false, not_false_eq_true] <;> omega))) dX12_readLoss_149 (fun f_2658 hf_2659 hk_2660 => ?_)
                  have hW_2662 := hW_2637.up hf_2659 hk_2660 t_23 ⟨_, rfl, (o_f.up (by first | omega | (simp only [Int32.lt_iff_toInt_lt, Int32.le_iff_toInt_le, Int32.reduceToInt, ← Int32.toInt_inj, true_and, and_true, or_true, true_or, false_or, or_false, false_and, and_false, not_true_eq_false, not_false_eq_true] <;> omega)) (fun q1 q2 => (by first | omega | (simp only [Int32.lt_iff_toInt_lt, Int32.le_iff_toInt_le, Int32.reduceToInt, ← Int32.toInt_inj] at *; omega))) (fun k9 q1 q2 q3 => (by first | omega | (simp only [Int32.lt_iff_toInt_lt, Int32.le_iff_toInt_le, Int32.reduceToInt, ← Int32.toInt_inj] at *; omega))))⟩
                  obtain ⟨g_2661, hf_2659, ok_2663, eg_2664⟩ : ∃ g9, f_2658 (q 14) = aI E 2076 g9 ∧ FOK g9 ∧ g9 = upd g_f (v_41 : Int32).toNatClampNeg 0 := ⟨_, hf_2659, (o_f.up (by first | omega | (simp only [Int32.lt_iff_toInt_lt, Int32.le_iff_toInt_le, Int32.reduceToInt, ← Int32.toInt_inj, true_and, and_true, or_true, true_or, false_or, or_false, false_and, and_false, not_true_eq_false, not_false_eq_true] <;> omega)) (fun q1 q2 => (by first | omega | (simp only [Int32.lt_iff_toInt_lt, Int32.le_iff_toInt_le, Int32.reduceToInt, ← Int32.toInt_inj] at *; omega))) (fun k9 q1 q2 q3 => (by first | omega | (simp only [Int32.lt_iff_toInt_lt, Int32.le_iff_toInt_le, Int32.reduceToInt, ← Int32.toInt_inj] at *; omega)))), rfl⟩
                  have hf_2665 := (hk_2660 a_0 (ne_kd e_2642 hf_2641 rfl)).trans e_2642
                  have fr_2666 := FR.w hk_2660 hf_2641 (k := 2176) rfl
                  have lk_2667 := lk_at (g0 := g_f) eg_2664 (by omega) (by omega)
                  have ag_2668 := (AG.rf o_f).st eg_2664 (by omega) (by omega)
                  try simp only [Int32.reduceToInt] at lk_2667
                  refine v_aload_n hC dX12_readLoss_150 rfl ?_
                  refine v_get hC fl_X12_34 m_1 hf_2665 rfl dX12_readLoss_151 ?_
                  refine v_iload_n hC dX12_readLoss_154 rfl ?_
                  refine v_iconst hC dX12_readLoss_155 (v := 1) (by decide) ?_
                  obtain ⟨v_2669, h_2670⟩ : ∃ v9 : Int32, v_41 + 1 = v9 := ⟨_, rfl⟩
                  refine v_iadd hC dX12_readLoss_156 h_2670 ?_
                  have h_2671 := add_v h_2670 (by first | omega | (simp only [Int32.lt_iff_toInt_lt, Int32.le_iff_toInt_le, Int32.reduceToInt, ← Int32.toInt_inj, true_and, and_true, or_true, true_or, false_or, or_false, false_and, and_false, not_true_eq_false, not_false_eq_true] <;> omega)) (by first | omega | (simp only [Int32.lt_iff_toInt_lt, Int32.le_iff_toInt_le, Int32.reduceToInt, ← Int32.toInt_inj, true_and, and_true, or_true, true_or, false_or, or_false, false_and, and_false, not_true_eq_false, not_false_eq_true] <;> omega))
                  try simp only [Int32.reduceToInt] at h_2671
                  refine v_aload_n hC dX12_readLoss_157 rfl ?_
                  refine v_iconst hC dX12_readLoss_158 (v := 0) (by decide) ?_
                  refine v_bipush hC dX12_readLoss_159 (v := 15) (by decide) ?_
                  refine v_vi hC (rest := [.int v_2669, .ref (q 14)]) m_1 hf_2665 rfl mi_X12_number ms_X12_number (p_X12_number hW_2662 k_0) mx_X12_number ml_X12_170 (by decide) rfl (cells1 := 0) (slots1 := 0) (by decide) (by decide) (Nat.le_of_ble_eq_true rfl) (Nat.le_of_ble_eq_true rfl) rfl (Nat.le_of_ble_eq_true rfl) dX12_readLoss_161 (fun r_2672 L_2673 f_2674 h_2675 => ?_)
                  obtain ⟨rfl, hW_2677, hF_2678, -, -, -, -, -, x_2676⟩ := h_2675
                  have fe_2679 : fld (f_2658 a_0) 8 = (v_2646 : Int32).toInt := by rw [hf_2665]; rfl
                  have fe_2680 : fld (f_2658 a_0) 10 = (v_2648 : Int32).toInt := by rw [hf_2665]; rfl
                  have fe_2681 : fld (f_2658 a_0) 12 = (v_2650 : Int32).toInt := by rw [hf_2665]; rfl
                  have hf_2682 := hF_2678.at hf_2659 rfl
                  obtain ⟨v_2684, v_2685, v_2686, v_2687, v_2688, v_2689, v_2690, v_2691, v_2692, v_2693, v_2694, e_2683, -, -, -, -, -, -, -⟩ := hW_2677.at m_1 t_2
                  have fe_2695 : fld (f_2674 a_0) 8 = (v_2687 : Int32).toInt := by rw [e_2683]; rfl
                  have fe_2696 : fld (f_2674 a_0) 9 = (v_2688 : Int32).toInt := by rw [e_2683]; rfl
                  have fe_2697 : fld (f_2674 a_0) 10 = (v_2689 : Int32).toInt := by rw [e_2683]; rfl
                  have fe_2698 : fld (f_2674 a_0) 12 = (v_2691 : Int32).toInt := by rw [e_2683]; rfl
                  rw [fe_2698, fe_2681, fe_2680, fe_2679, fe_2696, fe_2695, fe_2697] at x_2676
                  clear fe_2679 fe_2680 fe_2681 fe_2695 fe_2696 fe_2697 fe_2698
                  try simp only [Int32.reduceToInt, Int64.reduceToInt] at x_2676
                  refine v_iast hC m_22 hf_2682 (vp_in_iff.mpr (by first | omega | (simp only [Int32.lt_iff_toInt_lt, Int32.le_iff_toInt_le, Int32.reduceToInt, ← Int32.toInt_inj, true_and, and_true, or_true, true_or, false_or, or_false, false_and, and_false, not_true_eq_false, not_false_eq_true] <;> omega))) dX12_readLoss_164 (fun f_2699 hf_2700 hk_2701 => ?_)
                  have hW_2703 := hW_2677.up hf_2700 hk_2701 t_23 ⟨_, rfl, (ok_2663.up (by first | omega | (simp only [Int32.lt_iff_toInt_lt, Int32.le_iff_toInt_le, Int32.reduceToInt, ← Int32.toInt_inj, true_and, and_true, or_true, true_or, false_or, or_false, false_and, and_false, not_true_eq_false, not_false_eq_true] <;> omega)) (fun q1 q2 => (by first | omega | (simp only [Int32.lt_iff_toInt_lt, Int32.le_iff_toInt_le, Int32.reduceToInt, ← Int32.toInt_inj] at *; omega))) (fun k9 q1 q2 q3 => (by first | omega | (simp only [Int32.lt_iff_toInt_lt, Int32.le_iff_toInt_le, Int32.reduceToInt, ← Int32.toInt_inj] at *; omega))))⟩
                  obtain ⟨g_2702, hf_2700, ok_2704, eg_2705⟩ : ∃ g9, f_2699 (q 14) = aI E 2076 g9 ∧ FOK g9 ∧ g9 = upd g_2661 (v_2669 : Int32).toNatClampNeg r_2672 := ⟨_, hf_2700, (ok_2663.up (by first | omega | (simp only [Int32.lt_iff_toInt_lt, Int32.le_iff_toInt_le, Int32.reduceToInt, ← Int32.toInt_inj, true_and, and_true, or_true, true_or, false_or, or_false, false_and, and_false, not_true_eq_false, not_false_eq_true] <;> omega)) (fun q1 q2 => (by first | omega | (simp only [Int32.lt_iff_toInt_lt, Int32.le_iff_toInt_le, Int32.reduceToInt, ← Int32.toInt_inj] at *; omega))) (fun k9 q1 q2 q3 => (by first | omega | (simp only [Int32.lt_iff_toInt_lt, Int32.le_iff_toInt_le, Int32.reduceToInt, ← Int32.toInt_inj] at *; omega)))), rfl⟩
                  have hf_2706 := (hk_2701 a_0 (ne_kd e_2683 hf_2682 rfl)).trans e_2683
                  have fr_2707 := FR.w hk_2701 hf_2682 (k := 2176) rfl
                  have lk_2708 := lf_at (g0 := g_f) eg_2705 (by omega) (by omega)
                  have ag_2709 := ag_2668.st eg_2705 (by omega) (by omega)
                  try simp only [Int32.reduceToInt] at lk_2708
                  refine v_aload_n hC dX12_readLoss_165 rfl ?_
                  refine v_get hC fl_X12_34 m_1 hf_2706 rfl dX12_readLoss_166 ?_
                  refine v_iload_n hC dX12_readLoss_169 rfl ?_
                  refine v_iconst hC dX12_readLoss_170 (v := 2) (by decide) ?_
                  obtain ⟨v_2710, h_2711⟩ : ∃ v9 : Int32, v_41 + 2 = v9 := ⟨_, rfl⟩
                  refine v_iadd hC dX12_readLoss_171 h_2711 ?_
                  have h_2712 := add_v h_2711 (by first | omega | (simp only [Int32.lt_iff_toInt_lt, Int32.le_iff_toInt_le, Int32.reduceToInt, ← Int32.toInt_inj, true_and, and_true, or_true, true_or, false_or, or_false, false_and, and_false, not_true_eq_false, not_false_eq_true] <;> omega)) (by first | omega | (simp only [Int32.lt_iff_toInt_lt, Int32.le_iff_toInt_le, Int32.reduceToInt, ← Int32.toInt_inj, true_and, and_true, or_true, true_or, false_or, or_false, false_and, and_false, not_true_eq_false, not_false_eq_true] <;> omega))
                  try simp only [Int32.reduceToInt] at h_2712
                  refine v_aload_n hC dX12_readLoss_172 rfl ?_
                  refine v_ldcwS hC sr_X12_295 dX12_readLoss_173 ?_
                  refine v_aload_n hC dX12_readLoss_176 rfl ?_
                  refine v_get hC fl_X12_34 m_1 hf_2706 rfl dX12_readLoss_177 ?_
                  refine v_iload_n hC dX12_readLoss_180 rfl ?_
                  refine v_iconst hC dX12_readLoss_181 (v := 1) (by decide) ?_
                  obtain ⟨v_2713, h_2714⟩ : ∃ v9 : Int32, v_41 + 1 = v9 := ⟨_, rfl⟩
                  refine v_iadd hC dX12_readLoss_182 h_2714 ?_
                  have h_2715 := add_v h_2714 (by first | omega | (simp only [Int32.lt_iff_toInt_lt, Int32.le_iff_toInt_le, Int32.reduceToInt, ← Int32.toInt_inj, true_and, and_true, or_true, true_or, false_or, or_false, false_and, and_false, not_true_eq_false, not_false_eq_true] <;> omega)) (by first | omega | (simp only [Int32.lt_iff_toInt_lt, Int32.le_iff_toInt_le, Int32.reduceToInt, ← Int32.toInt_inj, true_and, and_true, or_true, true_or, false_or, or_false, false_and, and_false, not_true_eq_false, not_false_eq_true] <;> omega))
                  try simp only [Int32.reduceToInt] at h_2715
                  obtain ⟨v_2716, h_2717⟩ : ∃ v9 : Int32, g_2702 (v_2713 : Int32).toNatClampNeg = v9 := ⟨_, rfl⟩
                  refine v_iald hC m_22 hf_2700 (vp_in_iff.mpr (by first | omega | (simp only [Int32.lt_iff_toInt_lt, Int32.le_iff_toInt_le, Int32.reduceToInt, ← Int32.toInt_inj, true_and, and_true, or_true, true_or, false_or, or_false, false_and, and_false, not_true_eq_false, not_false_eq_true] <;> omega))) h_2717 dX12_readLoss_183 ?_
                  refine v_bipush hC dX12_readLoss_184 (v := 15) (by decide) ?_
                  refine v_vi hC (rest := [.int v_2710, .ref (q 14)]) m_1 hf_2706 rfl mi_X12_told ms_X12_told (p_X12_told hW_2703 k_0 (by decide)) mx_X12_told ml_X12_189 (by decide) rfl (cells1 := 0) (slots1 := 0) (by decide) (by decide) (Nat.le_of_ble_eq_true rfl) (Nat.le_of_ble_eq_true rfl) rfl (Nat.le_of_ble_eq_true rfl) dX12_readLoss_186 (fun r_2718 L_2719 f_2720 h_2721 => ?_)
                  obtain ⟨rfl, hW_2723, hF_2724, -, -, -, -, -, x_2722⟩ := h_2721
                  have fe_2725 : fld (f_2699 a_0) 8 = (v_2687 : Int32).toInt := by rw [hf_2706]; rfl
                  have fe_2726 : fld (f_2699 a_0) 12 = (v_2691 : Int32).toInt := by rw [hf_2706]; rfl
                  have hf_2727 := hF_2724.at hf_2700 rfl
                  obtain ⟨v_2729, v_2730, v_2731, v_2732, v_2733, v_2734, v_2735, v_2736, v_2737, v_2738, v_2739, e_2728, -, -, -, -, -, -, -⟩ := hW_2723.at m_1 t_2
                  have fe_2740 : fld (f_2720 a_0) 8 = (v_2732 : Int32).toInt := by rw [e_2728]; rfl
                  have fe_2741 : fld (f_2720 a_0) 9 = (v_2733 : Int32).toInt := by rw [e_2728]; rfl
                  have fe_2742 : fld (f_2720 a_0) 10 = (v_2734 : Int32).toInt := by rw [e_2728]; rfl
                  have fe_2743 : fld (f_2720 a_0) 12 = (v_2736 : Int32).toInt := by rw [e_2728]; rfl
                  rw [fe_2743, fe_2726, fe_2725, fe_2741, fe_2740, fe_2742] at x_2722
                  clear fe_2725 fe_2726 fe_2740 fe_2741 fe_2742 fe_2743
                  try simp only [Int32.reduceToInt, Int64.reduceToInt] at x_2722
                  refine v_iast hC m_22 hf_2727 (vp_in_iff.mpr (by first | omega | (simp only [Int32.lt_iff_toInt_lt, Int32.le_iff_toInt_le, Int32.reduceToInt, ← Int32.toInt_inj, true_and, and_true, or_true, true_or, false_or, or_false, false_and, and_false, not_true_eq_false, not_false_eq_true] <;> omega))) dX12_readLoss_189 (fun f_2744 hf_2745 hk_2746 => ?_)
                  have hW_2748 := hW_2723.up hf_2745 hk_2746 t_23 ⟨_, rfl, (ok_2704.up (by first | omega | (simp only [Int32.lt_iff_toInt_lt, Int32.le_iff_toInt_le, Int32.reduceToInt, ← Int32.toInt_inj, true_and, and_true, or_true, true_or, false_or, or_false, false_and, and_false, not_true_eq_false, not_false_eq_true] <;> omega)) (fun q1 q2 => (by first | omega | (simp only [Int32.lt_iff_toInt_lt, Int32.le_iff_toInt_le, Int32.reduceToInt, ← Int32.toInt_inj] at *; omega))) (fun k9 q1 q2 q3 => (by first | omega | (simp only [Int32.lt_iff_toInt_lt, Int32.le_iff_toInt_le, Int32.reduceToInt, ← Int32.toInt_inj] at *; omega))))⟩
                  obtain ⟨g_2747, hf_2745, ok_2749, eg_2750⟩ : ∃ g9, f_2744 (q 14) = aI E 2076 g9 ∧ FOK g9 ∧ g9 = upd g_2702 (v_2710 : Int32).toNatClampNeg r_2718 := ⟨_, hf_2745, (ok_2704.up (by first | omega | (simp only [Int32.lt_iff_toInt_lt, Int32.le_iff_toInt_le, Int32.reduceToInt, ← Int32.toInt_inj, true_and, and_true, or_true, true_or, false_or, or_false, false_and, and_false, not_true_eq_false, not_false_eq_true] <;> omega)) (fun q1 q2 => (by first | omega | (simp only [Int32.lt_iff_toInt_lt, Int32.le_iff_toInt_le, Int32.reduceToInt, ← Int32.toInt_inj] at *; omega))) (fun k9 q1 q2 q3 => (by first | omega | (simp only [Int32.lt_iff_toInt_lt, Int32.le_iff_toInt_le, Int32.reduceToInt, ← Int32.toInt_inj] at *; omega)))), rfl⟩
                  have hf_2751 := (hk_2746 a_0 (ne_kd e_2728 hf_2727 rfl)).trans e_2728
                  have fr_2752 := FR.w hk_2746 hf_2727 (k := 2176) rfl
                  have lk_2753 := l2_at (g0 := g_f) eg_2750 (by omega) (by omega)
                  have ag_2754 := ag_2709.st eg_2750 (by omega) (by omega)
                  try simp only [Int32.reduceToInt] at lk_2753
                  refine v_goto hC dX12_readLoss_190 (tgt := 258) (by decide) ?_
                  refine v_aload_n hC dX12_readLoss_258 rfl ?_
                  refine v_vv hC (rest := []) m_1 hf_2751 rfl mi_X12_ends ms_X12_ends (p_X12_ends hW_2748 k_0) mx_X12_ends ml_X12_178 (by decide) rfl (cells1 := 0) (slots1 := 0) (by decide) (by decide) (Nat.le_of_ble_eq_true rfl) (Nat.le_of_ble_eq_true rfl) rfl (Nat.le_of_ble_eq_true rfl) dX12_readLoss_259 (fun L_2756 f_2757 h_2758 => ?_)
                  obtain ⟨rfl, hW_2760, hF_2761, -, -, -, -, x_2759⟩ := h_2758
                  have fe_2762 : fld (f_2744 a_0) 8 = (v_2732 : Int32).toInt := by rw [hf_2751]; rfl
                  have fe_2763 : fld (f_2744 a_0) 10 = (v_2734 : Int32).toInt := by rw [hf_2751]; rfl
                  have fe_2764 : fld (f_2744 a_0) 12 = (v_2736 : Int32).toInt := by rw [hf_2751]; rfl
                  have hf_2765 := hF_2761.at hf_2745 rfl
                  obtain ⟨v_2767, v_2768, v_2769, v_2770, v_2771, v_2772, v_2773, v_2774, v_2775, v_2776, v_2777, e_2766, -, -, -, -, -, -, -⟩ := hW_2760.at m_1 t_2
                  have fe_2778 : fld (f_2757 a_0) 8 = (v_2770 : Int32).toInt := by rw [e_2766]; rfl
                  have fe_2779 : fld (f_2757 a_0) 9 = (v_2771 : Int32).toInt := by rw [e_2766]; rfl
                  have fe_2780 : fld (f_2757 a_0) 10 = (v_2772 : Int32).toInt := by rw [e_2766]; rfl
                  have fe_2781 : fld (f_2757 a_0) 12 = (v_2774 : Int32).toInt := by rw [e_2766]; rfl
                  rw [fe_2781, fe_2764, fe_2763, fe_2762, fe_2779, fe_2778, fe_2780] at x_2759
                  clear fe_2762 fe_2763 fe_2764 fe_2778 fe_2779 fe_2780 fe_2781
                  refine v_aload_n hC dX12_readLoss_262 rfl ?_
                  refine v_get hC fl_X12_34 m_1 e_2766 rfl dX12_readLoss_263 ?_
                  refine v_bipush hC dX12_readLoss_266 (v := 6) (by decide) ?_
                  refine v_dup2 hC dX12_readLoss_268 rfl rfl ?_
                  have l6_2782 : (g_2747 6).toInt = (g_f 6).toInt := congrArg Int32.toInt ag_2754.2.1
                  refine v_iald hC m_22 hf_2765 (vp_in_iff.mpr (by decide)) (v := g_2747 6) rfl dX12_readLoss_269 ?_
                  refine v_iconst hC dX12_readLoss_270 (v := 1) (by decide) ?_
                  obtain ⟨v_2783, h_2784⟩ : ∃ v9 : Int32, (g_2747 6) + 1 = v9 := ⟨_, rfl⟩
                  refine v_iadd hC dX12_readLoss_271 h_2784 ?_
                  have h_2785 := add_v h_2784 (by first | omega | (simp only [Int32.lt_iff_toInt_lt, Int32.le_iff_toInt_le, Int32.reduceToInt, ← Int32.toInt_inj, true_and, and_true, or_true, true_or, false_or, or_false, false_and, and_false, not_true_eq_false, not_false_eq_true] <;> omega)) (by first | omega | (simp only [Int32.lt_iff_toInt_lt, Int32.le_iff_toInt_le, Int32.reduceToInt, ← Int32.toInt_inj, true_and, and_true, or_true, true_or, false_or, or_false, false_and, and_false, not_true_eq_false, not_false_eq_true] <;> omega))
                  try simp only [Int32.reduceToInt] at h_2785
                  refine v_iast hC m_22 hf_2765 (vp_in_iff.mpr (by decide)) dX12_readLoss_272 (fun f_2786 hf_2787 hk_2788 => ?_)
                  have hW_2790 := hW_2760.up hf_2787 hk_2788 t_23 ⟨_, rfl, (ok_2749.up (i := 6) (by decide) (fun q1 q2 => absurd (And.intro q1 q2) (by decide)) (fun k9 q1 q2 q3 => by simp only [Int32.reduceToInt] at q3; omega))⟩
                  obtain ⟨g_2789, hf_2787, ok_2791, eg_2792⟩ : ∃ g9, f_2786 (q 14) = aI E 2076 g9 ∧ FOK g9 ∧ g9 = upd g_2747 (6 : Int32).toNatClampNeg v_2783 := ⟨_, hf_2787, (ok_2749.up (i := 6) (by decide) (fun q1 q2 => absurd (And.intro q1 q2) (by decide)) (fun k9 q1 q2 q3 => by simp only [Int32.reduceToInt] at q3; omega)), rfl⟩
                  have hf_2793 := (hk_2788 a_0 (ne_kd e_2766 hf_2765 rfl)).trans e_2766
                  have fr_2794 := FR.w hk_2788 hf_2765 (k := 2176) rfl
                  have ln6_2795 := FOK.n6 ag_2754.1 eg_2792
                  have ln6_2795_t : (g_2789 6).toInt = v_2783.toInt := congrArg Int32.toInt ln6_2795.2
                  have fe_2796 : fld (f_2786 a_0) 12 = (v_2774 : Int32).toInt := by rw [hf_2793]; rfl
                  have fe_2801 : fld (f_2786 a_0) 8 = (v_2770 : Int32).toInt := by rw [hf_2793]; rfl
                  have fe_2802 : fld (f_2786 a_0) 12 = (v_2774 : Int32).toInt := by rw [hf_2793]; rfl
                  exact hR _ _ _ _ _ _ dX12_readLoss_273 (Nat.le_of_ble_eq_true rfl) (Nat.le_of_ble_eq_true rfl) ⟨rfl, hW_2790, (((((((((((hF_1436.tr hF_1474).tr hF_2456).tr hF_2638).tr fr_2666).tr hF_2678).tr fr_2707).tr hF_2724).tr fr_2752).tr hF_2761).tr fr_2794).mono rfl), ⟨_, hf_2787, ln6_2795.1, (by omega), (by rw [fe_2796]; by_cases q9 : v_2774.toInt = 0; have gp_2797 := x_2759.resolve_left (fun h9 => h9 q9); clear x_2759; have gp_2798 := x_2722.resolve_left (fun h9 => h9 gp_2797.1); clear x_2722; have gp_2799 := x_2676.resolve_left (fun h9 => h9 gp_2798.1); clear x_2676; have gz_2800 := x_2636.symm.trans gp_2799.1; exact .inr (LO.fin hLO ag_2754 eg_2792 (by omega) (by omega) (fun q8 => by omega)); exact .inl q9)⟩, (by simp only [fe_2801, fe_2802, mz_36, mz_37]; by_cases q9 : (v_2774 : Int32).toInt = 0; have gp_2803 := x_2759.resolve_left (fun h9 => h9 q9); clear x_2759; have gp_2804 := x_2722.resolve_left (fun h9 => h9 gp_2803.1); clear x_2722; have gp_2805 := x_2676.resolve_left (fun h9 => h9 gp_2804.1); clear x_2676; have gz_2806 := x_2636.symm.trans gp_2805.1; (right; omega); exact .inl q9)⟩
        · simp only [Int32.lt_iff_toInt_lt, Int32.le_iff_toInt_le, Int32.reduceToInt, ← Int32.toInt_inj] at h_1462
          have g0_1465 := gd_f x_1458 h_1462
          clear x_1458
          have fe_2807 : fld (f_1431 a_0) 12 = (v_1447 : Int32).toInt := by rw [e_1439]; rfl
          have fe_2808 : fld (f_1431 a_0) 8 = (v_1443 : Int32).toInt := by rw [e_1439]; rfl
          have fe_2809 : fld (f_1431 a_0) 12 = (v_1447 : Int32).toInt := by rw [e_1439]; rfl
          exact hR _ _ _ _ _ _ dX12_readLoss_87 (Nat.le_of_ble_eq_true rfl) (Nat.le_of_ble_eq_true rfl) ⟨rfl, hW_1435, (hF_1436.mono rfl), ⟨_, hf_1438, (AG.rf o_f).1, (by omega), (by rw [fe_2807]; left; omega)⟩, (by simp only [fe_2808, fe_2809, mz_36, mz_37]; exact .inl g0_1465)⟩
    · simp only [Int32.lt_iff_toInt_lt, Int32.le_iff_toInt_le, Int32.reduceToInt, ← Int32.toInt_inj] at h_68
      refine v_aload_n hC dX12_readLoss_54 rfl ?_
      refine v_iconst hC dX12_readLoss_55 (v := 1) (by decide) ?_
      refine v_vv hC (rest := []) m_1 e_24 rfl mi_X12_errs ms_X12_errs (p_X12_errs hW k_0 (by decide)) mx_X12_errs ml_X12_162 (by decide) rfl (cells1 := 0) (slots1 := 0) (by decide) (by decide) (Nat.le_of_ble_eq_true rfl) (Nat.le_of_ble_eq_true rfl) rfl (Nat.le_of_ble_eq_true rfl) dX12_readLoss_56 (fun L_2811 f_2812 h_2813 => ?_)
      obtain ⟨rfl, hW_2816, hF_2817, x_2814, x_2815, -, -, -⟩ := h_2813
      have fe_2818 : fld (f a_0) 8 = (v_28 : Int32).toInt := by rw [e_24]; rfl
      have hf_2819 := hF_2817.at e_f rfl
      obtain ⟨v_2821, v_2822, v_2823, v_2824, v_2825, v_2826, v_2827, v_2828, v_2829, v_2830, v_2831, e_2820, -, -, -, -, -, -, -⟩ := hW_2816.at m_1 t_2
      have fe_2832 : fld (f_2812 a_0) 8 = (v_2824 : Int32).toInt := by rw [e_2820]; rfl
      have fe_2833 : fld (f_2812 a_0) 12 = (v_2828 : Int32).toInt := by rw [e_2820]; rfl
      rw [fe_2833] at x_2814
      rw [fe_2832, fe_2818] at x_2815
      clear fe_2818 fe_2832 fe_2833
      refine v_iload_n hC dX12_readLoss_59 rfl ?_
      refine v_if_eq_t hC dX12_readLoss_60 (tgt := 80) (by decide) (by first | omega | (simp only [Int32.lt_iff_toInt_lt, Int32.le_iff_toInt_le, Int32.reduceToInt, ← Int32.toInt_inj, true_and, and_true, or_true, true_or, false_or, or_false, false_and, and_false, not_true_eq_false, not_false_eq_true] <;> omega)) ?_
      refine v_aload_n hC dX12_readLoss_80 rfl ?_
      refine v_vi hC (rest := []) m_1 e_2820 rfl mi_X12_good ms_X12_good (p_X12_good hW_2816 k_0) mx_X12_good ml_X12_139 (by decide) rfl (cells1 := 0) (slots1 := 0) (by decide) (by decide) (Nat.le_of_ble_eq_true rfl) (Nat.le_of_ble_eq_true rfl) rfl (Nat.le_of_ble_eq_true rfl) dX12_readLoss_81 (fun r_2834 L_2835 f_2836 h_2837 => ?_)
      obtain ⟨rfl, rfl, b_2838, x_2839⟩ := h_2837
      have fe_2842 : fld (f_2812 a_0) 12 = (v_2828 : Int32).toInt := by rw [e_2820]; rfl
      rw [fe_2842] at x_2839
      clear fe_2842
      try simp only [Int32.reduceToInt, Int64.reduceToInt] at x_2839
      refine v_if_ne hC dX12_readLoss_84 (tgt := 88) (by decide) (fun h_2843 => ?_) (fun h_2843 => ?_)
      · simp only [Int32.lt_iff_toInt_lt, Int32.le_iff_toInt_le, Int32.reduceToInt, ← Int32.toInt_inj] at h_2843
        have nb_2844 : (1 ≤ r_2834.toInt ∧ r_2834.toInt ≤ 1) := by omega
        have g0_2845 := gd_t x_2839 h_2843
        clear x_2839
        refine v_aload_n hC dX12_readLoss_88 rfl ?_
        refine v_ldcwS hC sr_X12_287 dX12_readLoss_89 ?_
        refine v_vi hC (rest := []) m_1 e_2820 rfl mi_X12_takes ms_X12_takes (p_X12_takes hW_2816 k_0 (by decide)) mx_X12_takes ml_X12_159 (by decide) rfl (cells1 := 0) (slots1 := 0) (by decide) (by decide) (Nat.le_of_ble_eq_true rfl) (Nat.le_of_ble_eq_true rfl) rfl (Nat.le_of_ble_eq_true rfl) dX12_readLoss_92 (fun r_2847 L_2848 f_2849 h_2850 => ?_)
        obtain ⟨rfl, hW_2854, hF_2855, rfl, x_2851, x_2852, x_2853, -⟩ := h_2850
        have fe_2856 : fld (f_2812 a_0) 8 = (v_2824 : Int32).toInt := by rw [e_2820]; rfl
        have fe_2857 : fld (f_2812 a_0) 9 = (v_2825 : Int32).toInt := by rw [e_2820]; rfl
        have fe_2858 : fld (f_2812 a_0) 10 = (v_2826 : Int32).toInt := by rw [e_2820]; rfl
        have fe_2859 : fld (f_2812 a_0) 12 = (v_2828 : Int32).toInt := by rw [e_2820]; rfl
        have hf_2860 := hF_2855.at hf_2819 rfl
        obtain ⟨v_2862, v_2863, v_2864, v_2865, v_2866, v_2867, v_2868, v_2869, v_2870, v_2871, v_2872, e_2861, -, -, -, -, -, -, -⟩ := hW_2854.at m_1 t_2
        have fe_2873 : fld (f_2849 a_0) 8 = (v_2865 : Int32).toInt := by rw [e_2861]; rfl
        have fe_2874 : fld (f_2849 a_0) 9 = (v_2866 : Int32).toInt := by rw [e_2861]; rfl
        have fe_2875 : fld (f_2849 a_0) 10 = (v_2867 : Int32).toInt := by rw [e_2861]; rfl
        have fe_2876 : fld (f_2849 a_0) 12 = (v_2869 : Int32).toInt := by rw [e_2861]; rfl
        rw [fe_2856, fe_2874, fe_2873, fe_2875] at x_2851
        rw [fe_2873, fe_2856, fe_2874, fe_2857, fe_2875, fe_2858] at x_2852
        rw [fe_2876, fe_2859] at x_2853
        clear fe_2856 fe_2857 fe_2858 fe_2859 fe_2873 fe_2874 fe_2875 fe_2876
        try simp only [Int32.reduceToInt, Int64.reduceToInt] at x_2851
        try simp only [Int32.reduceToInt, Int64.reduceToInt] at x_2852
        try simp only [Int32.reduceToInt, Int64.reduceToInt] at x_2853
        refine v_if_eq hC dX12_readLoss_95 (tgt := 193) (by decide) (fun h_2877 => ?_) (fun h_2877 => ?_)
        · simp only [Int32.lt_iff_toInt_lt, Int32.le_iff_toInt_le, Int32.reduceToInt, ← Int32.toInt_inj] at h_2877
          refine v_aload_n hC dX12_readLoss_193 rfl ?_
          refine v_ldcwS hC sr_X12_289 dX12_readLoss_194 ?_
          refine v_vi hC (rest := []) m_1 e_2861 rfl mi_X12_takes ms_X12_takes (p_X12_takes hW_2854 k_0 (by decide)) mx_X12_takes ml_X12_159 (by decide) rfl (cells1 := 0) (slots1 := 0) (by decide) (by decide) (Nat.le_of_ble_eq_true rfl) (Nat.le_of_ble_eq_true rfl) rfl (Nat.le_of_ble_eq_true rfl) dX12_readLoss_197 (fun r_2878 L_2879 f_2880 h_2881 => ?_)
          obtain ⟨rfl, hW_2885, hF_2886, rfl, x_2882, x_2883, x_2884, -⟩ := h_2881
          have fe_2887 : fld (f_2849 a_0) 8 = (v_2865 : Int32).toInt := by rw [e_2861]; rfl
          have fe_2888 : fld (f_2849 a_0) 9 = (v_2866 : Int32).toInt := by rw [e_2861]; rfl
          have fe_2889 : fld (f_2849 a_0) 10 = (v_2867 : Int32).toInt := by rw [e_2861]; rfl
          have fe_2890 : fld (f_2849 a_0) 12 = (v_2869 : Int32).toInt := by rw [e_2861]; rfl
          have hf_2891 := hF_2886.at hf_2860 rfl
          obtain ⟨v_2893, v_2894, v_2895, v_2896, v_2897, v_2898, v_2899, v_2900, v_2901, v_2902, v_2903, e_2892, -, -, -, -, -, -, -⟩ := hW_2885.at m_1 t_2
          have fe_2904 : fld (f_2880 a_0) 8 = (v_2896 : Int32).toInt := by rw [e_2892]; rfl
          have fe_2905 : fld (f_2880 a_0) 9 = (v_2897 : Int32).toInt := by rw [e_2892]; rfl
          have fe_2906 : fld (f_2880 a_0) 10 = (v_2898 : Int32).toInt := by rw [e_2892]; rfl
          have fe_2907 : fld (f_2880 a_0) 12 = (v_2900 : Int32).toInt := by rw [e_2892]; rfl
          rw [fe_2887, fe_2905, fe_2904, fe_2906] at x_2882
          rw [fe_2904, fe_2887, fe_2905, fe_2888, fe_2906, fe_2889] at x_2883
          rw [fe_2907, fe_2890] at x_2884
          clear fe_2887 fe_2888 fe_2889 fe_2890 fe_2904 fe_2905 fe_2906 fe_2907
          try simp only [Int32.reduceToInt, Int64.reduceToInt] at x_2882
          try simp only [Int32.reduceToInt, Int64.reduceToInt] at x_2883
          try simp only [Int32.reduceToInt, Int64.reduceToInt] at x_2884
          refine v_if_eq hC dX12_readLoss_200 (tgt := 247) (by decide) (fun h_2908 => ?_) (fun h_2908 => ?_)
          · simp only [Int32.lt_iff_toInt_lt, Int32.le_iff_toInt_le, Int32.reduceToInt, ← Int32.toInt_inj] at h_2908
            refine v_aload_n hC dX12_readLoss_247 rfl ?_
            refine v_vv hC (rest := []) m_1 e_2892 rfl mi_X12_advance ms_X12_advance (p_X12_advance hW_2885 k_0) mx_X12_advance ml_X12_156 (by decide) rfl (cells1 := 0) (slots1 := 0) (by decide) (by decide) (Nat.le_of_ble_eq_true rfl) (Nat.le_of_ble_eq_true rfl) rfl (Nat.le_of_ble_eq_true rfl) dX12_readLoss_248 (fun L_2910 f_2911 h_2912 => ?_)
            obtain ⟨rfl, hW_2916, hF_2917, x_2913, x_2914, x_2915, -⟩ := h_2912
            have fe_2918 : fld (f_2880 a_0) 8 = (v_2896 : Int32).toInt := by rw [e_2892]; rfl
            have fe_2919 : fld (f_2880 a_0) 12 = (v_2900 : Int32).toInt := by rw [e_2892]; rfl
            have hf_2920 := hF_2917.at hf_2891 rfl
            obtain ⟨v_2922, v_2923, v_2924, v_2925, v_2926, v_2927, v_2928, v_2929, v_2930, v_2931, v_2932, e_2921, -, -, -, -, -, -, -⟩ := hW_2916.at m_1 t_2
            have fe_2933 : fld (f_2911 a_0) 8 = (v_2925 : Int32).toInt := by rw [e_2921]; rfl
            have fe_2934 : fld (f_2911 a_0) 9 = (v_2926 : Int32).toInt := by rw [e_2921]; rfl
            have fe_2935 : fld (f_2911 a_0) 10 = (v_2927 : Int32).toInt := by rw [e_2921]; rfl
            have fe_2936 : fld (f_2911 a_0) 12 = (v_2929 : Int32).toInt := by rw [e_2921]; rfl
            rw [fe_2918, fe_2934, fe_2933] at x_2913
            rw [fe_2935, fe_2934, fe_2933] at x_2914
            rw [fe_2936, fe_2919] at x_2915
            clear fe_2918 fe_2919 fe_2933 fe_2934 fe_2935 fe_2936
            refine v_aload_n hC dX12_readLoss_251 rfl ?_
            refine v_get hC fl_X12_34 m_1 e_2921 rfl dX12_readLoss_252 ?_
            refine v_iload_n hC dX12_readLoss_255 rfl ?_
            refine v_iconst hC dX12_readLoss_256 (v := 3) (by decide) ?_
            refine v_iast hC m_22 hf_2920 (vp_in_iff.mpr (by first | omega | (simp only [Int32.lt_iff_toInt_lt, Int32.le_iff_toInt_le, Int32.reduceToInt, ← Int32.toInt_inj, true_and, and_true, or_true, true_or, false_or, or_false, false_and, and_false, not_true_eq_false, not_false_eq_true] <;> omega))) dX12_readLoss_257 (fun f_2937 hf_2938 hk_2939 => ?_)
            have hW_2941 := hW_2916.up hf_2938 hk_2939 t_23 ⟨_, rfl, (o_f.up (by first | omega | (simp only [Int32.lt_iff_toInt_lt, Int32.le_iff_toInt_le, Int32.reduceToInt, ← Int32.toInt_inj, true_and, and_true, or_true, true_or, false_or, or_false, false_and, and_false, not_true_eq_false, not_false_eq_true] <;> omega)) (fun q1 q2 => (by first | omega | (simp only [Int32.lt_iff_toInt_lt, Int32.le_iff_toInt_le, Int32.reduceToInt, ← Int32.toInt_inj] at *; omega))) (fun k9 q1 q2 q3 => (by first | omega | (simp only [Int32.lt_iff_toInt_lt, Int32.le_iff_toInt_le, Int32.reduceToInt, ← Int32.toInt_inj] at *; omega))))⟩
            obtain ⟨g_2940, hf_2938, ok_2942, eg_2943⟩ : ∃ g9, f_2937 (q 14) = aI E 2076 g9 ∧ FOK g9 ∧ g9 = upd g_f (v_41 : Int32).toNatClampNeg 3 := ⟨_, hf_2938, (o_f.up (by first | omega | (simp only [Int32.lt_iff_toInt_lt, Int32.le_iff_toInt_le, Int32.reduceToInt, ← Int32.toInt_inj, true_and, and_true, or_true, true_or, false_or, or_false, false_and, and_false, not_true_eq_false, not_false_eq_true] <;> omega)) (fun q1 q2 => (by first | omega | (simp only [Int32.lt_iff_toInt_lt, Int32.le_iff_toInt_le, Int32.reduceToInt, ← Int32.toInt_inj] at *; omega))) (fun k9 q1 q2 q3 => (by first | omega | (simp only [Int32.lt_iff_toInt_lt, Int32.le_iff_toInt_le, Int32.reduceToInt, ← Int32.toInt_inj] at *; omega)))), rfl⟩
            have hf_2944 := (hk_2939 a_0 (ne_kd e_2921 hf_2920 rfl)).trans e_2921
            have fr_2945 := FR.w hk_2939 hf_2920 (k := 2176) rfl
            have lk_2946 := lk_at (g0 := g_f) eg_2943 (by omega) (by omega)
            have ag_2947 := (AG.rf o_f).st eg_2943 (by omega) (by omega)
            try simp only [Int32.reduceToInt] at lk_2946
            refine v_aload_n hC dX12_readLoss_258 rfl ?_
            refine v_vv hC (rest := []) m_1 hf_2944 rfl mi_X12_ends ms_X12_ends (p_X12_ends hW_2941 k_0) mx_X12_ends ml_X12_178 (by decide) rfl (cells1 := 0) (slots1 := 0) (by decide) (by decide) (Nat.le_of_ble_eq_true rfl) (Nat.le_of_ble_eq_true rfl) rfl (Nat.le_of_ble_eq_true rfl) dX12_readLoss_259 (fun L_2949 f_2950 h_2951 => ?_)
            obtain ⟨rfl, hW_2953, hF_2954, -, -, -, -, x_2952⟩ := h_2951
            have fe_2955 : fld (f_2937 a_0) 8 = (v_2925 : Int32).toInt := by rw [hf_2944]; rfl
            have fe_2956 : fld (f_2937 a_0) 10 = (v_2927 : Int32).toInt := by rw [hf_2944]; rfl
            have fe_2957 : fld (f_2937 a_0) 12 = (v_2929 : Int32).toInt := by rw [hf_2944]; rfl
            have hf_2958 := hF_2954.at hf_2938 rfl
            obtain ⟨v_2960, v_2961, v_2962, v_2963, v_2964, v_2965, v_2966, v_2967, v_2968, v_2969, v_2970, e_2959, -, -, -, -, -, -, -⟩ := hW_2953.at m_1 t_2
            have fe_2971 : fld (f_2950 a_0) 8 = (v_2963 : Int32).toInt := by rw [e_2959]; rfl
            have fe_2972 : fld (f_2950 a_0) 9 = (v_2964 : Int32).toInt := by rw [e_2959]; rfl
            have fe_2973 : fld (f_2950 a_0) 10 = (v_2965 : Int32).toInt := by rw [e_2959]; rfl
            have fe_2974 : fld (f_2950 a_0) 12 = (v_2967 : Int32).toInt := by rw [e_2959]; rfl
            rw [fe_2974, fe_2957, fe_2956, fe_2955, fe_2972, fe_2971, fe_2973] at x_2952
            clear fe_2955 fe_2956 fe_2957 fe_2971 fe_2972 fe_2973 fe_2974
            refine v_aload_n hC dX12_readLoss_262 rfl ?_
            refine v_get hC fl_X12_34 m_1 e_2959 rfl dX12_readLoss_263 ?_
            refine v_bipush hC dX12_readLoss_266 (v := 6) (by decide) ?_
            refine v_dup2 hC dX12_readLoss_268 rfl rfl ?_
            have l6_2975 : (g_2940 6).toInt = (g_f 6).toInt := congrArg Int32.toInt ag_2947.2.1
            refine v_iald hC m_22 hf_2958 (vp_in_iff.mpr (by decide)) (v := g_2940 6) rfl dX12_readLoss_269 ?_
            refine v_iconst hC dX12_readLoss_270 (v := 1) (by decide) ?_
            obtain ⟨v_2976, h_2977⟩ : ∃ v9 : Int32, (g_2940 6) + 1 = v9 := ⟨_, rfl⟩
            refine v_iadd hC dX12_readLoss_271 h_2977 ?_
            have h_2978 := add_v h_2977 (by first | omega | (simp only [Int32.lt_iff_toInt_lt, Int32.le_iff_toInt_le, Int32.reduceToInt, ← Int32.toInt_inj, true_and, and_true, or_true, true_or, false_or, or_false, false_and, and_false, not_true_eq_false, not_false_eq_true] <;> omega)) (by first | omega | (simp only [Int32.lt_iff_toInt_lt, Int32.le_iff_toInt_le, Int32.reduceToInt, ← Int32.toInt_inj, true_and, and_true, or_true, true_or, false_or, or_false, false_and, and_false, not_true_eq_false, not_false_eq_true] <;> omega))
            try simp only [Int32.reduceToInt] at h_2978
            refine v_iast hC m_22 hf_2958 (vp_in_iff.mpr (by decide)) dX12_readLoss_272 (fun f_2979 hf_2980 hk_2981 => ?_)
            have hW_2983 := hW_2953.up hf_2980 hk_2981 t_23 ⟨_, rfl, (ok_2942.up (i := 6) (by decide) (fun q1 q2 => absurd (And.intro q1 q2) (by decide)) (fun k9 q1 q2 q3 => by simp only [Int32.reduceToInt] at q3; omega))⟩
            obtain ⟨g_2982, hf_2980, ok_2984, eg_2985⟩ : ∃ g9, f_2979 (q 14) = aI E 2076 g9 ∧ FOK g9 ∧ g9 = upd g_2940 (6 : Int32).toNatClampNeg v_2976 := ⟨_, hf_2980, (ok_2942.up (i := 6) (by decide) (fun q1 q2 => absurd (And.intro q1 q2) (by decide)) (fun k9 q1 q2 q3 => by simp only [Int32.reduceToInt] at q3; omega)), rfl⟩
            have hf_2986 := (hk_2981 a_0 (ne_kd e_2959 hf_2958 rfl)).trans e_2959
            have fr_2987 := FR.w hk_2981 hf_2958 (k := 2176) rfl
            have ln6_2988 := FOK.n6 ag_2947.1 eg_2985
            have ln6_2988_t : (g_2982 6).toInt = v_2976.toInt := congrArg Int32.toInt ln6_2988.2
            have fe_2989 : fld (f_2979 a_0) 12 = (v_2967 : Int32).toInt := by rw [hf_2986]; rfl
            have fe_2994 : fld (f_2979 a_0) 8 = (v_2963 : Int32).toInt := by rw [hf_2986]; rfl
            have fe_2995 : fld (f_2979 a_0) 12 = (v_2967 : Int32).toInt := by rw [hf_2986]; rfl
            exact hR _ _ _ _ _ _ dX12_readLoss_273 (Nat.le_of_ble_eq_true rfl) (Nat.le_of_ble_eq_true rfl) ⟨rfl, hW_2983, (((((((hF_2817.tr hF_2855).tr hF_2886).tr hF_2917).tr fr_2945).tr hF_2954).tr fr_2987).mono rfl), ⟨_, hf_2980, ln6_2988.1, (by omega), (by rw [fe_2989]; by_cases q9 : v_2967.toInt = 0; have gp_2990 := x_2952.resolve_left (fun h9 => h9 q9); clear x_2952; have gz_2991 := x_2915.symm.trans gp_2990.1; have gz_2992 := x_2884.symm.trans gz_2991; have gz_2993 := x_2853.symm.trans gz_2992; exact .inr (LO.fin hLO ag_2947 eg_2985 (by omega) (by omega) (fun q8 => by omega)); exact .inl q9)⟩, (by simp only [fe_2994, fe_2995, mz_36, mz_37]; by_cases q9 : (v_2967 : Int32).toInt = 0; have gp_2996 := x_2952.resolve_left (fun h9 => h9 q9); clear x_2952; have gz_2997 := x_2915.symm.trans gp_2996.1; have gz_2998 := x_2884.symm.trans gz_2997; have gz_2999 := x_2853.symm.trans gz_2998; (right; omega); exact .inl q9)⟩
          · simp only [Int32.lt_iff_toInt_lt, Int32.le_iff_toInt_le, Int32.reduceToInt, ← Int32.toInt_inj] at h_2908
            refine v_aload_n hC dX12_readLoss_203 rfl ?_
            refine v_get hC fl_X12_34 m_1 e_2892 rfl dX12_readLoss_204 ?_
            refine v_iload_n hC dX12_readLoss_207 rfl ?_
            refine v_iconst hC dX12_readLoss_208 (v := 2) (by decide) ?_
            refine v_iast hC m_22 hf_2891 (vp_in_iff.mpr (by first | omega | (simp only [Int32.lt_iff_toInt_lt, Int32.le_iff_toInt_le, Int32.reduceToInt, ← Int32.toInt_inj, true_and, and_true, or_true, true_or, false_or, or_false, false_and, and_false, not_true_eq_false, not_false_eq_true] <;> omega))) dX12_readLoss_209 (fun f_3000 hf_3001 hk_3002 => ?_)
            have hW_3004 := hW_2885.up hf_3001 hk_3002 t_23 ⟨_, rfl, (o_f.up (by first | omega | (simp only [Int32.lt_iff_toInt_lt, Int32.le_iff_toInt_le, Int32.reduceToInt, ← Int32.toInt_inj, true_and, and_true, or_true, true_or, false_or, or_false, false_and, and_false, not_true_eq_false, not_false_eq_true] <;> omega)) (fun q1 q2 => (by first | omega | (simp only [Int32.lt_iff_toInt_lt, Int32.le_iff_toInt_le, Int32.reduceToInt, ← Int32.toInt_inj] at *; omega))) (fun k9 q1 q2 q3 => (by first | omega | (simp only [Int32.lt_iff_toInt_lt, Int32.le_iff_toInt_le, Int32.reduceToInt, ← Int32.toInt_inj] at *; omega))))⟩
            obtain ⟨g_3003, hf_3001, ok_3005, eg_3006⟩ : ∃ g9, f_3000 (q 14) = aI E 2076 g9 ∧ FOK g9 ∧ g9 = upd g_f (v_41 : Int32).toNatClampNeg 2 := ⟨_, hf_3001, (o_f.up (by first | omega | (simp only [Int32.lt_iff_toInt_lt, Int32.le_iff_toInt_le, Int32.reduceToInt, ← Int32.toInt_inj, true_and, and_true, or_true, true_or, false_or, or_false, false_and, and_false, not_true_eq_false, not_false_eq_true] <;> omega)) (fun q1 q2 => (by first | omega | (simp only [Int32.lt_iff_toInt_lt, Int32.le_iff_toInt_le, Int32.reduceToInt, ← Int32.toInt_inj] at *; omega))) (fun k9 q1 q2 q3 => (by first | omega | (simp only [Int32.lt_iff_toInt_lt, Int32.le_iff_toInt_le, Int32.reduceToInt, ← Int32.toInt_inj] at *; omega)))), rfl⟩
            have hf_3007 := (hk_3002 a_0 (ne_kd e_2892 hf_2891 rfl)).trans e_2892
            have fr_3008 := FR.w hk_3002 hf_2891 (k := 2176) rfl
            have lk_3009 := lk_at (g0 := g_f) eg_3006 (by omega) (by omega)
            have ag_3010 := (AG.rf o_f).st eg_3006 (by omega) (by omega)
            try simp only [Int32.reduceToInt] at lk_3009
            refine v_aload_n hC dX12_readLoss_210 rfl ?_
            refine v_get hC fl_X12_34 m_1 hf_3007 rfl dX12_readLoss_211 ?_
            refine v_iload_n hC dX12_readLoss_214 rfl ?_
            refine v_iconst hC dX12_readLoss_215 (v := 1) (by decide) ?_
            obtain ⟨v_3011, h_3012⟩ : ∃ v9 : Int32, v_41 + 1 = v9 := ⟨_, rfl⟩
            refine v_iadd hC dX12_readLoss_216 h_3012 ?_
            have h_3013 := add_v h_3012 (by first | omega | (simp only [Int32.lt_iff_toInt_lt, Int32.le_iff_toInt_le, Int32.reduceToInt, ← Int32.toInt_inj, true_and, and_true, or_true, true_or, false_or, or_false, false_and, and_false, not_true_eq_false, not_false_eq_true] <;> omega)) (by first | omega | (simp only [Int32.lt_iff_toInt_lt, Int32.le_iff_toInt_le, Int32.reduceToInt, ← Int32.toInt_inj, true_and, and_true, or_true, true_or, false_or, or_false, false_and, and_false, not_true_eq_false, not_false_eq_true] <;> omega))
            try simp only [Int32.reduceToInt] at h_3013
            refine v_aload_n hC dX12_readLoss_217 rfl ?_
            refine v_iconst hC dX12_readLoss_218 (v := 1) (by decide) ?_
            refine v_bipush hC dX12_readLoss_219 (v := 99) (by decide) ?_
            refine v_vi hC (rest := [.int v_3011, .ref (q 14)]) m_1 hf_3007 rfl mi_X12_number ms_X12_number (p_X12_number hW_3004 k_0) mx_X12_number ml_X12_170 (by decide) rfl (cells1 := 0) (slots1 := 0) (by decide) (by decide) (Nat.le_of_ble_eq_true rfl) (Nat.le_of_ble_eq_true rfl) rfl (Nat.le_of_ble_eq_true rfl) dX12_readLoss_221 (fun r_3014 L_3015 f_3016 h_3017 => ?_)
            obtain ⟨rfl, hW_3019, hF_3020, -, -, -, -, -, x_3018⟩ := h_3017
            have fe_3021 : fld (f_3000 a_0) 8 = (v_2896 : Int32).toInt := by rw [hf_3007]; rfl
            have fe_3022 : fld (f_3000 a_0) 10 = (v_2898 : Int32).toInt := by rw [hf_3007]; rfl
            have fe_3023 : fld (f_3000 a_0) 12 = (v_2900 : Int32).toInt := by rw [hf_3007]; rfl
            have hf_3024 := hF_3020.at hf_3001 rfl
            obtain ⟨v_3026, v_3027, v_3028, v_3029, v_3030, v_3031, v_3032, v_3033, v_3034, v_3035, v_3036, e_3025, -, -, -, -, -, -, -⟩ := hW_3019.at m_1 t_2
            have fe_3037 : fld (f_3016 a_0) 8 = (v_3029 : Int32).toInt := by rw [e_3025]; rfl
            have fe_3038 : fld (f_3016 a_0) 9 = (v_3030 : Int32).toInt := by rw [e_3025]; rfl
            have fe_3039 : fld (f_3016 a_0) 10 = (v_3031 : Int32).toInt := by rw [e_3025]; rfl
            have fe_3040 : fld (f_3016 a_0) 12 = (v_3033 : Int32).toInt := by rw [e_3025]; rfl
            rw [fe_3040, fe_3023, fe_3022, fe_3021, fe_3038, fe_3037, fe_3039] at x_3018
            clear fe_3021 fe_3022 fe_3023 fe_3037 fe_3038 fe_3039 fe_3040
            try simp only [Int32.reduceToInt, Int64.reduceToInt] at x_3018
            refine v_iast hC m_22 hf_3024 (vp_in_iff.mpr (by first | omega | (simp only [Int32.lt_iff_toInt_lt, Int32.le_iff_toInt_le, Int32.reduceToInt, ← Int32.toInt_inj, true_and, and_true, or_true, true_or, false_or, or_false, false_and, and_false, not_true_eq_false, not_false_eq_true] <;> omega))) dX12_readLoss_224 (fun f_3041 hf_3042 hk_3043 => ?_)
            have hW_3045 := hW_3019.up hf_3042 hk_3043 t_23 ⟨_, rfl, (ok_3005.up (by first | omega | (simp only [Int32.lt_iff_toInt_lt, Int32.le_iff_toInt_le, Int32.reduceToInt, ← Int32.toInt_inj, true_and, and_true, or_true, true_or, false_or, or_false, false_and, and_false, not_true_eq_false, not_false_eq_true] <;> omega)) (fun q1 q2 => (by first | omega | (simp only [Int32.lt_iff_toInt_lt, Int32.le_iff_toInt_le, Int32.reduceToInt, ← Int32.toInt_inj] at *; omega))) (fun k9 q1 q2 q3 => (by first | omega | (simp only [Int32.lt_iff_toInt_lt, Int32.le_iff_toInt_le, Int32.reduceToInt, ← Int32.toInt_inj] at *; omega))))⟩
            obtain ⟨g_3044, hf_3042, ok_3046, eg_3047⟩ : ∃ g9, f_3041 (q 14) = aI E 2076 g9 ∧ FOK g9 ∧ g9 = upd g_3003 (v_3011 : Int32).toNatClampNeg r_3014 := ⟨_, hf_3042, (ok_3005.up (by first | omega | (simp only [Int32.lt_iff_toInt_lt, Int32.le_iff_toInt_le, Int32.reduceToInt, ← Int32.toInt_inj, true_and, and_true, or_true, true_or, false_or, or_false, false_and, and_false, not_true_eq_false, not_false_eq_true] <;> omega)) (fun q1 q2 => (by first | omega | (simp only [Int32.lt_iff_toInt_lt, Int32.le_iff_toInt_le, Int32.reduceToInt, ← Int32.toInt_inj] at *; omega))) (fun k9 q1 q2 q3 => (by first | omega | (simp only [Int32.lt_iff_toInt_lt, Int32.le_iff_toInt_le, Int32.reduceToInt, ← Int32.toInt_inj] at *; omega)))), rfl⟩
            have hf_3048 := (hk_3043 a_0 (ne_kd e_3025 hf_3024 rfl)).trans e_3025
            have fr_3049 := FR.w hk_3043 hf_3024 (k := 2176) rfl
            have lk_3050 := lf_at (g0 := g_f) eg_3047 (by omega) (by omega)
            have ag_3051 := ag_3010.st eg_3047 (by omega) (by omega)
            try simp only [Int32.reduceToInt] at lk_3050
            refine v_aload_n hC dX12_readLoss_225 rfl ?_
            refine v_get hC fl_X12_34 m_1 hf_3048 rfl dX12_readLoss_226 ?_
            refine v_iload_n hC dX12_readLoss_229 rfl ?_
            refine v_iconst hC dX12_readLoss_230 (v := 2) (by decide) ?_
            obtain ⟨v_3052, h_3053⟩ : ∃ v9 : Int32, v_41 + 2 = v9 := ⟨_, rfl⟩
            refine v_iadd hC dX12_readLoss_231 h_3053 ?_
            have h_3054 := add_v h_3053 (by first | omega | (simp only [Int32.lt_iff_toInt_lt, Int32.le_iff_toInt_le, Int32.reduceToInt, ← Int32.toInt_inj, true_and, and_true, or_true, true_or, false_or, or_false, false_and, and_false, not_true_eq_false, not_false_eq_true] <;> omega)) (by first | omega | (simp only [Int32.lt_iff_toInt_lt, Int32.le_iff_toInt_le, Int32.reduceToInt, ← Int32.toInt_inj, true_and, and_true, or_true, true_or, false_or, or_false, false_and, and_false, not_true_eq_false, not_false_eq_true] <;> omega))
            try simp only [Int32.reduceToInt] at h_3054
            refine v_aload_n hC dX12_readLoss_232 rfl ?_
            refine v_ldcwS hC sr_X12_297 dX12_readLoss_233 ?_
            refine v_iconst hC dX12_readLoss_236 (v := 0) (by decide) ?_
            refine v_sipush hC dX12_readLoss_237 (v := 255) (by decide) ?_
            refine v_vi hC (rest := [.int v_3052, .ref (q 14)]) m_1 hf_3048 rfl mi_X12_told ms_X12_told (p_X12_told hW_3045 k_0 (by decide)) mx_X12_told ml_X12_189 (by decide) rfl (cells1 := 0) (slots1 := 0) (by decide) (by decide) (Nat.le_of_ble_eq_true rfl) (Nat.le_of_ble_eq_true rfl) rfl (Nat.le_of_ble_eq_true rfl) dX12_readLoss_240 (fun r_3055 L_3056 f_3057 h_3058 => ?_)
            obtain ⟨rfl, hW_3060, hF_3061, -, -, -, -, -, x_3059⟩ := h_3058
            have fe_3062 : fld (f_3041 a_0) 8 = (v_3029 : Int32).toInt := by rw [hf_3048]; rfl
            have fe_3063 : fld (f_3041 a_0) 12 = (v_3033 : Int32).toInt := by rw [hf_3048]; rfl
            have hf_3064 := hF_3061.at hf_3042 rfl
            obtain ⟨v_3066, v_3067, v_3068, v_3069, v_3070, v_3071, v_3072, v_3073, v_3074, v_3075, v_3076, e_3065, -, -, -, -, -, -, -⟩ := hW_3060.at m_1 t_2
            have fe_3077 : fld (f_3057 a_0) 8 = (v_3069 : Int32).toInt := by rw [e_3065]; rfl
            have fe_3078 : fld (f_3057 a_0) 9 = (v_3070 : Int32).toInt := by rw [e_3065]; rfl
            have fe_3079 : fld (f_3057 a_0) 10 = (v_3071 : Int32).toInt := by rw [e_3065]; rfl
            have fe_3080 : fld (f_3057 a_0) 12 = (v_3073 : Int32).toInt := by rw [e_3065]; rfl
            rw [fe_3080, fe_3063, fe_3062, fe_3078, fe_3077, fe_3079] at x_3059
            clear fe_3062 fe_3063 fe_3077 fe_3078 fe_3079 fe_3080
            try simp only [Int32.reduceToInt, Int64.reduceToInt] at x_3059
            refine v_iast hC m_22 hf_3064 (vp_in_iff.mpr (by first | omega | (simp only [Int32.lt_iff_toInt_lt, Int32.le_iff_toInt_le, Int32.reduceToInt, ← Int32.toInt_inj, true_and, and_true, or_true, true_or, false_or, or_false, false_and, and_false, not_true_eq_false, not_false_eq_true] <;> omega))) dX12_readLoss_243 (fun f_3081 hf_3082 hk_3083 => ?_)
            have hW_3085 := hW_3060.up hf_3082 hk_3083 t_23 ⟨_, rfl, (ok_3046.up (by first | omega | (simp only [Int32.lt_iff_toInt_lt, Int32.le_iff_toInt_le, Int32.reduceToInt, ← Int32.toInt_inj, true_and, and_true, or_true, true_or, false_or, or_false, false_and, and_false, not_true_eq_false, not_false_eq_true] <;> omega)) (fun q1 q2 => (by first | omega | (simp only [Int32.lt_iff_toInt_lt, Int32.le_iff_toInt_le, Int32.reduceToInt, ← Int32.toInt_inj] at *; omega))) (fun k9 q1 q2 q3 => (by first | omega | (simp only [Int32.lt_iff_toInt_lt, Int32.le_iff_toInt_le, Int32.reduceToInt, ← Int32.toInt_inj] at *; omega))))⟩
            obtain ⟨g_3084, hf_3082, ok_3086, eg_3087⟩ : ∃ g9, f_3081 (q 14) = aI E 2076 g9 ∧ FOK g9 ∧ g9 = upd g_3044 (v_3052 : Int32).toNatClampNeg r_3055 := ⟨_, hf_3082, (ok_3046.up (by first | omega | (simp only [Int32.lt_iff_toInt_lt, Int32.le_iff_toInt_le, Int32.reduceToInt, ← Int32.toInt_inj, true_and, and_true, or_true, true_or, false_or, or_false, false_and, and_false, not_true_eq_false, not_false_eq_true] <;> omega)) (fun q1 q2 => (by first | omega | (simp only [Int32.lt_iff_toInt_lt, Int32.le_iff_toInt_le, Int32.reduceToInt, ← Int32.toInt_inj] at *; omega))) (fun k9 q1 q2 q3 => (by first | omega | (simp only [Int32.lt_iff_toInt_lt, Int32.le_iff_toInt_le, Int32.reduceToInt, ← Int32.toInt_inj] at *; omega)))), rfl⟩
            have hf_3088 := (hk_3083 a_0 (ne_kd e_3065 hf_3064 rfl)).trans e_3065
            have fr_3089 := FR.w hk_3083 hf_3064 (k := 2176) rfl
            have lk_3090 := l2_at (g0 := g_f) eg_3087 (by omega) (by omega)
            have ag_3091 := ag_3051.st eg_3087 (by omega) (by omega)
            try simp only [Int32.reduceToInt] at lk_3090
            refine v_goto hC dX12_readLoss_244 (tgt := 258) (by decide) ?_
            refine v_aload_n hC dX12_readLoss_258 rfl ?_
            refine v_vv hC (rest := []) m_1 hf_3088 rfl mi_X12_ends ms_X12_ends (p_X12_ends hW_3085 k_0) mx_X12_ends ml_X12_178 (by decide) rfl (cells1 := 0) (slots1 := 0) (by decide) (by decide) (Nat.le_of_ble_eq_true rfl) (Nat.le_of_ble_eq_true rfl) rfl (Nat.le_of_ble_eq_true rfl) dX12_readLoss_259 (fun L_3093 f_3094 h_3095 => ?_)
            obtain ⟨rfl, hW_3097, hF_3098, -, -, -, -, x_3096⟩ := h_3095
            have fe_3099 : fld (f_3081 a_0) 8 = (v_3069 : Int32).toInt := by rw [hf_3088]; rfl
            have fe_3100 : fld (f_3081 a_0) 10 = (v_3071 : Int32).toInt := by rw [hf_3088]; rfl
            have fe_3101 : fld (f_3081 a_0) 12 = (v_3073 : Int32).toInt := by rw [hf_3088]; rfl
            have hf_3102 := hF_3098.at hf_3082 rfl
            obtain ⟨v_3104, v_3105, v_3106, v_3107, v_3108, v_3109, v_3110, v_3111, v_3112, v_3113, v_3114, e_3103, -, -, -, -, -, -, -⟩ := hW_3097.at m_1 t_2
            have fe_3115 : fld (f_3094 a_0) 8 = (v_3107 : Int32).toInt := by rw [e_3103]; rfl
            have fe_3116 : fld (f_3094 a_0) 9 = (v_3108 : Int32).toInt := by rw [e_3103]; rfl
            have fe_3117 : fld (f_3094 a_0) 10 = (v_3109 : Int32).toInt := by rw [e_3103]; rfl
            have fe_3118 : fld (f_3094 a_0) 12 = (v_3111 : Int32).toInt := by rw [e_3103]; rfl
            rw [fe_3118, fe_3101, fe_3100, fe_3099, fe_3116, fe_3115, fe_3117] at x_3096
            clear fe_3099 fe_3100 fe_3101 fe_3115 fe_3116 fe_3117 fe_3118
            refine v_aload_n hC dX12_readLoss_262 rfl ?_
            refine v_get hC fl_X12_34 m_1 e_3103 rfl dX12_readLoss_263 ?_
            refine v_bipush hC dX12_readLoss_266 (v := 6) (by decide) ?_
            refine v_dup2 hC dX12_readLoss_268 rfl rfl ?_
            have l6_3119 : (g_3084 6).toInt = (g_f 6).toInt := congrArg Int32.toInt ag_3091.2.1
            refine v_iald hC m_22 hf_3102 (vp_in_iff.mpr (by decide)) (v := g_3084 6) rfl dX12_readLoss_269 ?_
            refine v_iconst hC dX12_readLoss_270 (v := 1) (by decide) ?_
            obtain ⟨v_3120, h_3121⟩ : ∃ v9 : Int32, (g_3084 6) + 1 = v9 := ⟨_, rfl⟩
            refine v_iadd hC dX12_readLoss_271 h_3121 ?_
            have h_3122 := add_v h_3121 (by first | omega | (simp only [Int32.lt_iff_toInt_lt, Int32.le_iff_toInt_le, Int32.reduceToInt, ← Int32.toInt_inj, true_and, and_true, or_true, true_or, false_or, or_false, false_and, and_false, not_true_eq_false, not_false_eq_true] <;> omega)) (by first | omega | (simp only [Int32.lt_iff_toInt_lt, Int32.le_iff_toInt_le, Int32.reduceToInt, ← Int32.toInt_inj, true_and, and_true, or_true, true_or, false_or, or_false, false_and, and_false, not_true_eq_false, not_false_eq_true] <;> omega))
            try simp only [Int32.reduceToInt] at h_3122
            refine v_iast hC m_22 hf_3102 (vp_in_iff.mpr (by decide)) dX12_readLoss_272 (fun f_3123 hf_3124 hk_3125 => ?_)
            have hW_3127 := hW_3097.up hf_3124 hk_3125 t_23 ⟨_, rfl, (ok_3086.up (i := 6) (by decide) (fun q1 q2 => absurd (And.intro q1 q2) (by decide)) (fun k9 q1 q2 q3 => by simp only [Int32.reduceToInt] at q3; omega))⟩
            obtain ⟨g_3126, hf_3124, ok_3128, eg_3129⟩ : ∃ g9, f_3123 (q 14) = aI E 2076 g9 ∧ FOK g9 ∧ g9 = upd g_3084 (6 : Int32).toNatClampNeg v_3120 := ⟨_, hf_3124, (ok_3086.up (i := 6) (by decide) (fun q1 q2 => absurd (And.intro q1 q2) (by decide)) (fun k9 q1 q2 q3 => by simp only [Int32.reduceToInt] at q3; omega)), rfl⟩
            have hf_3130 := (hk_3125 a_0 (ne_kd e_3103 hf_3102 rfl)).trans e_3103
            have fr_3131 := FR.w hk_3125 hf_3102 (k := 2176) rfl
            have ln6_3132 := FOK.n6 ag_3091.1 eg_3129
            have ln6_3132_t : (g_3126 6).toInt = v_3120.toInt := congrArg Int32.toInt ln6_3132.2
            have fe_3133 : fld (f_3123 a_0) 12 = (v_3111 : Int32).toInt := by rw [hf_3130]; rfl
            have fe_3139 : fld (f_3123 a_0) 8 = (v_3107 : Int32).toInt := by rw [hf_3130]; rfl
            have fe_3140 : fld (f_3123 a_0) 12 = (v_3111 : Int32).toInt := by rw [hf_3130]; rfl
            exact hR _ _ _ _ _ _ dX12_readLoss_273 (Nat.le_of_ble_eq_true rfl) (Nat.le_of_ble_eq_true rfl) ⟨rfl, hW_3127, ((((((((((hF_2817.tr hF_2855).tr hF_2886).tr fr_3008).tr hF_3020).tr fr_3049).tr hF_3061).tr fr_3089).tr hF_3098).tr fr_3131).mono rfl), ⟨_, hf_3124, ln6_3132.1, (by omega), (by rw [fe_3133]; by_cases q9 : v_3111.toInt = 0; have gp_3134 := x_3096.resolve_left (fun h9 => h9 q9); clear x_3096; have gp_3135 := x_3059.resolve_left (fun h9 => h9 gp_3134.1); clear x_3059; have gp_3136 := x_3018.resolve_left (fun h9 => h9 gp_3135.1); clear x_3018; have gz_3137 := x_2884.symm.trans gp_3136.1; have gz_3138 := x_2853.symm.trans gz_3137; exact .inr (LO.fin hLO ag_3091 eg_3129 (by omega) (by omega) (fun q8 => by omega)); exact .inl q9)⟩, (by simp only [fe_3139, fe_3140, mz_36, mz_37]; by_cases q9 : (v_3111 : Int32).toInt = 0; have gp_3141 := x_3096.resolve_left (fun h9 => h9 q9); clear x_3096; have gp_3142 := x_3059.resolve_left (fun h9 => h9 gp_3141.1); clear x_3059; have gp_3143 := x_3018.resolve_left (fun h9 => h9 gp_3142.1); clear x_3018; have gz_3144 := x_2884.symm.trans gp_3143.1; have gz_3145 := x_2853.symm.trans gz_3144; (right; omega); exact .inl q9)⟩
        · simp only [Int32.lt_iff_toInt_lt, Int32.le_iff_toInt_le, Int32.reduceToInt, ← Int32.toInt_inj] at h_2877
          refine v_aload_n hC dX12_readLoss_98 rfl ?_
          refine v_ldcwS hC sr_X12_293 dX12_readLoss_99 ?_
          refine v_vi hC (rest := []) m_1 e_2861 rfl mi_X12_is ms_X12_is (p_X12_is hW_2854 k_0 (by decide)) mx_X12_is ml_X12_152 (by decide) rfl (cells1 := 0) (slots1 := 0) (by decide) (by decide) (Nat.le_of_ble_eq_true rfl) (Nat.le_of_ble_eq_true rfl) rfl (Nat.le_of_ble_eq_true rfl) dX12_readLoss_102 (fun r_3146 L_3147 f_3148 h_3149 => ?_)
          obtain ⟨rfl, rfl, rfl⟩ := h_3149
          refine v_istore_n hC dX12_readLoss_105 (by decide) (lv' := [(3, .int (iw (f_2849 a_0) (f_2849 (q 4)) 74)), (2, .int v_66), (1, .int v_41), (0, .ref a_0)]) rfl ?_
          refine v_iload_n hC dX12_readLoss_106 rfl ?_
          refine v_if_ne hC dX12_readLoss_107 (tgt := 124) (by decide) (fun h_3152 => ?_) (fun h_3152 => ?_)
          · simp only [Int32.lt_iff_toInt_lt, Int32.le_iff_toInt_le, Int32.reduceToInt, ← Int32.toInt_inj] at h_3152
            refine v_aload_n hC dX12_readLoss_124 rfl ?_
            refine v_vi hC (rest := []) m_1 e_2861 rfl mi_X12_good ms_X12_good (p_X12_good hW_2854 k_0) mx_X12_good ml_X12_139 (by decide) rfl (cells1 := 0) (slots1 := 0) (by decide) (by decide) (Nat.le_of_ble_eq_true rfl) (Nat.le_of_ble_eq_true rfl) rfl (Nat.le_of_ble_eq_true rfl) dX12_readLoss_125 (fun r_3153 L_3154 f_3155 h_3156 => ?_)
            obtain ⟨rfl, rfl, b_3157, x_3158⟩ := h_3156
            have fe_3161 : fld (f_2849 a_0) 12 = (v_2869 : Int32).toInt := by rw [e_2861]; rfl
            rw [fe_3161] at x_3158
            clear fe_3161
            try simp only [Int32.reduceToInt, Int64.reduceToInt] at x_3158
            refine v_if_eq hC dX12_readLoss_128 (tgt := 135) (by decide) (fun h_3162 => ?_) (fun h_3162 => ?_)
            · simp only [Int32.lt_iff_toInt_lt, Int32.le_iff_toInt_le, Int32.reduceToInt, ← Int32.toInt_inj] at h_3162
              have g0_3163 := gd_f x_3158 h_3162
              clear x_3158
              clear x_2853
              refine v_aload_n hC dX12_readLoss_135 rfl ?_
              refine v_get hC fl_X12_34 m_1 e_2861 rfl dX12_readLoss_136 ?_
              refine v_iload_n hC dX12_readLoss_139 rfl ?_
              refine v_iload_n hC dX12_readLoss_140 rfl ?_
              refine v_if_eq_f hC dX12_readLoss_141 (tgt := 148) (by decide) (by first | omega | (simp only [Int32.lt_iff_toInt_lt, Int32.le_iff_toInt_le, Int32.reduceToInt, ← Int32.toInt_inj, true_and, and_true, or_true, true_or, false_or, or_false, false_and, and_false, not_true_eq_false, not_false_eq_true] <;> omega)) ?_
              refine v_iconst hC dX12_readLoss_144 (v := 1) (by decide) ?_
              refine v_goto hC dX12_readLoss_145 (tgt := 149) (by decide) ?_
              refine v_iast hC m_22 hf_2860 (vp_in_iff.mpr (by first | omega | (simp only [Int32.lt_iff_toInt_lt, Int32.le_iff_toInt_le, Int32.reduceToInt, ← Int32.toInt_inj, true_and, and_true, or_true, true_or, false_or, or_false, false_and, and_false, not_true_eq_false, not_false_eq_true] <;> omega))) dX12_readLoss_149 (fun f_3167 hf_3168 hk_3169 => ?_)
              have hW_3171 := hW_2854.up hf_3168 hk_3169 t_23 ⟨_, rfl, (o_f.up (by first | omega | (simp only [Int32.lt_iff_toInt_lt, Int32.le_iff_toInt_le, Int32.reduceToInt, ← Int32.toInt_inj, true_and, and_true, or_true, true_or, false_or, or_false, false_and, and_false, not_true_eq_false, not_false_eq_true] <;> omega)) (fun q1 q2 => (by first | omega | (simp only [Int32.lt_iff_toInt_lt, Int32.le_iff_toInt_le, Int32.reduceToInt, ← Int32.toInt_inj] at *; omega))) (fun k9 q1 q2 q3 => (by first | omega | (simp only [Int32.lt_iff_toInt_lt, Int32.le_iff_toInt_le, Int32.reduceToInt, ← Int32.toInt_inj] at *; omega))))⟩
              obtain ⟨g_3170, hf_3168, ok_3172, eg_3173⟩ : ∃ g9, f_3167 (q 14) = aI E 2076 g9 ∧ FOK g9 ∧ g9 = upd g_f (v_41 : Int32).toNatClampNeg 1 := ⟨_, hf_3168, (o_f.up (by first | omega | (simp only [Int32.lt_iff_toInt_lt, Int32.le_iff_toInt_le, Int32.reduceToInt, ← Int32.toInt_inj, true_and, and_true, or_true, true_or, false_or, or_false, false_and, and_false, not_true_eq_false, not_false_eq_true] <;> omega)) (fun q1 q2 => (by first | omega | (simp only [Int32.lt_iff_toInt_lt, Int32.le_iff_toInt_le, Int32.reduceToInt, ← Int32.toInt_inj] at *; omega))) (fun k9 q1 q2 q3 => (by first | omega | (simp only [Int32.lt_iff_toInt_lt, Int32.le_iff_toInt_le, Int32.reduceToInt, ← Int32.toInt_inj] at *; omega)))), rfl⟩
              have hf_3174 := (hk_3169 a_0 (ne_kd e_2861 hf_2860 rfl)).trans e_2861
              have fr_3175 := FR.w hk_3169 hf_2860 (k := 2176) rfl
              have lk_3176 := lk_at (g0 := g_f) eg_3173 (by omega) (by omega)
              have ag_3177 := (AG.rf o_f).st eg_3173 (by omega) (by omega)
              try simp only [Int32.reduceToInt] at lk_3176
              refine v_aload_n hC dX12_readLoss_150 rfl ?_
              refine v_get hC fl_X12_34 m_1 hf_3174 rfl dX12_readLoss_151 ?_
              refine v_iload_n hC dX12_readLoss_154 rfl ?_
              refine v_iconst hC dX12_readLoss_155 (v := 1) (by decide) ?_
              obtain ⟨v_3178, h_3179⟩ : ∃ v9 : Int32, v_41 + 1 = v9 := ⟨_, rfl⟩
              refine v_iadd hC dX12_readLoss_156 h_3179 ?_
              have h_3180 := add_v h_3179 (by first | omega | (simp only [Int32.lt_iff_toInt_lt, Int32.le_iff_toInt_le, Int32.reduceToInt, ← Int32.toInt_inj, true_and, and_true, or_true, true_or, false_or, or_false, false_and, and_false, not_true_eq_false, not_false_eq_true] <;> omega)) (by first | omega | (simp only [Int32.lt_iff_toInt_lt, Int32.le_iff_toInt_le, Int32.reduceToInt, ← Int32.toInt_inj, true_and, and_true, or_true, true_or, false_or, or_false, false_and, and_false, not_true_eq_false, not_false_eq_true] <;> omega))
              try simp only [Int32.reduceToInt] at h_3180
              refine v_aload_n hC dX12_readLoss_157 rfl ?_
              refine v_iconst hC dX12_readLoss_158 (v := 0) (by decide) ?_
              refine v_bipush hC dX12_readLoss_159 (v := 15) (by decide) ?_
              refine v_vi hC (rest := [.int v_3178, .ref (q 14)]) m_1 hf_3174 rfl mi_X12_number ms_X12_number (p_X12_number hW_3171 k_0) mx_X12_number ml_X12_170 (by decide) rfl (cells1 := 0) (slots1 := 0) (by decide) (by decide) (Nat.le_of_ble_eq_true rfl) (Nat.le_of_ble_eq_true rfl) rfl (Nat.le_of_ble_eq_true rfl) dX12_readLoss_161 (fun r_3181 L_3182 f_3183 h_3184 => ?_)
              obtain ⟨rfl, hW_3186, hF_3187, -, -, -, -, -, x_3185⟩ := h_3184
              have fe_3188 : fld (f_3167 a_0) 8 = (v_2865 : Int32).toInt := by rw [hf_3174]; rfl
              have fe_3189 : fld (f_3167 a_0) 10 = (v_2867 : Int32).toInt := by rw [hf_3174]; rfl
              have fe_3190 : fld (f_3167 a_0) 12 = (v_2869 : Int32).toInt := by rw [hf_3174]; rfl
              have hf_3191 := hF_3187.at hf_3168 rfl
              obtain ⟨v_3193, v_3194, v_3195, v_3196, v_3197, v_3198, v_3199, v_3200, v_3201, v_3202, v_3203, e_3192, -, -, -, -, -, -, -⟩ := hW_3186.at m_1 t_2
              have fe_3204 : fld (f_3183 a_0) 8 = (v_3196 : Int32).toInt := by rw [e_3192]; rfl
              have fe_3205 : fld (f_3183 a_0) 9 = (v_3197 : Int32).toInt := by rw [e_3192]; rfl
              have fe_3206 : fld (f_3183 a_0) 10 = (v_3198 : Int32).toInt := by rw [e_3192]; rfl
              have fe_3207 : fld (f_3183 a_0) 12 = (v_3200 : Int32).toInt := by rw [e_3192]; rfl
              rw [fe_3207, fe_3190, fe_3189, fe_3188, fe_3205, fe_3204, fe_3206] at x_3185
              have nb_3208 : ¬ (v_3200 : Int32).toInt = 0 := x_3185.elim id (fun h9 => absurd h9.1 g0_3163)
              clear x_3185
              clear fe_3188 fe_3189 fe_3190 fe_3204 fe_3205 fe_3206 fe_3207
              try simp only [Int32.reduceToInt, Int64.reduceToInt] at x_3185
              refine v_iast hC m_22 hf_3191 (vp_in_iff.mpr (by first | omega | (simp only [Int32.lt_iff_toInt_lt, Int32.le_iff_toInt_le, Int32.reduceToInt, ← Int32.toInt_inj, true_and, and_true, or_true, true_or, false_or, or_false, false_and, and_false, not_true_eq_false, not_false_eq_true] <;> omega))) dX12_readLoss_164 (fun f_3209 hf_3210 hk_3211 => ?_)
              have hW_3213 := hW_3186.up hf_3210 hk_3211 t_23 ⟨_, rfl, (ok_3172.up (by first | omega | (simp only [Int32.lt_iff_toInt_lt, Int32.le_iff_toInt_le, Int32.reduceToInt, ← Int32.toInt_inj, true_and, and_true, or_true, true_or, false_or, or_false, false_and, and_false, not_true_eq_false, not_false_eq_true] <;> omega)) (fun q1 q2 => (by first | omega | (simp only [Int32.lt_iff_toInt_lt, Int32.le_iff_toInt_le, Int32.reduceToInt, ← Int32.toInt_inj] at *; omega))) (fun k9 q1 q2 q3 => (by first | omega | (simp only [Int32.lt_iff_toInt_lt, Int32.le_iff_toInt_le, Int32.reduceToInt, ← Int32.toInt_inj] at *; omega))))⟩
              obtain ⟨g_3212, hf_3210, ok_3214, eg_3215⟩ : ∃ g9, f_3209 (q 14) = aI E 2076 g9 ∧ FOK g9 ∧ g9 = upd g_3170 (v_3178 : Int32).toNatClampNeg r_3181 := ⟨_, hf_3210, (ok_3172.up (by first | omega | (simp only [Int32.lt_iff_toInt_lt, Int32.le_iff_toInt_le, Int32.reduceToInt, ← Int32.toInt_inj, true_and, and_true, or_true, true_or, false_or, or_false, false_and, and_false, not_true_eq_false, not_false_eq_true] <;> omega)) (fun q1 q2 => (by first | omega | (simp only [Int32.lt_iff_toInt_lt, Int32.le_iff_toInt_le, Int32.reduceToInt, ← Int32.toInt_inj] at *; omega))) (fun k9 q1 q2 q3 => (by first | omega | (simp only [Int32.lt_iff_toInt_lt, Int32.le_iff_toInt_le, Int32.reduceToInt, ← Int32.toInt_inj] at *; omega)))), rfl⟩
              have hf_3216 := (hk_3211 a_0 (ne_kd e_3192 hf_3191 rfl)).trans e_3192
              have fr_3217 := FR.w hk_3211 hf_3191 (k := 2176) rfl
              have lk_3218 := lf_at (g0 := g_f) eg_3215 (by omega) (by omega)
              have ag_3219 := ag_3177.st eg_3215 (by omega) (by omega)
              try simp only [Int32.reduceToInt] at lk_3218
              refine v_aload_n hC dX12_readLoss_165 rfl ?_
              refine v_get hC fl_X12_34 m_1 hf_3216 rfl dX12_readLoss_166 ?_
              refine v_iload_n hC dX12_readLoss_169 rfl ?_
              refine v_iconst hC dX12_readLoss_170 (v := 2) (by decide) ?_
              obtain ⟨v_3220, h_3221⟩ : ∃ v9 : Int32, v_41 + 2 = v9 := ⟨_, rfl⟩
              refine v_iadd hC dX12_readLoss_171 h_3221 ?_
              have h_3222 := add_v h_3221 (by first | omega | (simp only [Int32.lt_iff_toInt_lt, Int32.le_iff_toInt_le, Int32.reduceToInt, ← Int32.toInt_inj, true_and, and_true, or_true, true_or, false_or, or_false, false_and, and_false, not_true_eq_false, not_false_eq_true] <;> omega)) (by first | omega | (simp only [Int32.lt_iff_toInt_lt, Int32.le_iff_toInt_le, Int32.reduceToInt, ← Int32.toInt_inj, true_and, and_true, or_true, true_or, false_or, or_false, false_and, and_false, not_true_eq_false, not_false_eq_true] <;> omega))
              try simp only [Int32.reduceToInt] at h_3222
              refine v_aload_n hC dX12_readLoss_172 rfl ?_
              refine v_ldcwS hC sr_X12_295 dX12_readLoss_173 ?_
              refine v_aload_n hC dX12_readLoss_176 rfl ?_
              refine v_get hC fl_X12_34 m_1 hf_3216 rfl dX12_readLoss_177 ?_
              refine v_iload_n hC dX12_readLoss_180 rfl ?_
              refine v_iconst hC dX12_readLoss_181 (v := 1) (by decide) ?_
              obtain ⟨v_3223, h_3224⟩ : ∃ v9 : Int32, v_41 + 1 = v9 := ⟨_, rfl⟩
              refine v_iadd hC dX12_readLoss_182 h_3224 ?_
              have h_3225 := add_v h_3224 (by first | omega | (simp only [Int32.lt_iff_toInt_lt, Int32.le_iff_toInt_le, Int32.reduceToInt, ← Int32.toInt_inj, true_and, and_true, or_true, true_or, false_or, or_false, false_and, and_false, not_true_eq_false, not_false_eq_true] <;> omega)) (by first | omega | (simp only [Int32.lt_iff_toInt_lt, Int32.le_iff_toInt_le, Int32.reduceToInt, ← Int32.toInt_inj, true_and, and_true, or_true, true_or, false_or, or_false, false_and, and_false, not_true_eq_false, not_false_eq_true] <;> omega))
              try simp only [Int32.reduceToInt] at h_3225
              obtain ⟨v_3226, h_3227⟩ : ∃ v9 : Int32, g_3212 (v_3223 : Int32).toNatClampNeg = v9 := ⟨_, rfl⟩
              refine v_iald hC m_22 hf_3210 (vp_in_iff.mpr (by first | omega | (simp only [Int32.lt_iff_toInt_lt, Int32.le_iff_toInt_le, Int32.reduceToInt, ← Int32.toInt_inj, true_and, and_true, or_true, true_or, false_or, or_false, false_and, and_false, not_true_eq_false, not_false_eq_true] <;> omega))) h_3227 dX12_readLoss_183 ?_
              refine v_bipush hC dX12_readLoss_184 (v := 15) (by decide) ?_
              refine v_vi hC (rest := [.int v_3220, .ref (q 14)]) m_1 hf_3216 rfl mi_X12_told ms_X12_told (p_X12_told hW_3213 k_0 (by decide)) mx_X12_told ml_X12_189 (by decide) rfl (cells1 := 0) (slots1 := 0) (by decide) (by decide) (Nat.le_of_ble_eq_true rfl) (Nat.le_of_ble_eq_true rfl) rfl (Nat.le_of_ble_eq_true rfl) dX12_readLoss_186 (fun r_3228 L_3229 f_3230 h_3231 => ?_)
              obtain ⟨rfl, hW_3233, hF_3234, -, -, -, -, -, x_3232⟩ := h_3231
              have fe_3235 : fld (f_3209 a_0) 8 = (v_3196 : Int32).toInt := by rw [hf_3216]; rfl
              have fe_3236 : fld (f_3209 a_0) 12 = (v_3200 : Int32).toInt := by rw [hf_3216]; rfl
              have hf_3237 := hF_3234.at hf_3210 rfl
              obtain ⟨v_3239, v_3240, v_3241, v_3242, v_3243, v_3244, v_3245, v_3246, v_3247, v_3248, v_3249, e_3238, -, -, -, -, -, -, -⟩ := hW_3233.at m_1 t_2
              have fe_3250 : fld (f_3230 a_0) 8 = (v_3242 : Int32).toInt := by rw [e_3238]; rfl
              have fe_3251 : fld (f_3230 a_0) 9 = (v_3243 : Int32).toInt := by rw [e_3238]; rfl
              have fe_3252 : fld (f_3230 a_0) 10 = (v_3244 : Int32).toInt := by rw [e_3238]; rfl
              have fe_3253 : fld (f_3230 a_0) 12 = (v_3246 : Int32).toInt := by rw [e_3238]; rfl
              rw [fe_3253, fe_3236, fe_3235, fe_3251, fe_3250, fe_3252] at x_3232
              have nb_3254 : ¬ (v_3246 : Int32).toInt = 0 := x_3232.elim id (fun h9 => absurd h9.1 nb_3208)
              clear x_3232
              clear fe_3235 fe_3236 fe_3250 fe_3251 fe_3252 fe_3253
              try simp only [Int32.reduceToInt, Int64.reduceToInt] at x_3232
              refine v_iast hC m_22 hf_3237 (vp_in_iff.mpr (by first | omega | (simp only [Int32.lt_iff_toInt_lt, Int32.le_iff_toInt_le, Int32.reduceToInt, ← Int32.toInt_inj, true_and, and_true, or_true, true_or, false_or, or_false, false_and, and_false, not_true_eq_false, not_false_eq_true] <;> omega))) dX12_readLoss_189 (fun f_3255 hf_3256 hk_3257 => ?_)
              have hW_3259 := hW_3233.up hf_3256 hk_3257 t_23 ⟨_, rfl, (ok_3214.up (by first | omega | (simp only [Int32.lt_iff_toInt_lt, Int32.le_iff_toInt_le, Int32.reduceToInt, ← Int32.toInt_inj, true_and, and_true, or_true, true_or, false_or, or_false, false_and, and_false, not_true_eq_false, not_false_eq_true] <;> omega)) (fun q1 q2 => (by first | omega | (simp only [Int32.lt_iff_toInt_lt, Int32.le_iff_toInt_le, Int32.reduceToInt, ← Int32.toInt_inj] at *; omega))) (fun k9 q1 q2 q3 => (by first | omega | (simp only [Int32.lt_iff_toInt_lt, Int32.le_iff_toInt_le, Int32.reduceToInt, ← Int32.toInt_inj] at *; omega))))⟩
              obtain ⟨g_3258, hf_3256, ok_3260, eg_3261⟩ : ∃ g9, f_3255 (q 14) = aI E 2076 g9 ∧ FOK g9 ∧ g9 = upd g_3212 (v_3220 : Int32).toNatClampNeg r_3228 := ⟨_, hf_3256, (ok_3214.up (by first | omega | (simp only [Int32.lt_iff_toInt_lt, Int32.le_iff_toInt_le, Int32.reduceToInt, ← Int32.toInt_inj, true_and, and_true, or_true, true_or, false_or, or_false, false_and, and_false, not_true_eq_false, not_false_eq_true] <;> omega)) (fun q1 q2 => (by first | omega | (simp only [Int32.lt_iff_toInt_lt, Int32.le_iff_toInt_le, Int32.reduceToInt, ← Int32.toInt_inj] at *; omega))) (fun k9 q1 q2 q3 => (by first | omega | (simp only [Int32.lt_iff_toInt_lt, Int32.le_iff_toInt_le, Int32.reduceToInt, ← Int32.toInt_inj] at *; omega)))), rfl⟩
              have hf_3262 := (hk_3257 a_0 (ne_kd e_3238 hf_3237 rfl)).trans e_3238
              have fr_3263 := FR.w hk_3257 hf_3237 (k := 2176) rfl
              have lk_3264 := l2_at (g0 := g_f) eg_3261 (by omega) (by omega)
              have ag_3265 := ag_3219.st eg_3261 (by omega) (by omega)
              try simp only [Int32.reduceToInt] at lk_3264
              refine v_goto hC dX12_readLoss_190 (tgt := 258) (by decide) ?_
              refine v_aload_n hC dX12_readLoss_258 rfl ?_
              refine v_vv hC (rest := []) m_1 hf_3262 rfl mi_X12_ends ms_X12_ends (p_X12_ends hW_3259 k_0) mx_X12_ends ml_X12_178 (by decide) rfl (cells1 := 0) (slots1 := 0) (by decide) (by decide) (Nat.le_of_ble_eq_true rfl) (Nat.le_of_ble_eq_true rfl) rfl (Nat.le_of_ble_eq_true rfl) dX12_readLoss_259 (fun L_3267 f_3268 h_3269 => ?_)
              obtain ⟨rfl, hW_3271, hF_3272, -, -, -, -, x_3270⟩ := h_3269
              have fe_3273 : fld (f_3255 a_0) 8 = (v_3242 : Int32).toInt := by rw [hf_3262]; rfl
              have fe_3274 : fld (f_3255 a_0) 10 = (v_3244 : Int32).toInt := by rw [hf_3262]; rfl
              have fe_3275 : fld (f_3255 a_0) 12 = (v_3246 : Int32).toInt := by rw [hf_3262]; rfl
              have hf_3276 := hF_3272.at hf_3256 rfl
              obtain ⟨v_3278, v_3279, v_3280, v_3281, v_3282, v_3283, v_3284, v_3285, v_3286, v_3287, v_3288, e_3277, -, -, -, -, -, -, -⟩ := hW_3271.at m_1 t_2
              have fe_3289 : fld (f_3268 a_0) 8 = (v_3281 : Int32).toInt := by rw [e_3277]; rfl
              have fe_3290 : fld (f_3268 a_0) 9 = (v_3282 : Int32).toInt := by rw [e_3277]; rfl
              have fe_3291 : fld (f_3268 a_0) 10 = (v_3283 : Int32).toInt := by rw [e_3277]; rfl
              have fe_3292 : fld (f_3268 a_0) 12 = (v_3285 : Int32).toInt := by rw [e_3277]; rfl
              rw [fe_3292, fe_3275, fe_3274, fe_3273, fe_3290, fe_3289, fe_3291] at x_3270
              have nb_3293 : ¬ (v_3285 : Int32).toInt = 0 := x_3270.elim id (fun h9 => absurd h9.1 nb_3254)
              clear x_3270
              clear fe_3273 fe_3274 fe_3275 fe_3289 fe_3290 fe_3291 fe_3292
              refine v_aload_n hC dX12_readLoss_262 rfl ?_
              refine v_get hC fl_X12_34 m_1 e_3277 rfl dX12_readLoss_263 ?_
              refine v_bipush hC dX12_readLoss_266 (v := 6) (by decide) ?_
              refine v_dup2 hC dX12_readLoss_268 rfl rfl ?_
              have l6_3294 : (g_3258 6).toInt = (g_f 6).toInt := congrArg Int32.toInt ag_3265.2.1
              refine v_iald hC m_22 hf_3276 (vp_in_iff.mpr (by decide)) (v := g_3258 6) rfl dX12_readLoss_269 ?_
              refine v_iconst hC dX12_readLoss_270 (v := 1) (by decide) ?_
              obtain ⟨v_3295, h_3296⟩ : ∃ v9 : Int32, (g_3258 6) + 1 = v9 := ⟨_, rfl⟩
              refine v_iadd hC dX12_readLoss_271 h_3296 ?_
              have h_3297 := add_v h_3296 (by first | omega | (simp only [Int32.lt_iff_toInt_lt, Int32.le_iff_toInt_le, Int32.reduceToInt, ← Int32.toInt_inj, true_and, and_true, or_true, true_or, false_or, or_false, false_and, and_false, not_true_eq_false, not_false_eq_true] <;> omega)) (by first | omega | (simp only [Int32.lt_iff_toInt_lt, Int32.le_iff_toInt_le, Int32.reduceToInt, ← Int32.toInt_inj, true_and, and_true, or_true, true_or, false_or, or_false, false_and, and_false, not_true_eq_false, not_false_eq_true] <;> omega))
              try simp only [Int32.reduceToInt] at h_3297
              refine v_iast hC m_22 hf_3276 (vp_in_iff.mpr (by decide)) dX12_readLoss_272 (fun f_3298 hf_3299 hk_3300 => ?_)
              have hW_3302 := hW_3271.up hf_3299 hk_3300 t_23 ⟨_, rfl, (ok_3260.up (i := 6) (by decide) (fun q1 q2 => absurd (And.intro q1 q2) (by decide)) (fun k9 q1 q2 q3 => by simp only [Int32.reduceToInt] at q3; omega))⟩
              obtain ⟨g_3301, hf_3299, ok_3303, eg_3304⟩ : ∃ g9, f_3298 (q 14) = aI E 2076 g9 ∧ FOK g9 ∧ g9 = upd g_3258 (6 : Int32).toNatClampNeg v_3295 := ⟨_, hf_3299, (ok_3260.up (i := 6) (by decide) (fun q1 q2 => absurd (And.intro q1 q2) (by decide)) (fun k9 q1 q2 q3 => by simp only [Int32.reduceToInt] at q3; omega)), rfl⟩
              have hf_3305 := (hk_3300 a_0 (ne_kd e_3277 hf_3276 rfl)).trans e_3277
              have fr_3306 := FR.w hk_3300 hf_3276 (k := 2176) rfl
              have ln6_3307 := FOK.n6 ag_3265.1 eg_3304
              have ln6_3307_t : (g_3301 6).toInt = v_3295.toInt := congrArg Int32.toInt ln6_3307.2
              have fe_3308 : fld (f_3298 a_0) 12 = (v_3285 : Int32).toInt := by rw [hf_3305]; rfl
              have fe_3309 : fld (f_3298 a_0) 8 = (v_3281 : Int32).toInt := by rw [hf_3305]; rfl
              have fe_3310 : fld (f_3298 a_0) 12 = (v_3285 : Int32).toInt := by rw [hf_3305]; rfl
              exact hR _ _ _ _ _ _ dX12_readLoss_273 (Nat.le_of_ble_eq_true rfl) (Nat.le_of_ble_eq_true rfl) ⟨rfl, hW_3302, (((((((((hF_2817.tr hF_2855).tr fr_3175).tr hF_3187).tr fr_3217).tr hF_3234).tr fr_3263).tr hF_3272).tr fr_3306).mono rfl), ⟨_, hf_3299, ln6_3307.1, (by omega), (by rw [fe_3308]; exact .inl nb_3293)⟩, (by simp only [fe_3309, fe_3310, mz_36, mz_37]; exact .inl nb_3293)⟩
            · simp only [Int32.lt_iff_toInt_lt, Int32.le_iff_toInt_le, Int32.reduceToInt, ← Int32.toInt_inj] at h_3162
              have nb_3164 : (1 ≤ r_3153.toInt ∧ r_3153.toInt ≤ 1) := by omega
              have g0_3165 := gd_t x_3158 h_3162
              clear x_3158
              have gz_3166 := x_2853.symm.trans g0_3165
              refine v_aload_n hC dX12_readLoss_131 rfl ?_
              refine v_vv hC (rest := []) m_1 e_2861 rfl mi_X12_advance ms_X12_advance (p_X12_advance hW_2854 k_0) mx_X12_advance ml_X12_156 (by decide) rfl (cells1 := 0) (slots1 := 0) (by decide) (by decide) (Nat.le_of_ble_eq_true rfl) (Nat.le_of_ble_eq_true rfl) rfl (Nat.le_of_ble_eq_true rfl) dX12_readLoss_132 (fun L_3312 f_3313 h_3314 => ?_)
              obtain ⟨rfl, hW_3318, hF_3319, x_3315, x_3316, x_3317, -⟩ := h_3314
              have fe_3320 : fld (f_2849 a_0) 8 = (v_2865 : Int32).toInt := by rw [e_2861]; rfl
              have fe_3321 : fld (f_2849 a_0) 12 = (v_2869 : Int32).toInt := by rw [e_2861]; rfl
              have hf_3322 := hF_3319.at hf_2860 rfl
              obtain ⟨v_3324, v_3325, v_3326, v_3327, v_3328, v_3329, v_3330, v_3331, v_3332, v_3333, v_3334, e_3323, -, -, -, -, -, -, -⟩ := hW_3318.at m_1 t_2
              have fe_3335 : fld (f_3313 a_0) 8 = (v_3327 : Int32).toInt := by rw [e_3323]; rfl
              have fe_3336 : fld (f_3313 a_0) 9 = (v_3328 : Int32).toInt := by rw [e_3323]; rfl
              have fe_3337 : fld (f_3313 a_0) 10 = (v_3329 : Int32).toInt := by rw [e_3323]; rfl
              have fe_3338 : fld (f_3313 a_0) 12 = (v_3331 : Int32).toInt := by rw [e_3323]; rfl
              rw [fe_3320, fe_3336, fe_3335] at x_3315
              rw [fe_3337, fe_3336, fe_3335] at x_3316
              rw [fe_3338, fe_3321] at x_3317
              clear fe_3320 fe_3321 fe_3335 fe_3336 fe_3337 fe_3338
              refine v_aload_n hC dX12_readLoss_135 rfl ?_
              refine v_get hC fl_X12_34 m_1 e_3323 rfl dX12_readLoss_136 ?_
              refine v_iload_n hC dX12_readLoss_139 rfl ?_
              refine v_iload_n hC dX12_readLoss_140 rfl ?_
              refine v_if_eq_f hC dX12_readLoss_141 (tgt := 148) (by decide) (by first | omega | (simp only [Int32.lt_iff_toInt_lt, Int32.le_iff_toInt_le, Int32.reduceToInt, ← Int32.toInt_inj, true_and, and_true, or_true, true_or, false_or, or_false, false_and, and_false, not_true_eq_false, not_false_eq_true] <;> omega)) ?_
              refine v_iconst hC dX12_readLoss_144 (v := 1) (by decide) ?_
              refine v_goto hC dX12_readLoss_145 (tgt := 149) (by decide) ?_
              refine v_iast hC m_22 hf_3322 (vp_in_iff.mpr (by first | omega | (simp only [Int32.lt_iff_toInt_lt, Int32.le_iff_toInt_le, Int32.reduceToInt, ← Int32.toInt_inj, true_and, and_true, or_true, true_or, false_or, or_false, false_and, and_false, not_true_eq_false, not_false_eq_true] <;> omega))) dX12_readLoss_149 (fun f_3339 hf_3340 hk_3341 => ?_)
              have hW_3343 := hW_3318.up hf_3340 hk_3341 t_23 ⟨_, rfl, (o_f.up (by first | omega | (simp only [Int32.lt_iff_toInt_lt, Int32.le_iff_toInt_le, Int32.reduceToInt, ← Int32.toInt_inj, true_and, and_true, or_true, true_or, false_or, or_false, false_and, and_false, not_true_eq_false, not_false_eq_true] <;> omega)) (fun q1 q2 => (by first | omega | (simp only [Int32.lt_iff_toInt_lt, Int32.le_iff_toInt_le, Int32.reduceToInt, ← Int32.toInt_inj] at *; omega))) (fun k9 q1 q2 q3 => (by first | omega | (simp only [Int32.lt_iff_toInt_lt, Int32.le_iff_toInt_le, Int32.reduceToInt, ← Int32.toInt_inj] at *; omega))))⟩
              obtain ⟨g_3342, hf_3340, ok_3344, eg_3345⟩ : ∃ g9, f_3339 (q 14) = aI E 2076 g9 ∧ FOK g9 ∧ g9 = upd g_f (v_41 : Int32).toNatClampNeg 1 := ⟨_, hf_3340, (o_f.up (by first | omega | (simp only [Int32.lt_iff_toInt_lt, Int32.le_iff_toInt_le, Int32.reduceToInt, ← Int32.toInt_inj, true_and, and_true, or_true, true_or, false_or, or_false, false_and, and_false, not_true_eq_false, not_false_eq_true] <;> omega)) (fun q1 q2 => (by first | omega | (simp only [Int32.lt_iff_toInt_lt, Int32.le_iff_toInt_le, Int32.reduceToInt, ← Int32.toInt_inj] at *; omega))) (fun k9 q1 q2 q3 => (by first | omega | (simp only [Int32.lt_iff_toInt_lt, Int32.le_iff_toInt_le, Int32.reduceToInt, ← Int32.toInt_inj] at *; omega)))), rfl⟩
              have hf_3346 := (hk_3341 a_0 (ne_kd e_3323 hf_3322 rfl)).trans e_3323
              have fr_3347 := FR.w hk_3341 hf_3322 (k := 2176) rfl
              have lk_3348 := lk_at (g0 := g_f) eg_3345 (by omega) (by omega)
              have ag_3349 := (AG.rf o_f).st eg_3345 (by omega) (by omega)
              try simp only [Int32.reduceToInt] at lk_3348
              refine v_aload_n hC dX12_readLoss_150 rfl ?_
              refine v_get hC fl_X12_34 m_1 hf_3346 rfl dX12_readLoss_151 ?_
              refine v_iload_n hC dX12_readLoss_154 rfl ?_
              refine v_iconst hC dX12_readLoss_155 (v := 1) (by decide) ?_
              obtain ⟨v_3350, h_3351⟩ : ∃ v9 : Int32, v_41 + 1 = v9 := ⟨_, rfl⟩
              refine v_iadd hC dX12_readLoss_156 h_3351 ?_
              have h_3352 := add_v h_3351 (by first | omega | (simp only [Int32.lt_iff_toInt_lt, Int32.le_iff_toInt_le, Int32.reduceToInt, ← Int32.toInt_inj, true_and, and_true, or_true, true_or, false_or, or_false, false_and, and_false, not_true_eq_false, not_false_eq_true] <;> omega)) (by first | omega | (simp only [Int32.lt_iff_toInt_lt, Int32.le_iff_toInt_le, Int32.reduceToInt, ← Int32.toInt_inj, true_and, and_true, or_true, true_or, false_or, or_false, false_and, and_false, not_true_eq_false, not_false_eq_true] <;> omega))
              try simp only [Int32.reduceToInt] at h_3352
              refine v_aload_n hC dX12_readLoss_157 rfl ?_
              refine v_iconst hC dX12_readLoss_158 (v := 0) (by decide) ?_
              refine v_bipush hC dX12_readLoss_159 (v := 15) (by decide) ?_
              refine v_vi hC (rest := [.int v_3350, .ref (q 14)]) m_1 hf_3346 rfl mi_X12_number ms_X12_number (p_X12_number hW_3343 k_0) mx_X12_number ml_X12_170 (by decide) rfl (cells1 := 0) (slots1 := 0) (by decide) (by decide) (Nat.le_of_ble_eq_true rfl) (Nat.le_of_ble_eq_true rfl) rfl (Nat.le_of_ble_eq_true rfl) dX12_readLoss_161 (fun r_3353 L_3354 f_3355 h_3356 => ?_)
              obtain ⟨rfl, hW_3358, hF_3359, -, -, -, -, -, x_3357⟩ := h_3356
              have fe_3360 : fld (f_3339 a_0) 8 = (v_3327 : Int32).toInt := by rw [hf_3346]; rfl
              have fe_3361 : fld (f_3339 a_0) 10 = (v_3329 : Int32).toInt := by rw [hf_3346]; rfl
              have fe_3362 : fld (f_3339 a_0) 12 = (v_3331 : Int32).toInt := by rw [hf_3346]; rfl
              have hf_3363 := hF_3359.at hf_3340 rfl
              obtain ⟨v_3365, v_3366, v_3367, v_3368, v_3369, v_3370, v_3371, v_3372, v_3373, v_3374, v_3375, e_3364, -, -, -, -, -, -, -⟩ := hW_3358.at m_1 t_2
              have fe_3376 : fld (f_3355 a_0) 8 = (v_3368 : Int32).toInt := by rw [e_3364]; rfl
              have fe_3377 : fld (f_3355 a_0) 9 = (v_3369 : Int32).toInt := by rw [e_3364]; rfl
              have fe_3378 : fld (f_3355 a_0) 10 = (v_3370 : Int32).toInt := by rw [e_3364]; rfl
              have fe_3379 : fld (f_3355 a_0) 12 = (v_3372 : Int32).toInt := by rw [e_3364]; rfl
              rw [fe_3379, fe_3362, fe_3361, fe_3360, fe_3377, fe_3376, fe_3378] at x_3357
              clear fe_3360 fe_3361 fe_3362 fe_3376 fe_3377 fe_3378 fe_3379
              try simp only [Int32.reduceToInt, Int64.reduceToInt] at x_3357
              refine v_iast hC m_22 hf_3363 (vp_in_iff.mpr (by first | omega | (simp only [Int32.lt_iff_toInt_lt, Int32.le_iff_toInt_le, Int32.reduceToInt, ← Int32.toInt_inj, true_and, and_true, or_true, true_or, false_or, or_false, false_and, and_false, not_true_eq_false, not_false_eq_true] <;> omega))) dX12_readLoss_164 (fun f_3380 hf_3381 hk_3382 => ?_)
              have hW_3384 := hW_3358.up hf_3381 hk_3382 t_23 ⟨_, rfl, (ok_3344.up (by first | omega | (simp only [Int32.lt_iff_toInt_lt, Int32.le_iff_toInt_le, Int32.reduceToInt, ← Int32.toInt_inj, true_and, and_true, or_true, true_or, false_or, or_false, false_and, and_false, not_true_eq_false, not_false_eq_true] <;> omega)) (fun q1 q2 => (by first | omega | (simp only [Int32.lt_iff_toInt_lt, Int32.le_iff_toInt_le, Int32.reduceToInt, ← Int32.toInt_inj] at *; omega))) (fun k9 q1 q2 q3 => (by first | omega | (simp only [Int32.lt_iff_toInt_lt, Int32.le_iff_toInt_le, Int32.reduceToInt, ← Int32.toInt_inj] at *; omega))))⟩
              obtain ⟨g_3383, hf_3381, ok_3385, eg_3386⟩ : ∃ g9, f_3380 (q 14) = aI E 2076 g9 ∧ FOK g9 ∧ g9 = upd g_3342 (v_3350 : Int32).toNatClampNeg r_3353 := ⟨_, hf_3381, (ok_3344.up (by first | omega | (simp only [Int32.lt_iff_toInt_lt, Int32.le_iff_toInt_le, Int32.reduceToInt, ← Int32.toInt_inj, true_and, and_true, or_true, true_or, false_or, or_false, false_and, and_false, not_true_eq_false, not_false_eq_true] <;> omega)) (fun q1 q2 => (by first | omega | (simp only [Int32.lt_iff_toInt_lt, Int32.le_iff_toInt_le, Int32.reduceToInt, ← Int32.toInt_inj] at *; omega))) (fun k9 q1 q2 q3 => (by first | omega | (simp only [Int32.lt_iff_toInt_lt, Int32.le_iff_toInt_le, Int32.reduceToInt, ← Int32.toInt_inj] at *; omega)))), rfl⟩
              have hf_3387 := (hk_3382 a_0 (ne_kd e_3364 hf_3363 rfl)).trans e_3364
              have fr_3388 := FR.w hk_3382 hf_3363 (k := 2176) rfl
              have lk_3389 := lf_at (g0 := g_f) eg_3386 (by omega) (by omega)
              have ag_3390 := ag_3349.st eg_3386 (by omega) (by omega)
              try simp only [Int32.reduceToInt] at lk_3389
              refine v_aload_n hC dX12_readLoss_165 rfl ?_
              refine v_get hC fl_X12_34 m_1 hf_3387 rfl dX12_readLoss_166 ?_
              refine v_iload_n hC dX12_readLoss_169 rfl ?_
              refine v_iconst hC dX12_readLoss_170 (v := 2) (by decide) ?_
              obtain ⟨v_3391, h_3392⟩ : ∃ v9 : Int32, v_41 + 2 = v9 := ⟨_, rfl⟩
              refine v_iadd hC dX12_readLoss_171 h_3392 ?_
              have h_3393 := add_v h_3392 (by first | omega | (simp only [Int32.lt_iff_toInt_lt, Int32.le_iff_toInt_le, Int32.reduceToInt, ← Int32.toInt_inj, true_and, and_true, or_true, true_or, false_or, or_false, false_and, and_false, not_true_eq_false, not_false_eq_true] <;> omega)) (by first | omega | (simp only [Int32.lt_iff_toInt_lt, Int32.le_iff_toInt_le, Int32.reduceToInt, ← Int32.toInt_inj, true_and, and_true, or_true, true_or, false_or, or_false, false_and, and_false, not_true_eq_false, not_false_eq_true] <;> omega))
              try simp only [Int32.reduceToInt] at h_3393
              refine v_aload_n hC dX12_readLoss_172 rfl ?_
              refine v_ldcwS hC sr_X12_295 dX12_readLoss_173 ?_
              refine v_aload_n hC dX12_readLoss_176 rfl ?_
              refine v_get hC fl_X12_34 m_1 hf_3387 rfl dX12_readLoss_177 ?_
              refine v_iload_n hC dX12_readLoss_180 rfl ?_
              refine v_iconst hC dX12_readLoss_181 (v := 1) (by decide) ?_
              obtain ⟨v_3394, h_3395⟩ : ∃ v9 : Int32, v_41 + 1 = v9 := ⟨_, rfl⟩
              refine v_iadd hC dX12_readLoss_182 h_3395 ?_
              have h_3396 := add_v h_3395 (by first | omega | (simp only [Int32.lt_iff_toInt_lt, Int32.le_iff_toInt_le, Int32.reduceToInt, ← Int32.toInt_inj, true_and, and_true, or_true, true_or, false_or, or_false, false_and, and_false, not_true_eq_false, not_false_eq_true] <;> omega)) (by first | omega | (simp only [Int32.lt_iff_toInt_lt, Int32.le_iff_toInt_le, Int32.reduceToInt, ← Int32.toInt_inj, true_and, and_true, or_true, true_or, false_or, or_false, false_and, and_false, not_true_eq_false, not_false_eq_true] <;> omega))
              try simp only [Int32.reduceToInt] at h_3396
              obtain ⟨v_3397, h_3398⟩ : ∃ v9 : Int32, g_3383 (v_3394 : Int32).toNatClampNeg = v9 := ⟨_, rfl⟩
              refine v_iald hC m_22 hf_3381 (vp_in_iff.mpr (by first | omega | (simp only [Int32.lt_iff_toInt_lt, Int32.le_iff_toInt_le, Int32.reduceToInt, ← Int32.toInt_inj, true_and, and_true, or_true, true_or, false_or, or_false, false_and, and_false, not_true_eq_false, not_false_eq_true] <;> omega))) h_3398 dX12_readLoss_183 ?_
              refine v_bipush hC dX12_readLoss_184 (v := 15) (by decide) ?_
              refine v_vi hC (rest := [.int v_3391, .ref (q 14)]) m_1 hf_3387 rfl mi_X12_told ms_X12_told (p_X12_told hW_3384 k_0 (by decide)) mx_X12_told ml_X12_189 (by decide) rfl (cells1 := 0) (slots1 := 0) (by decide) (by decide) (Nat.le_of_ble_eq_true rfl) (Nat.le_of_ble_eq_true rfl) rfl (Nat.le_of_ble_eq_true rfl) dX12_readLoss_186 (fun r_3399 L_3400 f_3401 h_3402 => ?_)
              obtain ⟨rfl, hW_3404, hF_3405, -, -, -, -, -, x_3403⟩ := h_3402
              have fe_3406 : fld (f_3380 a_0) 8 = (v_3368 : Int32).toInt := by rw [hf_3387]; rfl
              have fe_3407 : fld (f_3380 a_0) 12 = (v_3372 : Int32).toInt := by rw [hf_3387]; rfl
              have hf_3408 := hF_3405.at hf_3381 rfl
              obtain ⟨v_3410, v_3411, v_3412, v_3413, v_3414, v_3415, v_3416, v_3417, v_3418, v_3419, v_3420, e_3409, -, -, -, -, -, -, -⟩ := hW_3404.at m_1 t_2
              have fe_3421 : fld (f_3401 a_0) 8 = (v_3413 : Int32).toInt := by rw [e_3409]; rfl
              have fe_3422 : fld (f_3401 a_0) 9 = (v_3414 : Int32).toInt := by rw [e_3409]; rfl
              have fe_3423 : fld (f_3401 a_0) 10 = (v_3415 : Int32).toInt := by rw [e_3409]; rfl
              have fe_3424 : fld (f_3401 a_0) 12 = (v_3417 : Int32).toInt := by rw [e_3409]; rfl
              rw [fe_3424, fe_3407, fe_3406, fe_3422, fe_3421, fe_3423] at x_3403
              clear fe_3406 fe_3407 fe_3421 fe_3422 fe_3423 fe_3424
              try simp only [Int32.reduceToInt, Int64.reduceToInt] at x_3403
              refine v_iast hC m_22 hf_3408 (vp_in_iff.mpr (by first | omega | (simp only [Int32.lt_iff_toInt_lt, Int32.le_iff_toInt_le, Int32.reduceToInt, ← Int32.toInt_inj, true_and, and_true, or_true, true_or, false_or, or_false, false_and, and_false, not_true_eq_false, not_false_eq_true] <;> omega))) dX12_readLoss_189 (fun f_3425 hf_3426 hk_3427 => ?_)
              have hW_3429 := hW_3404.up hf_3426 hk_3427 t_23 ⟨_, rfl, (ok_3385.up (by first | omega | (simp only [Int32.lt_iff_toInt_lt, Int32.le_iff_toInt_le, Int32.reduceToInt, ← Int32.toInt_inj, true_and, and_true, or_true, true_or, false_or, or_false, false_and, and_false, not_true_eq_false, not_false_eq_true] <;> omega)) (fun q1 q2 => (by first | omega | (simp only [Int32.lt_iff_toInt_lt, Int32.le_iff_toInt_le, Int32.reduceToInt, ← Int32.toInt_inj] at *; omega))) (fun k9 q1 q2 q3 => (by first | omega | (simp only [Int32.lt_iff_toInt_lt, Int32.le_iff_toInt_le, Int32.reduceToInt, ← Int32.toInt_inj] at *; omega))))⟩
              obtain ⟨g_3428, hf_3426, ok_3430, eg_3431⟩ : ∃ g9, f_3425 (q 14) = aI E 2076 g9 ∧ FOK g9 ∧ g9 = upd g_3383 (v_3391 : Int32).toNatClampNeg r_3399 := ⟨_, hf_3426, (ok_3385.up (by first | omega | (simp only [Int32.lt_iff_toInt_lt, Int32.le_iff_toInt_le, Int32.reduceToInt, ← Int32.toInt_inj, true_and, and_true, or_true, true_or, false_or, or_false, false_and, and_false, not_true_eq_false, not_false_eq_true] <;> omega)) (fun q1 q2 => (by first | omega | (simp only [Int32.lt_iff_toInt_lt, Int32.le_iff_toInt_le, Int32.reduceToInt, ← Int32.toInt_inj] at *; omega))) (fun k9 q1 q2 q3 => (by first | omega | (simp only [Int32.lt_iff_toInt_lt, Int32.le_iff_toInt_le, Int32.reduceToInt, ← Int32.toInt_inj] at *; omega)))), rfl⟩
              have hf_3432 := (hk_3427 a_0 (ne_kd e_3409 hf_3408 rfl)).trans e_3409
              have fr_3433 := FR.w hk_3427 hf_3408 (k := 2176) rfl
              have lk_3434 := l2_at (g0 := g_f) eg_3431 (by omega) (by omega)
              have ag_3435 := ag_3390.st eg_3431 (by omega) (by omega)
              try simp only [Int32.reduceToInt] at lk_3434
              refine v_goto hC dX12_readLoss_190 (tgt := 258) (by decide) ?_
              refine v_aload_n hC dX12_readLoss_258 rfl ?_
              refine v_vv hC (rest := []) m_1 hf_3432 rfl mi_X12_ends ms_X12_ends (p_X12_ends hW_3429 k_0) mx_X12_ends ml_X12_178 (by decide) rfl (cells1 := 0) (slots1 := 0) (by decide) (by decide) (Nat.le_of_ble_eq_true rfl) (Nat.le_of_ble_eq_true rfl) rfl (Nat.le_of_ble_eq_true rfl) dX12_readLoss_259 (fun L_3437 f_3438 h_3439 => ?_)
              obtain ⟨rfl, hW_3441, hF_3442, -, -, -, -, x_3440⟩ := h_3439
              have fe_3443 : fld (f_3425 a_0) 8 = (v_3413 : Int32).toInt := by rw [hf_3432]; rfl
              have fe_3444 : fld (f_3425 a_0) 10 = (v_3415 : Int32).toInt := by rw [hf_3432]; rfl
              have fe_3445 : fld (f_3425 a_0) 12 = (v_3417 : Int32).toInt := by rw [hf_3432]; rfl
              have hf_3446 := hF_3442.at hf_3426 rfl
              obtain ⟨v_3448, v_3449, v_3450, v_3451, v_3452, v_3453, v_3454, v_3455, v_3456, v_3457, v_3458, e_3447, -, -, -, -, -, -, -⟩ := hW_3441.at m_1 t_2
              have fe_3459 : fld (f_3438 a_0) 8 = (v_3451 : Int32).toInt := by rw [e_3447]; rfl
              have fe_3460 : fld (f_3438 a_0) 9 = (v_3452 : Int32).toInt := by rw [e_3447]; rfl
              have fe_3461 : fld (f_3438 a_0) 10 = (v_3453 : Int32).toInt := by rw [e_3447]; rfl
              have fe_3462 : fld (f_3438 a_0) 12 = (v_3455 : Int32).toInt := by rw [e_3447]; rfl
              rw [fe_3462, fe_3445, fe_3444, fe_3443, fe_3460, fe_3459, fe_3461] at x_3440
              clear fe_3443 fe_3444 fe_3445 fe_3459 fe_3460 fe_3461 fe_3462
              refine v_aload_n hC dX12_readLoss_262 rfl ?_
              refine v_get hC fl_X12_34 m_1 e_3447 rfl dX12_readLoss_263 ?_
              refine v_bipush hC dX12_readLoss_266 (v := 6) (by decide) ?_
              refine v_dup2 hC dX12_readLoss_268 rfl rfl ?_
              have l6_3463 : (g_3428 6).toInt = (g_f 6).toInt := congrArg Int32.toInt ag_3435.2.1
              refine v_iald hC m_22 hf_3446 (vp_in_iff.mpr (by decide)) (v := g_3428 6) rfl dX12_readLoss_269 ?_
              refine v_iconst hC dX12_readLoss_270 (v := 1) (by decide) ?_
              obtain ⟨v_3464, h_3465⟩ : ∃ v9 : Int32, (g_3428 6) + 1 = v9 := ⟨_, rfl⟩
              refine v_iadd hC dX12_readLoss_271 h_3465 ?_
              have h_3466 := add_v h_3465 (by first | omega | (simp only [Int32.lt_iff_toInt_lt, Int32.le_iff_toInt_le, Int32.reduceToInt, ← Int32.toInt_inj, true_and, and_true, or_true, true_or, false_or, or_false, false_and, and_false, not_true_eq_false, not_false_eq_true] <;> omega)) (by first | omega | (simp only [Int32.lt_iff_toInt_lt, Int32.le_iff_toInt_le, Int32.reduceToInt, ← Int32.toInt_inj, true_and, and_true, or_true, true_or, false_or, or_false, false_and, and_false, not_true_eq_false, not_false_eq_true] <;> omega))
              try simp only [Int32.reduceToInt] at h_3466
              refine v_iast hC m_22 hf_3446 (vp_in_iff.mpr (by decide)) dX12_readLoss_272 (fun f_3467 hf_3468 hk_3469 => ?_)
              have hW_3471 := hW_3441.up hf_3468 hk_3469 t_23 ⟨_, rfl, (ok_3430.up (i := 6) (by decide) (fun q1 q2 => absurd (And.intro q1 q2) (by decide)) (fun k9 q1 q2 q3 => by simp only [Int32.reduceToInt] at q3; omega))⟩
              obtain ⟨g_3470, hf_3468, ok_3472, eg_3473⟩ : ∃ g9, f_3467 (q 14) = aI E 2076 g9 ∧ FOK g9 ∧ g9 = upd g_3428 (6 : Int32).toNatClampNeg v_3464 := ⟨_, hf_3468, (ok_3430.up (i := 6) (by decide) (fun q1 q2 => absurd (And.intro q1 q2) (by decide)) (fun k9 q1 q2 q3 => by simp only [Int32.reduceToInt] at q3; omega)), rfl⟩
              have hf_3474 := (hk_3469 a_0 (ne_kd e_3447 hf_3446 rfl)).trans e_3447
              have fr_3475 := FR.w hk_3469 hf_3446 (k := 2176) rfl
              have ln6_3476 := FOK.n6 ag_3435.1 eg_3473
              have ln6_3476_t : (g_3470 6).toInt = v_3464.toInt := congrArg Int32.toInt ln6_3476.2
              have fe_3477 : fld (f_3467 a_0) 12 = (v_3455 : Int32).toInt := by rw [hf_3474]; rfl
              have fe_3482 : fld (f_3467 a_0) 8 = (v_3451 : Int32).toInt := by rw [hf_3474]; rfl
              have fe_3483 : fld (f_3467 a_0) 12 = (v_3455 : Int32).toInt := by rw [hf_3474]; rfl
              exact hR _ _ _ _ _ _ dX12_readLoss_273 (Nat.le_of_ble_eq_true rfl) (Nat.le_of_ble_eq_true rfl) ⟨rfl, hW_3471, ((((((((((hF_2817.tr hF_2855).tr hF_3319).tr fr_3347).tr hF_3359).tr fr_3388).tr hF_3405).tr fr_3433).tr hF_3442).tr fr_3475).mono rfl), ⟨_, hf_3468, ln6_3476.1, (by omega), (by rw [fe_3477]; by_cases q9 : v_3455.toInt = 0; have gp_3478 := x_3440.resolve_left (fun h9 => h9 q9); clear x_3440; have gp_3479 := x_3403.resolve_left (fun h9 => h9 gp_3478.1); clear x_3403; have gp_3480 := x_3357.resolve_left (fun h9 => h9 gp_3479.1); clear x_3357; have gz_3481 := x_3317.symm.trans gp_3480.1; exact .inr (LO.fin hLO ag_3435 eg_3473 (by omega) (by omega) (fun q8 => by omega)); exact .inl q9)⟩, (by simp only [fe_3482, fe_3483, mz_36, mz_37]; by_cases q9 : (v_3455 : Int32).toInt = 0; have gp_3484 := x_3440.resolve_left (fun h9 => h9 q9); clear x_3440; have gp_3485 := x_3403.resolve_left (fun h9 => h9 gp_3484.1); clear x_3403; have gp_3486 := x_3357.resolve_left (fun h9 => h9 gp_3485.1); clear x_3357; have gz_3487 := x_3317.symm.trans gp_3486.1; (right; omega); exact .inl q9)⟩
          · simp only [Int32.lt_iff_toInt_lt, Int32.le_iff_toInt_le, Int32.reduceToInt, ← Int32.toInt_inj] at h_3152
            refine v_aload_n hC dX12_readLoss_110 rfl ?_
            refine v_ldcS hC sr_X12_193 dX12_readLoss_111 ?_
            refine v_vi hC (rest := []) m_1 e_2861 rfl mi_X12_is ms_X12_is (p_X12_is hW_2854 k_0 (by decide)) mx_X12_is ml_X12_152 (by decide) rfl (cells1 := 0) (slots1 := 0) (by decide) (by decide) (Nat.le_of_ble_eq_true rfl) (Nat.le_of_ble_eq_true rfl) rfl (Nat.le_of_ble_eq_true rfl) dX12_readLoss_113 (fun r_3488 L_3489 f_3490 h_3491 => ?_)
            obtain ⟨rfl, rfl, rfl⟩ := h_3491
            refine v_if_ne hC dX12_readLoss_116 (tgt := 124) (by decide) (fun h_3494 => ?_) (fun h_3494 => ?_)
            · simp only [Int32.lt_iff_toInt_lt, Int32.le_iff_toInt_le, Int32.reduceToInt, ← Int32.toInt_inj] at h_3494
              refine v_aload_n hC dX12_readLoss_124 rfl ?_
              refine v_vi hC (rest := []) m_1 e_2861 rfl mi_X12_good ms_X12_good (p_X12_good hW_2854 k_0) mx_X12_good ml_X12_139 (by decide) rfl (cells1 := 0) (slots1 := 0) (by decide) (by decide) (Nat.le_of_ble_eq_true rfl) (Nat.le_of_ble_eq_true rfl) rfl (Nat.le_of_ble_eq_true rfl) dX12_readLoss_125 (fun r_3495 L_3496 f_3497 h_3498 => ?_)
              obtain ⟨rfl, rfl, b_3499, x_3500⟩ := h_3498
              have fe_3503 : fld (f_2849 a_0) 12 = (v_2869 : Int32).toInt := by rw [e_2861]; rfl
              rw [fe_3503] at x_3500
              clear fe_3503
              try simp only [Int32.reduceToInt, Int64.reduceToInt] at x_3500
              refine v_if_eq hC dX12_readLoss_128 (tgt := 135) (by decide) (fun h_3504 => ?_) (fun h_3504 => ?_)
              · simp only [Int32.lt_iff_toInt_lt, Int32.le_iff_toInt_le, Int32.reduceToInt, ← Int32.toInt_inj] at h_3504
                have g0_3505 := gd_f x_3500 h_3504
                clear x_3500
                clear x_2853
                refine v_aload_n hC dX12_readLoss_135 rfl ?_
                refine v_get hC fl_X12_34 m_1 e_2861 rfl dX12_readLoss_136 ?_
                refine v_iload_n hC dX12_readLoss_139 rfl ?_
                refine v_iload_n hC dX12_readLoss_140 rfl ?_
                refine v_if_eq_t hC dX12_readLoss_141 (tgt := 148) (by decide) (by first | omega | (simp only [Int32.lt_iff_toInt_lt, Int32.le_iff_toInt_le, Int32.reduceToInt, ← Int32.toInt_inj, true_and, and_true, or_true, true_or, false_or, or_false, false_and, and_false, not_true_eq_false, not_false_eq_true] <;> omega)) ?_
                refine v_iconst hC dX12_readLoss_148 (v := 0) (by decide) ?_
                refine v_iast hC m_22 hf_2860 (vp_in_iff.mpr (by first | omega | (simp only [Int32.lt_iff_toInt_lt, Int32.le_iff_toInt_le, Int32.reduceToInt, ← Int32.toInt_inj, true_and, and_true, or_true, true_or, false_or, or_false, false_and, and_false, not_true_eq_false, not_false_eq_true] <;> omega))) dX12_readLoss_149 (fun f_3509 hf_3510 hk_3511 => ?_)
                have hW_3513 := hW_2854.up hf_3510 hk_3511 t_23 ⟨_, rfl, (o_f.up (by first | omega | (simp only [Int32.lt_iff_toInt_lt, Int32.le_iff_toInt_le, Int32.reduceToInt, ← Int32.toInt_inj, true_and, and_true, or_true, true_or, false_or, or_false, false_and, and_false, not_true_eq_false, not_false_eq_true] <;> omega)) (fun q1 q2 => (by first | omega | (simp only [Int32.lt_iff_toInt_lt, Int32.le_iff_toInt_le, Int32.reduceToInt, ← Int32.toInt_inj] at *; omega))) (fun k9 q1 q2 q3 => (by first | omega | (simp only [Int32.lt_iff_toInt_lt, Int32.le_iff_toInt_le, Int32.reduceToInt, ← Int32.toInt_inj] at *; omega))))⟩
                obtain ⟨g_3512, hf_3510, ok_3514, eg_3515⟩ : ∃ g9, f_3509 (q 14) = aI E 2076 g9 ∧ FOK g9 ∧ g9 = upd g_f (v_41 : Int32).toNatClampNeg 0 := ⟨_, hf_3510, (o_f.up (by first | omega | (simp only [Int32.lt_iff_toInt_lt, Int32.le_iff_toInt_le, Int32.reduceToInt, ← Int32.toInt_inj, true_and, and_true, or_true, true_or, false_or, or_false, false_and, and_false, not_true_eq_false, not_false_eq_true] <;> omega)) (fun q1 q2 => (by first | omega | (simp only [Int32.lt_iff_toInt_lt, Int32.le_iff_toInt_le, Int32.reduceToInt, ← Int32.toInt_inj] at *; omega))) (fun k9 q1 q2 q3 => (by first | omega | (simp only [Int32.lt_iff_toInt_lt, Int32.le_iff_toInt_le, Int32.reduceToInt, ← Int32.toInt_inj] at *; omega)))), rfl⟩
                have hf_3516 := (hk_3511 a_0 (ne_kd e_2861 hf_2860 rfl)).trans e_2861
                have fr_3517 := FR.w hk_3511 hf_2860 (k := 2176) rfl
                have lk_3518 := lk_at (g0 := g_f) eg_3515 (by omega) (by omega)
                have ag_3519 := (AG.rf o_f).st eg_3515 (by omega) (by omega)
                try simp only [Int32.reduceToInt] at lk_3518
                refine v_aload_n hC dX12_readLoss_150 rfl ?_
                refine v_get hC fl_X12_34 m_1 hf_3516 rfl dX12_readLoss_151 ?_
                refine v_iload_n hC dX12_readLoss_154 rfl ?_
                refine v_iconst hC dX12_readLoss_155 (v := 1) (by decide) ?_
                obtain ⟨v_3520, h_3521⟩ : ∃ v9 : Int32, v_41 + 1 = v9 := ⟨_, rfl⟩
                refine v_iadd hC dX12_readLoss_156 h_3521 ?_
                have h_3522 := add_v h_3521 (by first | omega | (simp only [Int32.lt_iff_toInt_lt, Int32.le_iff_toInt_le, Int32.reduceToInt, ← Int32.toInt_inj, true_and, and_true, or_true, true_or, false_or, or_false, false_and, and_false, not_true_eq_false, not_false_eq_true] <;> omega)) (by first | omega | (simp only [Int32.lt_iff_toInt_lt, Int32.le_iff_toInt_le, Int32.reduceToInt, ← Int32.toInt_inj, true_and, and_true, or_true, true_or, false_or, or_false, false_and, and_false, not_true_eq_false, not_false_eq_true] <;> omega))
                try simp only [Int32.reduceToInt] at h_3522
                refine v_aload_n hC dX12_readLoss_157 rfl ?_
                refine v_iconst hC dX12_readLoss_158 (v := 0) (by decide) ?_
                refine v_bipush hC dX12_readLoss_159 (v := 15) (by decide) ?_
                refine v_vi hC (rest := [.int v_3520, .ref (q 14)]) m_1 hf_3516 rfl mi_X12_number ms_X12_number (p_X12_number hW_3513 k_0) mx_X12_number ml_X12_170 (by decide) rfl (cells1 := 0) (slots1 := 0) (by decide) (by decide) (Nat.le_of_ble_eq_true rfl) (Nat.le_of_ble_eq_true rfl) rfl (Nat.le_of_ble_eq_true rfl) dX12_readLoss_161 (fun r_3523 L_3524 f_3525 h_3526 => ?_)
                obtain ⟨rfl, hW_3528, hF_3529, -, -, -, -, -, x_3527⟩ := h_3526
                have fe_3530 : fld (f_3509 a_0) 8 = (v_2865 : Int32).toInt := by rw [hf_3516]; rfl
                have fe_3531 : fld (f_3509 a_0) 10 = (v_2867 : Int32).toInt := by rw [hf_3516]; rfl
                have fe_3532 : fld (f_3509 a_0) 12 = (v_2869 : Int32).toInt := by rw [hf_3516]; rfl
                have hf_3533 := hF_3529.at hf_3510 rfl
                obtain ⟨v_3535, v_3536, v_3537, v_3538, v_3539, v_3540, v_3541, v_3542, v_3543, v_3544, v_3545, e_3534, -, -, -, -, -, -, -⟩ := hW_3528.at m_1 t_2
                have fe_3546 : fld (f_3525 a_0) 8 = (v_3538 : Int32).toInt := by rw [e_3534]; rfl
                have fe_3547 : fld (f_3525 a_0) 9 = (v_3539 : Int32).toInt := by rw [e_3534]; rfl
                have fe_3548 : fld (f_3525 a_0) 10 = (v_3540 : Int32).toInt := by rw [e_3534]; rfl
                have fe_3549 : fld (f_3525 a_0) 12 = (v_3542 : Int32).toInt := by rw [e_3534]; rfl
                rw [fe_3549, fe_3532, fe_3531, fe_3530, fe_3547, fe_3546, fe_3548] at x_3527
                have nb_3550 : ¬ (v_3542 : Int32).toInt = 0 := x_3527.elim id (fun h9 => absurd h9.1 g0_3505)
                clear x_3527
                clear fe_3530 fe_3531 fe_3532 fe_3546 fe_3547 fe_3548 fe_3549
                try simp only [Int32.reduceToInt, Int64.reduceToInt] at x_3527
                refine v_iast hC m_22 hf_3533 (vp_in_iff.mpr (by first | omega | (simp only [Int32.lt_iff_toInt_lt, Int32.le_iff_toInt_le, Int32.reduceToInt, ← Int32.toInt_inj, true_and, and_true, or_true, true_or, false_or, or_false, false_and, and_false, not_true_eq_false, not_false_eq_true] <;> omega))) dX12_readLoss_164 (fun f_3551 hf_3552 hk_3553 => ?_)
                have hW_3555 := hW_3528.up hf_3552 hk_3553 t_23 ⟨_, rfl, (ok_3514.up (by first | omega | (simp only [Int32.lt_iff_toInt_lt, Int32.le_iff_toInt_le, Int32.reduceToInt, ← Int32.toInt_inj, true_and, and_true, or_true, true_or, false_or, or_false, false_and, and_false, not_true_eq_false, not_false_eq_true] <;> omega)) (fun q1 q2 => (by first | omega | (simp only [Int32.lt_iff_toInt_lt, Int32.le_iff_toInt_le, Int32.reduceToInt, ← Int32.toInt_inj] at *; omega))) (fun k9 q1 q2 q3 => (by first | omega | (simp only [Int32.lt_iff_toInt_lt, Int32.le_iff_toInt_le, Int32.reduceToInt, ← Int32.toInt_inj] at *; omega))))⟩
                obtain ⟨g_3554, hf_3552, ok_3556, eg_3557⟩ : ∃ g9, f_3551 (q 14) = aI E 2076 g9 ∧ FOK g9 ∧ g9 = upd g_3512 (v_3520 : Int32).toNatClampNeg r_3523 := ⟨_, hf_3552, (ok_3514.up (by first | omega | (simp only [Int32.lt_iff_toInt_lt, Int32.le_iff_toInt_le, Int32.reduceToInt, ← Int32.toInt_inj, true_and, and_true, or_true, true_or, false_or, or_false, false_and, and_false, not_true_eq_false, not_false_eq_true] <;> omega)) (fun q1 q2 => (by first | omega | (simp only [Int32.lt_iff_toInt_lt, Int32.le_iff_toInt_le, Int32.reduceToInt, ← Int32.toInt_inj] at *; omega))) (fun k9 q1 q2 q3 => (by first | omega | (simp only [Int32.lt_iff_toInt_lt, Int32.le_iff_toInt_le, Int32.reduceToInt, ← Int32.toInt_inj] at *; omega)))), rfl⟩
                have hf_3558 := (hk_3553 a_0 (ne_kd e_3534 hf_3533 rfl)).trans e_3534
                have fr_3559 := FR.w hk_3553 hf_3533 (k := 2176) rfl
                have lk_3560 := lf_at (g0 := g_f) eg_3557 (by omega) (by omega)
                have ag_3561 := ag_3519.st eg_3557 (by omega) (by omega)
                try simp only [Int32.reduceToInt] at lk_3560
                refine v_aload_n hC dX12_readLoss_165 rfl ?_
                refine v_get hC fl_X12_34 m_1 hf_3558 rfl dX12_readLoss_166 ?_
                refine v_iload_n hC dX12_readLoss_169 rfl ?_
                refine v_iconst hC dX12_readLoss_170 (v := 2) (by decide) ?_
                obtain ⟨v_3562, h_3563⟩ : ∃ v9 : Int32, v_41 + 2 = v9 := ⟨_, rfl⟩
                refine v_iadd hC dX12_readLoss_171 h_3563 ?_
                have h_3564 := add_v h_3563 (by first | omega | (simp only [Int32.lt_iff_toInt_lt, Int32.le_iff_toInt_le, Int32.reduceToInt, ← Int32.toInt_inj, true_and, and_true, or_true, true_or, false_or, or_false, false_and, and_false, not_true_eq_false, not_false_eq_true] <;> omega)) (by first | omega | (simp only [Int32.lt_iff_toInt_lt, Int32.le_iff_toInt_le, Int32.reduceToInt, ← Int32.toInt_inj, true_and, and_true, or_true, true_or, false_or, or_false, false_and, and_false, not_true_eq_false, not_false_eq_true] <;> omega))
                try simp only [Int32.reduceToInt] at h_3564
                refine v_aload_n hC dX12_readLoss_172 rfl ?_
                refine v_ldcwS hC sr_X12_295 dX12_readLoss_173 ?_
                refine v_aload_n hC dX12_readLoss_176 rfl ?_
                refine v_get hC fl_X12_34 m_1 hf_3558 rfl dX12_readLoss_177 ?_
                refine v_iload_n hC dX12_readLoss_180 rfl ?_
                refine v_iconst hC dX12_readLoss_181 (v := 1) (by decide) ?_
                obtain ⟨v_3565, h_3566⟩ : ∃ v9 : Int32, v_41 + 1 = v9 := ⟨_, rfl⟩
                refine v_iadd hC dX12_readLoss_182 h_3566 ?_
                have h_3567 := add_v h_3566 (by first | omega | (simp only [Int32.lt_iff_toInt_lt, Int32.le_iff_toInt_le, Int32.reduceToInt, ← Int32.toInt_inj, true_and, and_true, or_true, true_or, false_or, or_false, false_and, and_false, not_true_eq_false, not_false_eq_true] <;> omega)) (by first | omega | (simp only [Int32.lt_iff_toInt_lt, Int32.le_iff_toInt_le, Int32.reduceToInt, ← Int32.toInt_inj, true_and, and_true, or_true, true_or, false_or, or_false, false_and, and_false, not_true_eq_false, not_false_eq_true] <;> omega))
                try simp only [Int32.reduceToInt] at h_3567
                obtain ⟨v_3568, h_3569⟩ : ∃ v9 : Int32, g_3554 (v_3565 : Int32).toNatClampNeg = v9 := ⟨_, rfl⟩
                refine v_iald hC m_22 hf_3552 (vp_in_iff.mpr (by first | omega | (simp only [Int32.lt_iff_toInt_lt, Int32.le_iff_toInt_le, Int32.reduceToInt, ← Int32.toInt_inj, true_and, and_true, or_true, true_or, false_or, or_false, false_and, and_false, not_true_eq_false, not_false_eq_true] <;> omega))) h_3569 dX12_readLoss_183 ?_
                refine v_bipush hC dX12_readLoss_184 (v := 15) (by decide) ?_
                refine v_vi hC (rest := [.int v_3562, .ref (q 14)]) m_1 hf_3558 rfl mi_X12_told ms_X12_told (p_X12_told hW_3555 k_0 (by decide)) mx_X12_told ml_X12_189 (by decide) rfl (cells1 := 0) (slots1 := 0) (by decide) (by decide) (Nat.le_of_ble_eq_true rfl) (Nat.le_of_ble_eq_true rfl) rfl (Nat.le_of_ble_eq_true rfl) dX12_readLoss_186 (fun r_3570 L_3571 f_3572 h_3573 => ?_)
                obtain ⟨rfl, hW_3575, hF_3576, -, -, -, -, -, x_3574⟩ := h_3573
                have fe_3577 : fld (f_3551 a_0) 8 = (v_3538 : Int32).toInt := by rw [hf_3558]; rfl
                have fe_3578 : fld (f_3551 a_0) 12 = (v_3542 : Int32).toInt := by rw [hf_3558]; rfl
                have hf_3579 := hF_3576.at hf_3552 rfl
                obtain ⟨v_3581, v_3582, v_3583, v_3584, v_3585, v_3586, v_3587, v_3588, v_3589, v_3590, v_3591, e_3580, -, -, -, -, -, -, -⟩ := hW_3575.at m_1 t_2
                have fe_3592 : fld (f_3572 a_0) 8 = (v_3584 : Int32).toInt := by rw [e_3580]; rfl
                have fe_3593 : fld (f_3572 a_0) 9 = (v_3585 : Int32).toInt := by rw [e_3580]; rfl
                have fe_3594 : fld (f_3572 a_0) 10 = (v_3586 : Int32).toInt := by rw [e_3580]; rfl
                have fe_3595 : fld (f_3572 a_0) 12 = (v_3588 : Int32).toInt := by rw [e_3580]; rfl
                rw [fe_3595, fe_3578, fe_3577, fe_3593, fe_3592, fe_3594] at x_3574
                have nb_3596 : ¬ (v_3588 : Int32).toInt = 0 := x_3574.elim id (fun h9 => absurd h9.1 nb_3550)
                clear x_3574
                clear fe_3577 fe_3578 fe_3592 fe_3593 fe_3594 fe_3595
                try simp only [Int32.reduceToInt, Int64.reduceToInt] at x_3574
                refine v_iast hC m_22 hf_3579 (vp_in_iff.mpr (by first | omega | (simp only [Int32.lt_iff_toInt_lt, Int32.le_iff_toInt_le, Int32.reduceToInt, ← Int32.toInt_inj, true_and, and_true, or_true, true_or, false_or, or_false, false_and, and_false, not_true_eq_false, not_false_eq_true] <;> omega))) dX12_readLoss_189 (fun f_3597 hf_3598 hk_3599 => ?_)
                have hW_3601 := hW_3575.up hf_3598 hk_3599 t_23 ⟨_, rfl, (ok_3556.up (by first | omega | (simp only [Int32.lt_iff_toInt_lt, Int32.le_iff_toInt_le, Int32.reduceToInt, ← Int32.toInt_inj, true_and, and_true, or_true, true_or, false_or, or_false, false_and, and_false, not_true_eq_false, not_false_eq_true] <;> omega)) (fun q1 q2 => (by first | omega | (simp only [Int32.lt_iff_toInt_lt, Int32.le_iff_toInt_le, Int32.reduceToInt, ← Int32.toInt_inj] at *; omega))) (fun k9 q1 q2 q3 => (by first | omega | (simp only [Int32.lt_iff_toInt_lt, Int32.le_iff_toInt_le, Int32.reduceToInt, ← Int32.toInt_inj] at *; omega))))⟩
                obtain ⟨g_3600, hf_3598, ok_3602, eg_3603⟩ : ∃ g9, f_3597 (q 14) = aI E 2076 g9 ∧ FOK g9 ∧ g9 = upd g_3554 (v_3562 : Int32).toNatClampNeg r_3570 := ⟨_, hf_3598, (ok_3556.up (by first | omega | (simp only [Int32.lt_iff_toInt_lt, Int32.le_iff_toInt_le, Int32.reduceToInt, ← Int32.toInt_inj, true_and, and_true, or_true, true_or, false_or, or_false, false_and, and_false, not_true_eq_false, not_false_eq_true] <;> omega)) (fun q1 q2 => (by first | omega | (simp only [Int32.lt_iff_toInt_lt, Int32.le_iff_toInt_le, Int32.reduceToInt, ← Int32.toInt_inj] at *; omega))) (fun k9 q1 q2 q3 => (by first | omega | (simp only [Int32.lt_iff_toInt_lt, Int32.le_iff_toInt_le, Int32.reduceToInt, ← Int32.toInt_inj] at *; omega)))), rfl⟩
                have hf_3604 := (hk_3599 a_0 (ne_kd e_3580 hf_3579 rfl)).trans e_3580
                have fr_3605 := FR.w hk_3599 hf_3579 (k := 2176) rfl
                have lk_3606 := l2_at (g0 := g_f) eg_3603 (by omega) (by omega)
                have ag_3607 := ag_3561.st eg_3603 (by omega) (by omega)
                try simp only [Int32.reduceToInt] at lk_3606
                refine v_goto hC dX12_readLoss_190 (tgt := 258) (by decide) ?_
                refine v_aload_n hC dX12_readLoss_258 rfl ?_
                refine v_vv hC (rest := []) m_1 hf_3604 rfl mi_X12_ends ms_X12_ends (p_X12_ends hW_3601 k_0) mx_X12_ends ml_X12_178 (by decide) rfl (cells1 := 0) (slots1 := 0) (by decide) (by decide) (Nat.le_of_ble_eq_true rfl) (Nat.le_of_ble_eq_true rfl) rfl (Nat.le_of_ble_eq_true rfl) dX12_readLoss_259 (fun L_3609 f_3610 h_3611 => ?_)
                obtain ⟨rfl, hW_3613, hF_3614, -, -, -, -, x_3612⟩ := h_3611
                have fe_3615 : fld (f_3597 a_0) 8 = (v_3584 : Int32).toInt := by rw [hf_3604]; rfl
                have fe_3616 : fld (f_3597 a_0) 10 = (v_3586 : Int32).toInt := by rw [hf_3604]; rfl
                have fe_3617 : fld (f_3597 a_0) 12 = (v_3588 : Int32).toInt := by rw [hf_3604]; rfl
                have hf_3618 := hF_3614.at hf_3598 rfl
                obtain ⟨v_3620, v_3621, v_3622, v_3623, v_3624, v_3625, v_3626, v_3627, v_3628, v_3629, v_3630, e_3619, -, -, -, -, -, -, -⟩ := hW_3613.at m_1 t_2
                have fe_3631 : fld (f_3610 a_0) 8 = (v_3623 : Int32).toInt := by rw [e_3619]; rfl
                have fe_3632 : fld (f_3610 a_0) 9 = (v_3624 : Int32).toInt := by rw [e_3619]; rfl
                have fe_3633 : fld (f_3610 a_0) 10 = (v_3625 : Int32).toInt := by rw [e_3619]; rfl
                have fe_3634 : fld (f_3610 a_0) 12 = (v_3627 : Int32).toInt := by rw [e_3619]; rfl
                rw [fe_3634, fe_3617, fe_3616, fe_3615, fe_3632, fe_3631, fe_3633] at x_3612
                have nb_3635 : ¬ (v_3627 : Int32).toInt = 0 := x_3612.elim id (fun h9 => absurd h9.1 nb_3596)
                clear x_3612
                clear fe_3615 fe_3616 fe_3617 fe_3631 fe_3632 fe_3633 fe_3634
                refine v_aload_n hC dX12_readLoss_262 rfl ?_
                refine v_get hC fl_X12_34 m_1 e_3619 rfl dX12_readLoss_263 ?_
                refine v_bipush hC dX12_readLoss_266 (v := 6) (by decide) ?_
                refine v_dup2 hC dX12_readLoss_268 rfl rfl ?_
                have l6_3636 : (g_3600 6).toInt = (g_f 6).toInt := congrArg Int32.toInt ag_3607.2.1
                refine v_iald hC m_22 hf_3618 (vp_in_iff.mpr (by decide)) (v := g_3600 6) rfl dX12_readLoss_269 ?_
                refine v_iconst hC dX12_readLoss_270 (v := 1) (by decide) ?_
                obtain ⟨v_3637, h_3638⟩ : ∃ v9 : Int32, (g_3600 6) + 1 = v9 := ⟨_, rfl⟩
                refine v_iadd hC dX12_readLoss_271 h_3638 ?_
                have h_3639 := add_v h_3638 (by first | omega | (simp only [Int32.lt_iff_toInt_lt, Int32.le_iff_toInt_le, Int32.reduceToInt, ← Int32.toInt_inj, true_and, and_true, or_true, true_or, false_or, or_false, false_and, and_false, not_true_eq_false, not_false_eq_true] <;> omega)) (by first | omega | (simp only [Int32.lt_iff_toInt_lt, Int32.le_iff_toInt_le, Int32.reduceToInt, ← Int32.toInt_inj, true_and, and_true, or_true, true_or, false_or, or_false, false_and, and_false, not_true_eq_false, not_false_eq_true] <;> omega))
                try simp only [Int32.reduceToInt] at h_3639
                refine v_iast hC m_22 hf_3618 (vp_in_iff.mpr (by decide)) dX12_readLoss_272 (fun f_3640 hf_3641 hk_3642 => ?_)
                have hW_3644 := hW_3613.up hf_3641 hk_3642 t_23 ⟨_, rfl, (ok_3602.up (i := 6) (by decide) (fun q1 q2 => absurd (And.intro q1 q2) (by decide)) (fun k9 q1 q2 q3 => by simp only [Int32.reduceToInt] at q3; omega))⟩
                obtain ⟨g_3643, hf_3641, ok_3645, eg_3646⟩ : ∃ g9, f_3640 (q 14) = aI E 2076 g9 ∧ FOK g9 ∧ g9 = upd g_3600 (6 : Int32).toNatClampNeg v_3637 := ⟨_, hf_3641, (ok_3602.up (i := 6) (by decide) (fun q1 q2 => absurd (And.intro q1 q2) (by decide)) (fun k9 q1 q2 q3 => by simp only [Int32.reduceToInt] at q3; omega)), rfl⟩
                have hf_3647 := (hk_3642 a_0 (ne_kd e_3619 hf_3618 rfl)).trans e_3619
                have fr_3648 := FR.w hk_3642 hf_3618 (k := 2176) rfl
                have ln6_3649 := FOK.n6 ag_3607.1 eg_3646
                have ln6_3649_t : (g_3643 6).toInt = v_3637.toInt := congrArg Int32.toInt ln6_3649.2
                have fe_3650 : fld (f_3640 a_0) 12 = (v_3627 : Int32).toInt := by rw [hf_3647]; rfl
                have fe_3651 : fld (f_3640 a_0) 8 = (v_3623 : Int32).toInt := by rw [hf_3647]; rfl
                have fe_3652 : fld (f_3640 a_0) 12 = (v_3627 : Int32).toInt := by rw [hf_3647]; rfl
                exact hR _ _ _ _ _ _ dX12_readLoss_273 (Nat.le_of_ble_eq_true rfl) (Nat.le_of_ble_eq_true rfl) ⟨rfl, hW_3644, (((((((((hF_2817.tr hF_2855).tr fr_3517).tr hF_3529).tr fr_3559).tr hF_3576).tr fr_3605).tr hF_3614).tr fr_3648).mono rfl), ⟨_, hf_3641, ln6_3649.1, (by omega), (by rw [fe_3650]; exact .inl nb_3635)⟩, (by simp only [fe_3651, fe_3652, mz_36, mz_37]; exact .inl nb_3635)⟩
              · simp only [Int32.lt_iff_toInt_lt, Int32.le_iff_toInt_le, Int32.reduceToInt, ← Int32.toInt_inj] at h_3504
                have nb_3506 : (1 ≤ r_3495.toInt ∧ r_3495.toInt ≤ 1) := by omega
                have g0_3507 := gd_t x_3500 h_3504
                clear x_3500
                have gz_3508 := x_2853.symm.trans g0_3507
                refine v_aload_n hC dX12_readLoss_131 rfl ?_
                refine v_vv hC (rest := []) m_1 e_2861 rfl mi_X12_advance ms_X12_advance (p_X12_advance hW_2854 k_0) mx_X12_advance ml_X12_156 (by decide) rfl (cells1 := 0) (slots1 := 0) (by decide) (by decide) (Nat.le_of_ble_eq_true rfl) (Nat.le_of_ble_eq_true rfl) rfl (Nat.le_of_ble_eq_true rfl) dX12_readLoss_132 (fun L_3654 f_3655 h_3656 => ?_)
                obtain ⟨rfl, hW_3660, hF_3661, x_3657, x_3658, x_3659, -⟩ := h_3656
                have fe_3662 : fld (f_2849 a_0) 8 = (v_2865 : Int32).toInt := by rw [e_2861]; rfl
                have fe_3663 : fld (f_2849 a_0) 12 = (v_2869 : Int32).toInt := by rw [e_2861]; rfl
                have hf_3664 := hF_3661.at hf_2860 rfl
                obtain ⟨v_3666, v_3667, v_3668, v_3669, v_3670, v_3671, v_3672, v_3673, v_3674, v_3675, v_3676, e_3665, -, -, -, -, -, -, -⟩ := hW_3660.at m_1 t_2
                have fe_3677 : fld (f_3655 a_0) 8 = (v_3669 : Int32).toInt := by rw [e_3665]; rfl
                have fe_3678 : fld (f_3655 a_0) 9 = (v_3670 : Int32).toInt := by rw [e_3665]; rfl
                have fe_3679 : fld (f_3655 a_0) 10 = (v_3671 : Int32).toInt := by rw [e_3665]; rfl
                have fe_3680 : fld (f_3655 a_0) 12 = (v_3673 : Int32).toInt := by rw [e_3665]; rfl
                rw [fe_3662, fe_3678, fe_3677] at x_3657
                rw [fe_3679, fe_3678, fe_3677] at x_3658
                rw [fe_3680, fe_3663] at x_3659
                clear fe_3662 fe_3663 fe_3677 fe_3678 fe_3679 fe_3680
                refine v_aload_n hC dX12_readLoss_135 rfl ?_
                refine v_get hC fl_X12_34 m_1 e_3665 rfl dX12_readLoss_136 ?_
                refine v_iload_n hC dX12_readLoss_139 rfl ?_
                refine v_iload_n hC dX12_readLoss_140 rfl ?_
                refine v_if_eq_t hC dX12_readLoss_141 (tgt := 148) (by decide) (by first | omega | (simp only [Int32.lt_iff_toInt_lt, Int32.le_iff_toInt_le, Int32.reduceToInt, ← Int32.toInt_inj, true_and, and_true, or_true, true_or, false_or, or_false, false_and, and_false, not_true_eq_false, not_false_eq_true] <;> omega)) ?_
                refine v_iconst hC dX12_readLoss_148 (v := 0) (by decide) ?_
                refine v_iast hC m_22 hf_3664 (vp_in_iff.mpr (by first | omega | (simp only [Int32.lt_iff_toInt_lt, Int32.le_iff_toInt_le, Int32.reduceToInt, ← Int32.toInt_inj, true_and, and_true, or_true, true_or, false_or, or_false, false_and, and_false, not_true_eq_false, not_false_eq_true] <;> omega))) dX12_readLoss_149 (fun f_3681 hf_3682 hk_3683 => ?_)
                have hW_3685 := hW_3660.up hf_3682 hk_3683 t_23 ⟨_, rfl, (o_f.up (by first | omega | (simp only [Int32.lt_iff_toInt_lt, Int32.le_iff_toInt_le, Int32.reduceToInt, ← Int32.toInt_inj, true_and, and_true, or_true, true_or, false_or, or_false, false_and, and_false, not_true_eq_false, not_false_eq_true] <;> omega)) (fun q1 q2 => (by first | omega | (simp only [Int32.lt_iff_toInt_lt, Int32.le_iff_toInt_le, Int32.reduceToInt, ← Int32.toInt_inj] at *; omega))) (fun k9 q1 q2 q3 => (by first | omega | (simp only [Int32.lt_iff_toInt_lt, Int32.le_iff_toInt_le, Int32.reduceToInt, ← Int32.toInt_inj] at *; omega))))⟩
                obtain ⟨g_3684, hf_3682, ok_3686, eg_3687⟩ : ∃ g9, f_3681 (q 14) = aI E 2076 g9 ∧ FOK g9 ∧ g9 = upd g_f (v_41 : Int32).toNatClampNeg 0 := ⟨_, hf_3682, (o_f.up (by first | omega | (simp only [Int32.lt_iff_toInt_lt, Int32.le_iff_toInt_le, Int32.reduceToInt, ← Int32.toInt_inj, true_and, and_true, or_true, true_or, false_or, or_false, false_and, and_false, not_true_eq_false, not_false_eq_true] <;> omega)) (fun q1 q2 => (by first | omega | (simp only [Int32.lt_iff_toInt_lt, Int32.le_iff_toInt_le, Int32.reduceToInt, ← Int32.toInt_inj] at *; omega))) (fun k9 q1 q2 q3 => (by first | omega | (simp only [Int32.lt_iff_toInt_lt, Int32.le_iff_toInt_le, Int32.reduceToInt, ← Int32.toInt_inj] at *; omega)))), rfl⟩
                have hf_3688 := (hk_3683 a_0 (ne_kd e_3665 hf_3664 rfl)).trans e_3665
                have fr_3689 := FR.w hk_3683 hf_3664 (k := 2176) rfl
                have lk_3690 := lk_at (g0 := g_f) eg_3687 (by omega) (by omega)
                have ag_3691 := (AG.rf o_f).st eg_3687 (by omega) (by omega)
                try simp only [Int32.reduceToInt] at lk_3690
                refine v_aload_n hC dX12_readLoss_150 rfl ?_
                refine v_get hC fl_X12_34 m_1 hf_3688 rfl dX12_readLoss_151 ?_
                refine v_iload_n hC dX12_readLoss_154 rfl ?_
                refine v_iconst hC dX12_readLoss_155 (v := 1) (by decide) ?_
                obtain ⟨v_3692, h_3693⟩ : ∃ v9 : Int32, v_41 + 1 = v9 := ⟨_, rfl⟩
                refine v_iadd hC dX12_readLoss_156 h_3693 ?_
                have h_3694 := add_v h_3693 (by first | omega | (simp only [Int32.lt_iff_toInt_lt, Int32.le_iff_toInt_le, Int32.reduceToInt, ← Int32.toInt_inj, true_and, and_true, or_true, true_or, false_or, or_false, false_and, and_false, not_true_eq_false, not_false_eq_true] <;> omega)) (by first | omega | (simp only [Int32.lt_iff_toInt_lt, Int32.le_iff_toInt_le, Int32.reduceToInt, ← Int32.toInt_inj, true_and, and_true, or_true, true_or, false_or, or_false, false_and, and_false, not_true_eq_false, not_false_eq_true] <;> omega))
                try simp only [Int32.reduceToInt] at h_3694
                refine v_aload_n hC dX12_readLoss_157 rfl ?_
                refine v_iconst hC dX12_readLoss_158 (v := 0) (by decide) ?_
                refine v_bipush hC dX12_readLoss_159 (v := 15) (by decide) ?_
                refine v_vi hC (rest := [.int v_3692, .ref (q 14)]) m_1 hf_3688 rfl mi_X12_number ms_X12_number (p_X12_number hW_3685 k_0) mx_X12_number ml_X12_170 (by decide) rfl (cells1 := 0) (slots1 := 0) (by decide) (by decide) (Nat.le_of_ble_eq_true rfl) (Nat.le_of_ble_eq_true rfl) rfl (Nat.le_of_ble_eq_true rfl) dX12_readLoss_161 (fun r_3695 L_3696 f_3697 h_3698 => ?_)
                obtain ⟨rfl, hW_3700, hF_3701, -, -, -, -, -, x_3699⟩ := h_3698
                have fe_3702 : fld (f_3681 a_0) 8 = (v_3669 : Int32).toInt := by rw [hf_3688]; rfl
                have fe_3703 : fld (f_3681 a_0) 10 = (v_3671 : Int32).toInt := by rw [hf_3688]; rfl
                have fe_3704 : fld (f_3681 a_0) 12 = (v_3673 : Int32).toInt := by rw [hf_3688]; rfl
                have hf_3705 := hF_3701.at hf_3682 rfl
                obtain ⟨v_3707, v_3708, v_3709, v_3710, v_3711, v_3712, v_3713, v_3714, v_3715, v_3716, v_3717, e_3706, -, -, -, -, -, -, -⟩ := hW_3700.at m_1 t_2
                have fe_3718 : fld (f_3697 a_0) 8 = (v_3710 : Int32).toInt := by rw [e_3706]; rfl
                have fe_3719 : fld (f_3697 a_0) 9 = (v_3711 : Int32).toInt := by rw [e_3706]; rfl
                have fe_3720 : fld (f_3697 a_0) 10 = (v_3712 : Int32).toInt := by rw [e_3706]; rfl
                have fe_3721 : fld (f_3697 a_0) 12 = (v_3714 : Int32).toInt := by rw [e_3706]; rfl
                rw [fe_3721, fe_3704, fe_3703, fe_3702, fe_3719, fe_3718, fe_3720] at x_3699
                clear fe_3702 fe_3703 fe_3704 fe_3718 fe_3719 fe_3720 fe_3721
                try simp only [Int32.reduceToInt, Int64.reduceToInt] at x_3699
                refine v_iast hC m_22 hf_3705 (vp_in_iff.mpr (by first | omega | (simp only [Int32.lt_iff_toInt_lt, Int32.le_iff_toInt_le, Int32.reduceToInt, ← Int32.toInt_inj, true_and, and_true, or_true, true_or, false_or, or_false, false_and, and_false, not_true_eq_false, not_false_eq_true] <;> omega))) dX12_readLoss_164 (fun f_3722 hf_3723 hk_3724 => ?_)
                have hW_3726 := hW_3700.up hf_3723 hk_3724 t_23 ⟨_, rfl, (ok_3686.up (by first | omega | (simp only [Int32.lt_iff_toInt_lt, Int32.le_iff_toInt_le, Int32.reduceToInt, ← Int32.toInt_inj, true_and, and_true, or_true, true_or, false_or, or_false, false_and, and_false, not_true_eq_false, not_false_eq_true] <;> omega)) (fun q1 q2 => (by first | omega | (simp only [Int32.lt_iff_toInt_lt, Int32.le_iff_toInt_le, Int32.reduceToInt, ← Int32.toInt_inj] at *; omega))) (fun k9 q1 q2 q3 => (by first | omega | (simp only [Int32.lt_iff_toInt_lt, Int32.le_iff_toInt_le, Int32.reduceToInt, ← Int32.toInt_inj] at *; omega))))⟩
                obtain ⟨g_3725, hf_3723, ok_3727, eg_3728⟩ : ∃ g9, f_3722 (q 14) = aI E 2076 g9 ∧ FOK g9 ∧ g9 = upd g_3684 (v_3692 : Int32).toNatClampNeg r_3695 := ⟨_, hf_3723, (ok_3686.up (by first | omega | (simp only [Int32.lt_iff_toInt_lt, Int32.le_iff_toInt_le, Int32.reduceToInt, ← Int32.toInt_inj, true_and, and_true, or_true, true_or, false_or, or_false, false_and, and_false, not_true_eq_false, not_false_eq_true] <;> omega)) (fun q1 q2 => (by first | omega | (simp only [Int32.lt_iff_toInt_lt, Int32.le_iff_toInt_le, Int32.reduceToInt, ← Int32.toInt_inj] at *; omega))) (fun k9 q1 q2 q3 => (by first | omega | (simp only [Int32.lt_iff_toInt_lt, Int32.le_iff_toInt_le, Int32.reduceToInt, ← Int32.toInt_inj] at *; omega)))), rfl⟩
                have hf_3729 := (hk_3724 a_0 (ne_kd e_3706 hf_3705 rfl)).trans e_3706
                have fr_3730 := FR.w hk_3724 hf_3705 (k := 2176) rfl
                have lk_3731 := lf_at (g0 := g_f) eg_3728 (by omega) (by omega)
                have ag_3732 := ag_3691.st eg_3728 (by omega) (by omega)
                try simp only [Int32.reduceToInt] at lk_3731
                refine v_aload_n hC dX12_readLoss_165 rfl ?_
                refine v_get hC fl_X12_34 m_1 hf_3729 rfl dX12_readLoss_166 ?_
                refine v_iload_n hC dX12_readLoss_169 rfl ?_
                refine v_iconst hC dX12_readLoss_170 (v := 2) (by decide) ?_
                obtain ⟨v_3733, h_3734⟩ : ∃ v9 : Int32, v_41 + 2 = v9 := ⟨_, rfl⟩
                refine v_iadd hC dX12_readLoss_171 h_3734 ?_
                have h_3735 := add_v h_3734 (by first | omega | (simp only [Int32.lt_iff_toInt_lt, Int32.le_iff_toInt_le, Int32.reduceToInt, ← Int32.toInt_inj, true_and, and_true, or_true, true_or, false_or, or_false, false_and, and_false, not_true_eq_false, not_false_eq_true] <;> omega)) (by first | omega | (simp only [Int32.lt_iff_toInt_lt, Int32.le_iff_toInt_le, Int32.reduceToInt, ← Int32.toInt_inj, true_and, and_true, or_true, true_or, false_or, or_false, false_and, and_false, not_true_eq_false, not_false_eq_true] <;> omega))
                try simp only [Int32.reduceToInt] at h_3735
                refine v_aload_n hC dX12_readLoss_172 rfl ?_
                refine v_ldcwS hC sr_X12_295 dX12_readLoss_173 ?_
                refine v_aload_n hC dX12_readLoss_176 rfl ?_
                refine v_get hC fl_X12_34 m_1 hf_3729 rfl dX12_readLoss_177 ?_
                refine v_iload_n hC dX12_readLoss_180 rfl ?_
                refine v_iconst hC dX12_readLoss_181 (v := 1) (by decide) ?_
                obtain ⟨v_3736, h_3737⟩ : ∃ v9 : Int32, v_41 + 1 = v9 := ⟨_, rfl⟩
                refine v_iadd hC dX12_readLoss_182 h_3737 ?_
                have h_3738 := add_v h_3737 (by first | omega | (simp only [Int32.lt_iff_toInt_lt, Int32.le_iff_toInt_le, Int32.reduceToInt, ← Int32.toInt_inj, true_and, and_true, or_true, true_or, false_or, or_false, false_and, and_false, not_true_eq_false, not_false_eq_true] <;> omega)) (by first | omega | (simp only [Int32.lt_iff_toInt_lt, Int32.le_iff_toInt_le, Int32.reduceToInt, ← Int32.toInt_inj, true_and, and_true, or_true, true_or, false_or, or_false, false_and, and_false, not_true_eq_false, not_false_eq_true] <;> omega))
                try simp only [Int32.reduceToInt] at h_3738
                obtain ⟨v_3739, h_3740⟩ : ∃ v9 : Int32, g_3725 (v_3736 : Int32).toNatClampNeg = v9 := ⟨_, rfl⟩
                refine v_iald hC m_22 hf_3723 (vp_in_iff.mpr (by first | omega | (simp only [Int32.lt_iff_toInt_lt, Int32.le_iff_toInt_le, Int32.reduceToInt, ← Int32.toInt_inj, true_and, and_true, or_true, true_or, false_or, or_false, false_and, and_false, not_true_eq_false, not_false_eq_true] <;> omega))) h_3740 dX12_readLoss_183 ?_
                refine v_bipush hC dX12_readLoss_184 (v := 15) (by decide) ?_
                refine v_vi hC (rest := [.int v_3733, .ref (q 14)]) m_1 hf_3729 rfl mi_X12_told ms_X12_told (p_X12_told hW_3726 k_0 (by decide)) mx_X12_told ml_X12_189 (by decide) rfl (cells1 := 0) (slots1 := 0) (by decide) (by decide) (Nat.le_of_ble_eq_true rfl) (Nat.le_of_ble_eq_true rfl) rfl (Nat.le_of_ble_eq_true rfl) dX12_readLoss_186 (fun r_3741 L_3742 f_3743 h_3744 => ?_)
                obtain ⟨rfl, hW_3746, hF_3747, -, -, -, -, -, x_3745⟩ := h_3744
                have fe_3748 : fld (f_3722 a_0) 8 = (v_3710 : Int32).toInt := by rw [hf_3729]; rfl
                have fe_3749 : fld (f_3722 a_0) 12 = (v_3714 : Int32).toInt := by rw [hf_3729]; rfl
                have hf_3750 := hF_3747.at hf_3723 rfl
                obtain ⟨v_3752, v_3753, v_3754, v_3755, v_3756, v_3757, v_3758, v_3759, v_3760, v_3761, v_3762, e_3751, -, -, -, -, -, -, -⟩ := hW_3746.at m_1 t_2
                have fe_3763 : fld (f_3743 a_0) 8 = (v_3755 : Int32).toInt := by rw [e_3751]; rfl
                have fe_3764 : fld (f_3743 a_0) 9 = (v_3756 : Int32).toInt := by rw [e_3751]; rfl
                have fe_3765 : fld (f_3743 a_0) 10 = (v_3757 : Int32).toInt := by rw [e_3751]; rfl
                have fe_3766 : fld (f_3743 a_0) 12 = (v_3759 : Int32).toInt := by rw [e_3751]; rfl
                rw [fe_3766, fe_3749, fe_3748, fe_3764, fe_3763, fe_3765] at x_3745
                clear fe_3748 fe_3749 fe_3763 fe_3764 fe_3765 fe_3766
                try simp only [Int32.reduceToInt, Int64.reduceToInt] at x_3745
                refine v_iast hC m_22 hf_3750 (vp_in_iff.mpr (by first | omega | (simp only [Int32.lt_iff_toInt_lt, Int32.le_iff_toInt_le, Int32.reduceToInt, ← Int32.toInt_inj, true_and, and_true, or_true, true_or, false_or, or_false, false_and, and_false, not_true_eq_false, not_false_eq_true] <;> omega))) dX12_readLoss_189 (fun f_3767 hf_3768 hk_3769 => ?_)
                have hW_3771 := hW_3746.up hf_3768 hk_3769 t_23 ⟨_, rfl, (ok_3727.up (by first | omega | (simp only [Int32.lt_iff_toInt_lt, Int32.le_iff_toInt_le, Int32.reduceToInt, ← Int32.toInt_inj, true_and, and_true, or_true, true_or, false_or, or_false, false_and, and_false, not_true_eq_false, not_false_eq_true] <;> omega)) (fun q1 q2 => (by first | omega | (simp only [Int32.lt_iff_toInt_lt, Int32.le_iff_toInt_le, Int32.reduceToInt, ← Int32.toInt_inj] at *; omega))) (fun k9 q1 q2 q3 => (by first | omega | (simp only [Int32.lt_iff_toInt_lt, Int32.le_iff_toInt_le, Int32.reduceToInt, ← Int32.toInt_inj] at *; omega))))⟩
                obtain ⟨g_3770, hf_3768, ok_3772, eg_3773⟩ : ∃ g9, f_3767 (q 14) = aI E 2076 g9 ∧ FOK g9 ∧ g9 = upd g_3725 (v_3733 : Int32).toNatClampNeg r_3741 := ⟨_, hf_3768, (ok_3727.up (by first | omega | (simp only [Int32.lt_iff_toInt_lt, Int32.le_iff_toInt_le, Int32.reduceToInt, ← Int32.toInt_inj, true_and, and_true, or_true, true_or, false_or, or_false, false_and, and_false, not_true_eq_false, not_false_eq_true] <;> omega)) (fun q1 q2 => (by first | omega | (simp only [Int32.lt_iff_toInt_lt, Int32.le_iff_toInt_le, Int32.reduceToInt, ← Int32.toInt_inj] at *; omega))) (fun k9 q1 q2 q3 => (by first | omega | (simp only [Int32.lt_iff_toInt_lt, Int32.le_iff_toInt_le, Int32.reduceToInt, ← Int32.toInt_inj] at *; omega)))), rfl⟩
                have hf_3774 := (hk_3769 a_0 (ne_kd e_3751 hf_3750 rfl)).trans e_3751
                have fr_3775 := FR.w hk_3769 hf_3750 (k := 2176) rfl
                have lk_3776 := l2_at (g0 := g_f) eg_3773 (by omega) (by omega)
                have ag_3777 := ag_3732.st eg_3773 (by omega) (by omega)
                try simp only [Int32.reduceToInt] at lk_3776
                refine v_goto hC dX12_readLoss_190 (tgt := 258) (by decide) ?_
                refine v_aload_n hC dX12_readLoss_258 rfl ?_
                refine v_vv hC (rest := []) m_1 hf_3774 rfl mi_X12_ends ms_X12_ends (p_X12_ends hW_3771 k_0) mx_X12_ends ml_X12_178 (by decide) rfl (cells1 := 0) (slots1 := 0) (by decide) (by decide) (Nat.le_of_ble_eq_true rfl) (Nat.le_of_ble_eq_true rfl) rfl (Nat.le_of_ble_eq_true rfl) dX12_readLoss_259 (fun L_3779 f_3780 h_3781 => ?_)
                obtain ⟨rfl, hW_3783, hF_3784, -, -, -, -, x_3782⟩ := h_3781
                have fe_3785 : fld (f_3767 a_0) 8 = (v_3755 : Int32).toInt := by rw [hf_3774]; rfl
                have fe_3786 : fld (f_3767 a_0) 10 = (v_3757 : Int32).toInt := by rw [hf_3774]; rfl
                have fe_3787 : fld (f_3767 a_0) 12 = (v_3759 : Int32).toInt := by rw [hf_3774]; rfl
                have hf_3788 := hF_3784.at hf_3768 rfl
                obtain ⟨v_3790, v_3791, v_3792, v_3793, v_3794, v_3795, v_3796, v_3797, v_3798, v_3799, v_3800, e_3789, -, -, -, -, -, -, -⟩ := hW_3783.at m_1 t_2
                have fe_3801 : fld (f_3780 a_0) 8 = (v_3793 : Int32).toInt := by rw [e_3789]; rfl
                have fe_3802 : fld (f_3780 a_0) 9 = (v_3794 : Int32).toInt := by rw [e_3789]; rfl
                have fe_3803 : fld (f_3780 a_0) 10 = (v_3795 : Int32).toInt := by rw [e_3789]; rfl
                have fe_3804 : fld (f_3780 a_0) 12 = (v_3797 : Int32).toInt := by rw [e_3789]; rfl
                rw [fe_3804, fe_3787, fe_3786, fe_3785, fe_3802, fe_3801, fe_3803] at x_3782
                clear fe_3785 fe_3786 fe_3787 fe_3801 fe_3802 fe_3803 fe_3804
                refine v_aload_n hC dX12_readLoss_262 rfl ?_
                refine v_get hC fl_X12_34 m_1 e_3789 rfl dX12_readLoss_263 ?_
                refine v_bipush hC dX12_readLoss_266 (v := 6) (by decide) ?_
                refine v_dup2 hC dX12_readLoss_268 rfl rfl ?_
                have l6_3805 : (g_3770 6).toInt = (g_f 6).toInt := congrArg Int32.toInt ag_3777.2.1
                refine v_iald hC m_22 hf_3788 (vp_in_iff.mpr (by decide)) (v := g_3770 6) rfl dX12_readLoss_269 ?_
                refine v_iconst hC dX12_readLoss_270 (v := 1) (by decide) ?_
                obtain ⟨v_3806, h_3807⟩ : ∃ v9 : Int32, (g_3770 6) + 1 = v9 := ⟨_, rfl⟩
                refine v_iadd hC dX12_readLoss_271 h_3807 ?_
                have h_3808 := add_v h_3807 (by first | omega | (simp only [Int32.lt_iff_toInt_lt, Int32.le_iff_toInt_le, Int32.reduceToInt, ← Int32.toInt_inj, true_and, and_true, or_true, true_or, false_or, or_false, false_and, and_false, not_true_eq_false, not_false_eq_true] <;> omega)) (by first | omega | (simp only [Int32.lt_iff_toInt_lt, Int32.le_iff_toInt_le, Int32.reduceToInt, ← Int32.toInt_inj, true_and, and_true, or_true, true_or, false_or, or_false, false_and, and_false, not_true_eq_false, not_false_eq_true] <;> omega))
                try simp only [Int32.reduceToInt] at h_3808
                refine v_iast hC m_22 hf_3788 (vp_in_iff.mpr (by decide)) dX12_readLoss_272 (fun f_3809 hf_3810 hk_3811 => ?_)
                have hW_3813 := hW_3783.up hf_3810 hk_3811 t_23 ⟨_, rfl, (ok_3772.up (i := 6) (by decide) (fun q1 q2 => absurd (And.intro q1 q2) (by decide)) (fun k9 q1 q2 q3 => by simp only [Int32.reduceToInt] at q3; omega))⟩
                obtain ⟨g_3812, hf_3810, ok_3814, eg_3815⟩ : ∃ g9, f_3809 (q 14) = aI E 2076 g9 ∧ FOK g9 ∧ g9 = upd g_3770 (6 : Int32).toNatClampNeg v_3806 := ⟨_, hf_3810, (ok_3772.up (i := 6) (by decide) (fun q1 q2 => absurd (And.intro q1 q2) (by decide)) (fun k9 q1 q2 q3 => by simp only [Int32.reduceToInt] at q3; omega)), rfl⟩
                have hf_3816 := (hk_3811 a_0 (ne_kd e_3789 hf_3788 rfl)).trans e_3789
                have fr_3817 := FR.w hk_3811 hf_3788 (k := 2176) rfl
                have ln6_3818 := FOK.n6 ag_3777.1 eg_3815
                have ln6_3818_t : (g_3812 6).toInt = v_3806.toInt := congrArg Int32.toInt ln6_3818.2
                have fe_3819 : fld (f_3809 a_0) 12 = (v_3797 : Int32).toInt := by rw [hf_3816]; rfl
                have fe_3824 : fld (f_3809 a_0) 8 = (v_3793 : Int32).toInt := by rw [hf_3816]; rfl
                have fe_3825 : fld (f_3809 a_0) 12 = (v_3797 : Int32).toInt := by rw [hf_3816]; rfl
                exact hR _ _ _ _ _ _ dX12_readLoss_273 (Nat.le_of_ble_eq_true rfl) (Nat.le_of_ble_eq_true rfl) ⟨rfl, hW_3813, ((((((((((hF_2817.tr hF_2855).tr hF_3661).tr fr_3689).tr hF_3701).tr fr_3730).tr hF_3747).tr fr_3775).tr hF_3784).tr fr_3817).mono rfl), ⟨_, hf_3810, ln6_3818.1, (by omega), (by rw [fe_3819]; by_cases q9 : v_3797.toInt = 0; have gp_3820 := x_3782.resolve_left (fun h9 => h9 q9); clear x_3782; have gp_3821 := x_3745.resolve_left (fun h9 => h9 gp_3820.1); clear x_3745; have gp_3822 := x_3699.resolve_left (fun h9 => h9 gp_3821.1); clear x_3699; have gz_3823 := x_3659.symm.trans gp_3822.1; exact .inr (LO.fin hLO ag_3777 eg_3815 (by omega) (by omega) (fun q8 => by omega)); exact .inl q9)⟩, (by simp only [fe_3824, fe_3825, mz_36, mz_37]; by_cases q9 : (v_3797 : Int32).toInt = 0; have gp_3826 := x_3782.resolve_left (fun h9 => h9 q9); clear x_3782; have gp_3827 := x_3745.resolve_left (fun h9 => h9 gp_3826.1); clear x_3745; have gp_3828 := x_3699.resolve_left (fun h9 => h9 gp_3827.1); clear x_3699; have gz_3829 := x_3659.symm.trans gp_3828.1; (right; omega); exact .inl q9)⟩
            · simp only [Int32.lt_iff_toInt_lt, Int32.le_iff_toInt_le, Int32.reduceToInt, ← Int32.toInt_inj] at h_3494
              refine v_aload_n hC dX12_readLoss_119 rfl ?_
              refine v_iconst hC dX12_readLoss_120 (v := 1) (by decide) ?_
              refine v_vv hC (rest := []) m_1 e_2861 rfl mi_X12_errs ms_X12_errs (p_X12_errs hW_2854 k_0 (by decide)) mx_X12_errs ml_X12_162 (by decide) rfl (cells1 := 0) (slots1 := 0) (by decide) (by decide) (Nat.le_of_ble_eq_true rfl) (Nat.le_of_ble_eq_true rfl) rfl (Nat.le_of_ble_eq_true rfl) dX12_readLoss_121 (fun L_3831 f_3832 h_3833 => ?_)
              obtain ⟨rfl, hW_3836, hF_3837, x_3834, x_3835, -, -, -⟩ := h_3833
              have fe_3838 : fld (f_2849 a_0) 8 = (v_2865 : Int32).toInt := by rw [e_2861]; rfl
              have hf_3839 := hF_3837.at hf_2860 rfl
              obtain ⟨v_3841, v_3842, v_3843, v_3844, v_3845, v_3846, v_3847, v_3848, v_3849, v_3850, v_3851, e_3840, -, -, -, -, -, -, -⟩ := hW_3836.at m_1 t_2
              have fe_3852 : fld (f_3832 a_0) 8 = (v_3844 : Int32).toInt := by rw [e_3840]; rfl
              have fe_3853 : fld (f_3832 a_0) 12 = (v_3848 : Int32).toInt := by rw [e_3840]; rfl
              rw [fe_3853] at x_3834
              rw [fe_3852, fe_3838] at x_3835
              clear x_2853
              clear fe_3838 fe_3852 fe_3853
              refine v_aload_n hC dX12_readLoss_124 rfl ?_
              refine v_vi hC (rest := []) m_1 e_3840 rfl mi_X12_good ms_X12_good (p_X12_good hW_3836 k_0) mx_X12_good ml_X12_139 (by decide) rfl (cells1 := 0) (slots1 := 0) (by decide) (by decide) (Nat.le_of_ble_eq_true rfl) (Nat.le_of_ble_eq_true rfl) rfl (Nat.le_of_ble_eq_true rfl) dX12_readLoss_125 (fun r_3854 L_3855 f_3856 h_3857 => ?_)
              obtain ⟨rfl, rfl, b_3858, x_3859⟩ := h_3857
              have fe_3862 : fld (f_3832 a_0) 12 = (v_3848 : Int32).toInt := by rw [e_3840]; rfl
              rw [fe_3862] at x_3859
              clear fe_3862
              try simp only [Int32.reduceToInt, Int64.reduceToInt] at x_3859
              refine v_if_eq hC dX12_readLoss_128 (tgt := 135) (by decide) (fun h_3863 => ?_) (fun h_3863 => ?_)
              · simp only [Int32.lt_iff_toInt_lt, Int32.le_iff_toInt_le, Int32.reduceToInt, ← Int32.toInt_inj] at h_3863
                have g0_3864 := gd_f x_3859 h_3863
                clear x_3859
                refine v_aload_n hC dX12_readLoss_135 rfl ?_
                refine v_get hC fl_X12_34 m_1 e_3840 rfl dX12_readLoss_136 ?_
                refine v_iload_n hC dX12_readLoss_139 rfl ?_
                refine v_iload_n hC dX12_readLoss_140 rfl ?_
                refine v_if_eq_t hC dX12_readLoss_141 (tgt := 148) (by decide) (by first | omega | (simp only [Int32.lt_iff_toInt_lt, Int32.le_iff_toInt_le, Int32.reduceToInt, ← Int32.toInt_inj, true_and, and_true, or_true, true_or, false_or, or_false, false_and, and_false, not_true_eq_false, not_false_eq_true] <;> omega)) ?_
                refine v_iconst hC dX12_readLoss_148 (v := 0) (by decide) ?_
                refine v_iast hC m_22 hf_3839 (vp_in_iff.mpr (by first | omega | (simp only [Int32.lt_iff_toInt_lt, Int32.le_iff_toInt_le, Int32.reduceToInt, ← Int32.toInt_inj, true_and, and_true, or_true, true_or, false_or, or_false, false_and, and_false, not_true_eq_false, not_false_eq_true] <;> omega))) dX12_readLoss_149 (fun f_3867 hf_3868 hk_3869 => ?_)
                have hW_3871 := hW_3836.up hf_3868 hk_3869 t_23 ⟨_, rfl, (o_f.up (by first | omega | (simp only [Int32.lt_iff_toInt_lt, Int32.le_iff_toInt_le, Int32.reduceToInt, ← Int32.toInt_inj, true_and, and_true, or_true, true_or, false_or, or_false, false_and, and_false, not_true_eq_false, not_false_eq_true] <;> omega)) (fun q1 q2 => (by first | omega | (simp only [Int32.lt_iff_toInt_lt, Int32.le_iff_toInt_le, Int32.reduceToInt, ← Int32.toInt_inj] at *; omega))) (fun k9 q1 q2 q3 => (by first | omega | (simp only [Int32.lt_iff_toInt_lt, Int32.le_iff_toInt_le, Int32.reduceToInt, ← Int32.toInt_inj] at *; omega))))⟩
                obtain ⟨g_3870, hf_3868, ok_3872, eg_3873⟩ : ∃ g9, f_3867 (q 14) = aI E 2076 g9 ∧ FOK g9 ∧ g9 = upd g_f (v_41 : Int32).toNatClampNeg 0 := ⟨_, hf_3868, (o_f.up (by first | omega | (simp only [Int32.lt_iff_toInt_lt, Int32.le_iff_toInt_le, Int32.reduceToInt, ← Int32.toInt_inj, true_and, and_true, or_true, true_or, false_or, or_false, false_and, and_false, not_true_eq_false, not_false_eq_true] <;> omega)) (fun q1 q2 => (by first | omega | (simp only [Int32.lt_iff_toInt_lt, Int32.le_iff_toInt_le, Int32.reduceToInt, ← Int32.toInt_inj] at *; omega))) (fun k9 q1 q2 q3 => (by first | omega | (simp only [Int32.lt_iff_toInt_lt, Int32.le_iff_toInt_le, Int32.reduceToInt, ← Int32.toInt_inj] at *; omega)))), rfl⟩
                have hf_3874 := (hk_3869 a_0 (ne_kd e_3840 hf_3839 rfl)).trans e_3840
                have fr_3875 := FR.w hk_3869 hf_3839 (k := 2176) rfl
                have lk_3876 := lk_at (g0 := g_f) eg_3873 (by omega) (by omega)
                have ag_3877 := (AG.rf o_f).st eg_3873 (by omega) (by omega)
                try simp only [Int32.reduceToInt] at lk_3876
                refine v_aload_n hC dX12_readLoss_150 rfl ?_
                refine v_get hC fl_X12_34 m_1 hf_3874 rfl dX12_readLoss_151 ?_
                refine v_iload_n hC dX12_readLoss_154 rfl ?_
                refine v_iconst hC dX12_readLoss_155 (v := 1) (by decide) ?_
                obtain ⟨v_3878, h_3879⟩ : ∃ v9 : Int32, v_41 + 1 = v9 := ⟨_, rfl⟩
                refine v_iadd hC dX12_readLoss_156 h_3879 ?_
                have h_3880 := add_v h_3879 (by first | omega | (simp only [Int32.lt_iff_toInt_lt, Int32.le_iff_toInt_le, Int32.reduceToInt, ← Int32.toInt_inj, true_and, and_true, or_true, true_or, false_or, or_false, false_and, and_false, not_true_eq_false, not_false_eq_true] <;> omega)) (by first | omega | (simp only [Int32.lt_iff_toInt_lt, Int32.le_iff_toInt_le, Int32.reduceToInt, ← Int32.toInt_inj, true_and, and_true, or_true, true_or, false_or, or_false, false_and, and_false, not_true_eq_false, not_false_eq_true] <;> omega))
                try simp only [Int32.reduceToInt] at h_3880
                refine v_aload_n hC dX12_readLoss_157 rfl ?_
                refine v_iconst hC dX12_readLoss_158 (v := 0) (by decide) ?_
                refine v_bipush hC dX12_readLoss_159 (v := 15) (by decide) ?_
                refine v_vi hC (rest := [.int v_3878, .ref (q 14)]) m_1 hf_3874 rfl mi_X12_number ms_X12_number (p_X12_number hW_3871 k_0) mx_X12_number ml_X12_170 (by decide) rfl (cells1 := 0) (slots1 := 0) (by decide) (by decide) (Nat.le_of_ble_eq_true rfl) (Nat.le_of_ble_eq_true rfl) rfl (Nat.le_of_ble_eq_true rfl) dX12_readLoss_161 (fun r_3881 L_3882 f_3883 h_3884 => ?_)
                obtain ⟨rfl, hW_3886, hF_3887, -, -, -, -, -, x_3885⟩ := h_3884
                have fe_3888 : fld (f_3867 a_0) 8 = (v_3844 : Int32).toInt := by rw [hf_3874]; rfl
                have fe_3889 : fld (f_3867 a_0) 10 = (v_3846 : Int32).toInt := by rw [hf_3874]; rfl
                have fe_3890 : fld (f_3867 a_0) 12 = (v_3848 : Int32).toInt := by rw [hf_3874]; rfl
                have hf_3891 := hF_3887.at hf_3868 rfl
                obtain ⟨v_3893, v_3894, v_3895, v_3896, v_3897, v_3898, v_3899, v_3900, v_3901, v_3902, v_3903, e_3892, -, -, -, -, -, -, -⟩ := hW_3886.at m_1 t_2
                have fe_3904 : fld (f_3883 a_0) 8 = (v_3896 : Int32).toInt := by rw [e_3892]; rfl
                have fe_3905 : fld (f_3883 a_0) 9 = (v_3897 : Int32).toInt := by rw [e_3892]; rfl
                have fe_3906 : fld (f_3883 a_0) 10 = (v_3898 : Int32).toInt := by rw [e_3892]; rfl
                have fe_3907 : fld (f_3883 a_0) 12 = (v_3900 : Int32).toInt := by rw [e_3892]; rfl
                rw [fe_3907, fe_3890, fe_3889, fe_3888, fe_3905, fe_3904, fe_3906] at x_3885
                have nb_3908 : ¬ (v_3900 : Int32).toInt = 0 := x_3885.elim id (fun h9 => absurd h9.1 g0_3864)
                clear x_3885
                clear fe_3888 fe_3889 fe_3890 fe_3904 fe_3905 fe_3906 fe_3907
                try simp only [Int32.reduceToInt, Int64.reduceToInt] at x_3885
                refine v_iast hC m_22 hf_3891 (vp_in_iff.mpr (by first | omega | (simp only [Int32.lt_iff_toInt_lt, Int32.le_iff_toInt_le, Int32.reduceToInt, ← Int32.toInt_inj, true_and, and_true, or_true, true_or, false_or, or_false, false_and, and_false, not_true_eq_false, not_false_eq_true] <;> omega))) dX12_readLoss_164 (fun f_3909 hf_3910 hk_3911 => ?_)
                have hW_3913 := hW_3886.up hf_3910 hk_3911 t_23 ⟨_, rfl, (ok_3872.up (by first | omega | (simp only [Int32.lt_iff_toInt_lt, Int32.le_iff_toInt_le, Int32.reduceToInt, ← Int32.toInt_inj, true_and, and_true, or_true, true_or, false_or, or_false, false_and, and_false, not_true_eq_false, not_false_eq_true] <;> omega)) (fun q1 q2 => (by first | omega | (simp only [Int32.lt_iff_toInt_lt, Int32.le_iff_toInt_le, Int32.reduceToInt, ← Int32.toInt_inj] at *; omega))) (fun k9 q1 q2 q3 => (by first | omega | (simp only [Int32.lt_iff_toInt_lt, Int32.le_iff_toInt_le, Int32.reduceToInt, ← Int32.toInt_inj] at *; omega))))⟩
                obtain ⟨g_3912, hf_3910, ok_3914, eg_3915⟩ : ∃ g9, f_3909 (q 14) = aI E 2076 g9 ∧ FOK g9 ∧ g9 = upd g_3870 (v_3878 : Int32).toNatClampNeg r_3881 := ⟨_, hf_3910, (ok_3872.up (by first | omega | (simp only [Int32.lt_iff_toInt_lt, Int32.le_iff_toInt_le, Int32.reduceToInt, ← Int32.toInt_inj, true_and, and_true, or_true, true_or, false_or, or_false, false_and, and_false, not_true_eq_false, not_false_eq_true] <;> omega)) (fun q1 q2 => (by first | omega | (simp only [Int32.lt_iff_toInt_lt, Int32.le_iff_toInt_le, Int32.reduceToInt, ← Int32.toInt_inj] at *; omega))) (fun k9 q1 q2 q3 => (by first | omega | (simp only [Int32.lt_iff_toInt_lt, Int32.le_iff_toInt_le, Int32.reduceToInt, ← Int32.toInt_inj] at *; omega)))), rfl⟩
                have hf_3916 := (hk_3911 a_0 (ne_kd e_3892 hf_3891 rfl)).trans e_3892
                have fr_3917 := FR.w hk_3911 hf_3891 (k := 2176) rfl
                have lk_3918 := lf_at (g0 := g_f) eg_3915 (by omega) (by omega)
                have ag_3919 := ag_3877.st eg_3915 (by omega) (by omega)
                try simp only [Int32.reduceToInt] at lk_3918
                refine v_aload_n hC dX12_readLoss_165 rfl ?_
                refine v_get hC fl_X12_34 m_1 hf_3916 rfl dX12_readLoss_166 ?_
                refine v_iload_n hC dX12_readLoss_169 rfl ?_
                refine v_iconst hC dX12_readLoss_170 (v := 2) (by decide) ?_
                obtain ⟨v_3920, h_3921⟩ : ∃ v9 : Int32, v_41 + 2 = v9 := ⟨_, rfl⟩
                refine v_iadd hC dX12_readLoss_171 h_3921 ?_
                have h_3922 := add_v h_3921 (by first | omega | (simp only [Int32.lt_iff_toInt_lt, Int32.le_iff_toInt_le, Int32.reduceToInt, ← Int32.toInt_inj, true_and, and_true, or_true, true_or, false_or, or_false, false_and, and_false, not_true_eq_false, not_false_eq_true] <;> omega)) (by first | omega | (simp only [Int32.lt_iff_toInt_lt, Int32.le_iff_toInt_le, Int32.reduceToInt, ← Int32.toInt_inj, true_and, and_true, or_true, true_or, false_or, or_false, false_and, and_false, not_true_eq_false, not_false_eq_true] <;> omega))
                try simp only [Int32.reduceToInt] at h_3922
                refine v_aload_n hC dX12_readLoss_172 rfl ?_
                refine v_ldcwS hC sr_X12_295 dX12_readLoss_173 ?_
                refine v_aload_n hC dX12_readLoss_176 rfl ?_
                refine v_get hC fl_X12_34 m_1 hf_3916 rfl dX12_readLoss_177 ?_
                refine v_iload_n hC dX12_readLoss_180 rfl ?_
                refine v_iconst hC dX12_readLoss_181 (v := 1) (by decide) ?_
                obtain ⟨v_3923, h_3924⟩ : ∃ v9 : Int32, v_41 + 1 = v9 := ⟨_, rfl⟩
                refine v_iadd hC dX12_readLoss_182 h_3924 ?_
                have h_3925 := add_v h_3924 (by first | omega | (simp only [Int32.lt_iff_toInt_lt, Int32.le_iff_toInt_le, Int32.reduceToInt, ← Int32.toInt_inj, true_and, and_true, or_true, true_or, false_or, or_false, false_and, and_false, not_true_eq_false, not_false_eq_true] <;> omega)) (by first | omega | (simp only [Int32.lt_iff_toInt_lt, Int32.le_iff_toInt_le, Int32.reduceToInt, ← Int32.toInt_inj, true_and, and_true, or_true, true_or, false_or, or_false, false_and, and_false, not_true_eq_false, not_false_eq_true] <;> omega))
                try simp only [Int32.reduceToInt] at h_3925
                obtain ⟨v_3926, h_3927⟩ : ∃ v9 : Int32, g_3912 (v_3923 : Int32).toNatClampNeg = v9 := ⟨_, rfl⟩
                refine v_iald hC m_22 hf_3910 (vp_in_iff.mpr (by first | omega | (simp only [Int32.lt_iff_toInt_lt, Int32.le_iff_toInt_le, Int32.reduceToInt, ← Int32.toInt_inj, true_and, and_true, or_true, true_or, false_or, or_false, false_and, and_false, not_true_eq_false, not_false_eq_true] <;> omega))) h_3927 dX12_readLoss_183 ?_
                refine v_bipush hC dX12_readLoss_184 (v := 15) (by decide) ?_
                refine v_vi hC (rest := [.int v_3920, .ref (q 14)]) m_1 hf_3916 rfl mi_X12_told ms_X12_told (p_X12_told hW_3913 k_0 (by decide)) mx_X12_told ml_X12_189 (by decide) rfl (cells1 := 0) (slots1 := 0) (by decide) (by decide) (Nat.le_of_ble_eq_true rfl) (Nat.le_of_ble_eq_true rfl) rfl (Nat.le_of_ble_eq_true rfl) dX12_readLoss_186 (fun r_3928 L_3929 f_3930 h_3931 => ?_)
                obtain ⟨rfl, hW_3933, hF_3934, -, -, -, -, -, x_3932⟩ := h_3931
                have fe_3935 : fld (f_3909 a_0) 8 = (v_3896 : Int32).toInt := by rw [hf_3916]; rfl
                have fe_3936 : fld (f_3909 a_0) 12 = (v_3900 : Int32).toInt := by rw [hf_3916]; rfl
                have hf_3937 := hF_3934.at hf_3910 rfl
                obtain ⟨v_3939, v_3940, v_3941, v_3942, v_3943, v_3944, v_3945, v_3946, v_3947, v_3948, v_3949, e_3938, -, -, -, -, -, -, -⟩ := hW_3933.at m_1 t_2
                have fe_3950 : fld (f_3930 a_0) 8 = (v_3942 : Int32).toInt := by rw [e_3938]; rfl
                have fe_3951 : fld (f_3930 a_0) 9 = (v_3943 : Int32).toInt := by rw [e_3938]; rfl
                have fe_3952 : fld (f_3930 a_0) 10 = (v_3944 : Int32).toInt := by rw [e_3938]; rfl
                have fe_3953 : fld (f_3930 a_0) 12 = (v_3946 : Int32).toInt := by rw [e_3938]; rfl
                rw [fe_3953, fe_3936, fe_3935, fe_3951, fe_3950, fe_3952] at x_3932
                have nb_3954 : ¬ (v_3946 : Int32).toInt = 0 := x_3932.elim id (fun h9 => absurd h9.1 nb_3908)
                clear x_3932
                clear fe_3935 fe_3936 fe_3950 fe_3951 fe_3952 fe_3953
                try simp only [Int32.reduceToInt, Int64.reduceToInt] at x_3932
                refine v_iast hC m_22 hf_3937 (vp_in_iff.mpr (by first | omega | (simp only [Int32.lt_iff_toInt_lt, Int32.le_iff_toInt_le, Int32.reduceToInt, ← Int32.toInt_inj, true_and, and_true, or_true, true_or, false_or, or_false, false_and, and_false, not_true_eq_false, not_false_eq_true] <;> omega))) dX12_readLoss_189 (fun f_3955 hf_3956 hk_3957 => ?_)
                have hW_3959 := hW_3933.up hf_3956 hk_3957 t_23 ⟨_, rfl, (ok_3914.up (by first | omega | (simp only [Int32.lt_iff_toInt_lt, Int32.le_iff_toInt_le, Int32.reduceToInt, ← Int32.toInt_inj, true_and, and_true, or_true, true_or, false_or, or_false, false_and, and_false, not_true_eq_false, not_false_eq_true] <;> omega)) (fun q1 q2 => (by first | omega | (simp only [Int32.lt_iff_toInt_lt, Int32.le_iff_toInt_le, Int32.reduceToInt, ← Int32.toInt_inj] at *; omega))) (fun k9 q1 q2 q3 => (by first | omega | (simp only [Int32.lt_iff_toInt_lt, Int32.le_iff_toInt_le, Int32.reduceToInt, ← Int32.toInt_inj] at *; omega))))⟩
                obtain ⟨g_3958, hf_3956, ok_3960, eg_3961⟩ : ∃ g9, f_3955 (q 14) = aI E 2076 g9 ∧ FOK g9 ∧ g9 = upd g_3912 (v_3920 : Int32).toNatClampNeg r_3928 := ⟨_, hf_3956, (ok_3914.up (by first | omega | (simp only [Int32.lt_iff_toInt_lt, Int32.le_iff_toInt_le, Int32.reduceToInt, ← Int32.toInt_inj, true_and, and_true, or_true, true_or, false_or, or_false, false_and, and_false, not_true_eq_false, not_false_eq_true] <;> omega)) (fun q1 q2 => (by first | omega | (simp only [Int32.lt_iff_toInt_lt, Int32.le_iff_toInt_le, Int32.reduceToInt, ← Int32.toInt_inj] at *; omega))) (fun k9 q1 q2 q3 => (by first | omega | (simp only [Int32.lt_iff_toInt_lt, Int32.le_iff_toInt_le, Int32.reduceToInt, ← Int32.toInt_inj] at *; omega)))), rfl⟩
                have hf_3962 := (hk_3957 a_0 (ne_kd e_3938 hf_3937 rfl)).trans e_3938
                have fr_3963 := FR.w hk_3957 hf_3937 (k := 2176) rfl
                have lk_3964 := l2_at (g0 := g_f) eg_3961 (by omega) (by omega)
                have ag_3965 := ag_3919.st eg_3961 (by omega) (by omega)
                try simp only [Int32.reduceToInt] at lk_3964
                refine v_goto hC dX12_readLoss_190 (tgt := 258) (by decide) ?_
                refine v_aload_n hC dX12_readLoss_258 rfl ?_
                refine v_vv hC (rest := []) m_1 hf_3962 rfl mi_X12_ends ms_X12_ends (p_X12_ends hW_3959 k_0) mx_X12_ends ml_X12_178 (by decide) rfl (cells1 := 0) (slots1 := 0) (by decide) (by decide) (Nat.le_of_ble_eq_true rfl) (Nat.le_of_ble_eq_true rfl) rfl (Nat.le_of_ble_eq_true rfl) dX12_readLoss_259 (fun L_3967 f_3968 h_3969 => ?_)
                obtain ⟨rfl, hW_3971, hF_3972, -, -, -, -, x_3970⟩ := h_3969
                have fe_3973 : fld (f_3955 a_0) 8 = (v_3942 : Int32).toInt := by rw [hf_3962]; rfl
                have fe_3974 : fld (f_3955 a_0) 10 = (v_3944 : Int32).toInt := by rw [hf_3962]; rfl
                have fe_3975 : fld (f_3955 a_0) 12 = (v_3946 : Int32).toInt := by rw [hf_3962]; rfl
                have hf_3976 := hF_3972.at hf_3956 rfl
                obtain ⟨v_3978, v_3979, v_3980, v_3981, v_3982, v_3983, v_3984, v_3985, v_3986, v_3987, v_3988, e_3977, -, -, -, -, -, -, -⟩ := hW_3971.at m_1 t_2
                have fe_3989 : fld (f_3968 a_0) 8 = (v_3981 : Int32).toInt := by rw [e_3977]; rfl
                have fe_3990 : fld (f_3968 a_0) 9 = (v_3982 : Int32).toInt := by rw [e_3977]; rfl
                have fe_3991 : fld (f_3968 a_0) 10 = (v_3983 : Int32).toInt := by rw [e_3977]; rfl
                have fe_3992 : fld (f_3968 a_0) 12 = (v_3985 : Int32).toInt := by rw [e_3977]; rfl
                rw [fe_3992, fe_3975, fe_3974, fe_3973, fe_3990, fe_3989, fe_3991] at x_3970
                have nb_3993 : ¬ (v_3985 : Int32).toInt = 0 := x_3970.elim id (fun h9 => absurd h9.1 nb_3954)
                clear x_3970
                clear fe_3973 fe_3974 fe_3975 fe_3989 fe_3990 fe_3991 fe_3992
                refine v_aload_n hC dX12_readLoss_262 rfl ?_
                refine v_get hC fl_X12_34 m_1 e_3977 rfl dX12_readLoss_263 ?_
                refine v_bipush hC dX12_readLoss_266 (v := 6) (by decide) ?_
                refine v_dup2 hC dX12_readLoss_268 rfl rfl ?_
                have l6_3994 : (g_3958 6).toInt = (g_f 6).toInt := congrArg Int32.toInt ag_3965.2.1
                refine v_iald hC m_22 hf_3976 (vp_in_iff.mpr (by decide)) (v := g_3958 6) rfl dX12_readLoss_269 ?_
                refine v_iconst hC dX12_readLoss_270 (v := 1) (by decide) ?_
                obtain ⟨v_3995, h_3996⟩ : ∃ v9 : Int32, (g_3958 6) + 1 = v9 := ⟨_, rfl⟩
                refine v_iadd hC dX12_readLoss_271 h_3996 ?_
                have h_3997 := add_v h_3996 (by first | omega | (simp only [Int32.lt_iff_toInt_lt, Int32.le_iff_toInt_le, Int32.reduceToInt, ← Int32.toInt_inj, true_and, and_true, or_true, true_or, false_or, or_false, false_and, and_false, not_true_eq_false, not_false_eq_true] <;> omega)) (by first | omega | (simp only [Int32.lt_iff_toInt_lt, Int32.le_iff_toInt_le, Int32.reduceToInt, ← Int32.toInt_inj, true_and, and_true, or_true, true_or, false_or, or_false, false_and, and_false, not_true_eq_false, not_false_eq_true] <;> omega))
                try simp only [Int32.reduceToInt] at h_3997
                refine v_iast hC m_22 hf_3976 (vp_in_iff.mpr (by decide)) dX12_readLoss_272 (fun f_3998 hf_3999 hk_4000 => ?_)
                have hW_4002 := hW_3971.up hf_3999 hk_4000 t_23 ⟨_, rfl, (ok_3960.up (i := 6) (by decide) (fun q1 q2 => absurd (And.intro q1 q2) (by decide)) (fun k9 q1 q2 q3 => by simp only [Int32.reduceToInt] at q3; omega))⟩
                obtain ⟨g_4001, hf_3999, ok_4003, eg_4004⟩ : ∃ g9, f_3998 (q 14) = aI E 2076 g9 ∧ FOK g9 ∧ g9 = upd g_3958 (6 : Int32).toNatClampNeg v_3995 := ⟨_, hf_3999, (ok_3960.up (i := 6) (by decide) (fun q1 q2 => absurd (And.intro q1 q2) (by decide)) (fun k9 q1 q2 q3 => by simp only [Int32.reduceToInt] at q3; omega)), rfl⟩
                have hf_4005 := (hk_4000 a_0 (ne_kd e_3977 hf_3976 rfl)).trans e_3977
                have fr_4006 := FR.w hk_4000 hf_3976 (k := 2176) rfl
                have ln6_4007 := FOK.n6 ag_3965.1 eg_4004
                have ln6_4007_t : (g_4001 6).toInt = v_3995.toInt := congrArg Int32.toInt ln6_4007.2
                have fe_4008 : fld (f_3998 a_0) 12 = (v_3985 : Int32).toInt := by rw [hf_4005]; rfl
                have fe_4009 : fld (f_3998 a_0) 8 = (v_3981 : Int32).toInt := by rw [hf_4005]; rfl
                have fe_4010 : fld (f_3998 a_0) 12 = (v_3985 : Int32).toInt := by rw [hf_4005]; rfl
                exact hR _ _ _ _ _ _ dX12_readLoss_273 (Nat.le_of_ble_eq_true rfl) (Nat.le_of_ble_eq_true rfl) ⟨rfl, hW_4002, ((((((((((hF_2817.tr hF_2855).tr hF_3837).tr fr_3875).tr hF_3887).tr fr_3917).tr hF_3934).tr fr_3963).tr hF_3972).tr fr_4006).mono rfl), ⟨_, hf_3999, ln6_4007.1, (by omega), (by rw [fe_4008]; exact .inl nb_3993)⟩, (by simp only [fe_4009, fe_4010, mz_36, mz_37]; exact .inl nb_3993)⟩
              · simp only [Int32.lt_iff_toInt_lt, Int32.le_iff_toInt_le, Int32.reduceToInt, ← Int32.toInt_inj] at h_3863
                have nb_3865 : (1 ≤ r_3854.toInt ∧ r_3854.toInt ≤ 1) := by omega
                have g0_3866 := gd_t x_3859 h_3863
                clear x_3859
                refine v_aload_n hC dX12_readLoss_131 rfl ?_
                refine v_vv hC (rest := []) m_1 e_3840 rfl mi_X12_advance ms_X12_advance (p_X12_advance hW_3836 k_0) mx_X12_advance ml_X12_156 (by decide) rfl (cells1 := 0) (slots1 := 0) (by decide) (by decide) (Nat.le_of_ble_eq_true rfl) (Nat.le_of_ble_eq_true rfl) rfl (Nat.le_of_ble_eq_true rfl) dX12_readLoss_132 (fun L_4012 f_4013 h_4014 => ?_)
                obtain ⟨rfl, hW_4018, hF_4019, x_4015, x_4016, x_4017, -⟩ := h_4014
                have fe_4020 : fld (f_3832 a_0) 8 = (v_3844 : Int32).toInt := by rw [e_3840]; rfl
                have fe_4021 : fld (f_3832 a_0) 12 = (v_3848 : Int32).toInt := by rw [e_3840]; rfl
                have hf_4022 := hF_4019.at hf_3839 rfl
                obtain ⟨v_4024, v_4025, v_4026, v_4027, v_4028, v_4029, v_4030, v_4031, v_4032, v_4033, v_4034, e_4023, -, -, -, -, -, -, -⟩ := hW_4018.at m_1 t_2
                have fe_4035 : fld (f_4013 a_0) 8 = (v_4027 : Int32).toInt := by rw [e_4023]; rfl
                have fe_4036 : fld (f_4013 a_0) 9 = (v_4028 : Int32).toInt := by rw [e_4023]; rfl
                have fe_4037 : fld (f_4013 a_0) 10 = (v_4029 : Int32).toInt := by rw [e_4023]; rfl
                have fe_4038 : fld (f_4013 a_0) 12 = (v_4031 : Int32).toInt := by rw [e_4023]; rfl
                rw [fe_4020, fe_4036, fe_4035] at x_4015
                rw [fe_4037, fe_4036, fe_4035] at x_4016
                rw [fe_4038, fe_4021] at x_4017
                clear fe_4020 fe_4021 fe_4035 fe_4036 fe_4037 fe_4038
                refine v_aload_n hC dX12_readLoss_135 rfl ?_
                refine v_get hC fl_X12_34 m_1 e_4023 rfl dX12_readLoss_136 ?_
                refine v_iload_n hC dX12_readLoss_139 rfl ?_
                refine v_iload_n hC dX12_readLoss_140 rfl ?_
                refine v_if_eq_t hC dX12_readLoss_141 (tgt := 148) (by decide) (by first | omega | (simp only [Int32.lt_iff_toInt_lt, Int32.le_iff_toInt_le, Int32.reduceToInt, ← Int32.toInt_inj, true_and, and_true, or_true, true_or, false_or, or_false, false_and, and_false, not_true_eq_false, not_false_eq_true] <;> omega)) ?_
                refine v_iconst hC dX12_readLoss_148 (v := 0) (by decide) ?_
                refine v_iast hC m_22 hf_4022 (vp_in_iff.mpr (by first | omega | (simp only [Int32.lt_iff_toInt_lt, Int32.le_iff_toInt_le, Int32.reduceToInt, ← Int32.toInt_inj, true_and, and_true, or_true, true_or, false_or, or_false, false_and, and_false, not_true_eq_false, not_false_eq_true] <;> omega))) dX12_readLoss_149 (fun f_4039 hf_4040 hk_4041 => ?_)
                have hW_4043 := hW_4018.up hf_4040 hk_4041 t_23 ⟨_, rfl, (o_f.up (by first | omega | (simp only [Int32.lt_iff_toInt_lt, Int32.le_iff_toInt_le, Int32.reduceToInt, ← Int32.toInt_inj, true_and, and_true, or_true, true_or, false_or, or_false, false_and, and_false, not_true_eq_false, not_false_eq_true] <;> omega)) (fun q1 q2 => (by first | omega | (simp only [Int32.lt_iff_toInt_lt, Int32.le_iff_toInt_le, Int32.reduceToInt, ← Int32.toInt_inj] at *; omega))) (fun k9 q1 q2 q3 => (by first | omega | (simp only [Int32.lt_iff_toInt_lt, Int32.le_iff_toInt_le, Int32.reduceToInt, ← Int32.toInt_inj] at *; omega))))⟩
                obtain ⟨g_4042, hf_4040, ok_4044, eg_4045⟩ : ∃ g9, f_4039 (q 14) = aI E 2076 g9 ∧ FOK g9 ∧ g9 = upd g_f (v_41 : Int32).toNatClampNeg 0 := ⟨_, hf_4040, (o_f.up (by first | omega | (simp only [Int32.lt_iff_toInt_lt, Int32.le_iff_toInt_le, Int32.reduceToInt, ← Int32.toInt_inj, true_and, and_true, or_true, true_or, false_or, or_false, false_and, and_false, not_true_eq_false, not_false_eq_true] <;> omega)) (fun q1 q2 => (by first | omega | (simp only [Int32.lt_iff_toInt_lt, Int32.le_iff_toInt_le, Int32.reduceToInt, ← Int32.toInt_inj] at *; omega))) (fun k9 q1 q2 q3 => (by first | omega | (simp only [Int32.lt_iff_toInt_lt, Int32.le_iff_toInt_le, Int32.reduceToInt, ← Int32.toInt_inj] at *; omega)))), rfl⟩
                have hf_4046 := (hk_4041 a_0 (ne_kd e_4023 hf_4022 rfl)).trans e_4023
                have fr_4047 := FR.w hk_4041 hf_4022 (k := 2176) rfl
                have lk_4048 := lk_at (g0 := g_f) eg_4045 (by omega) (by omega)
                have ag_4049 := (AG.rf o_f).st eg_4045 (by omega) (by omega)
                try simp only [Int32.reduceToInt] at lk_4048
                refine v_aload_n hC dX12_readLoss_150 rfl ?_
                refine v_get hC fl_X12_34 m_1 hf_4046 rfl dX12_readLoss_151 ?_
                refine v_iload_n hC dX12_readLoss_154 rfl ?_
                refine v_iconst hC dX12_readLoss_155 (v := 1) (by decide) ?_
                obtain ⟨v_4050, h_4051⟩ : ∃ v9 : Int32, v_41 + 1 = v9 := ⟨_, rfl⟩
                refine v_iadd hC dX12_readLoss_156 h_4051 ?_
                have h_4052 := add_v h_4051 (by first | omega | (simp only [Int32.lt_iff_toInt_lt, Int32.le_iff_toInt_le, Int32.reduceToInt, ← Int32.toInt_inj, true_and, and_true, or_true, true_or, false_or, or_false, false_and, and_false, not_true_eq_false, not_false_eq_true] <;> omega)) (by first | omega | (simp only [Int32.lt_iff_toInt_lt, Int32.le_iff_toInt_le, Int32.reduceToInt, ← Int32.toInt_inj, true_and, and_true, or_true, true_or, false_or, or_false, false_and, and_false, not_true_eq_false, not_false_eq_true] <;> omega))
                try simp only [Int32.reduceToInt] at h_4052
                refine v_aload_n hC dX12_readLoss_157 rfl ?_
                refine v_iconst hC dX12_readLoss_158 (v := 0) (by decide) ?_
                refine v_bipush hC dX12_readLoss_159 (v := 15) (by decide) ?_
                refine v_vi hC (rest := [.int v_4050, .ref (q 14)]) m_1 hf_4046 rfl mi_X12_number ms_X12_number (p_X12_number hW_4043 k_0) mx_X12_number ml_X12_170 (by decide) rfl (cells1 := 0) (slots1 := 0) (by decide) (by decide) (Nat.le_of_ble_eq_true rfl) (Nat.le_of_ble_eq_true rfl) rfl (Nat.le_of_ble_eq_true rfl) dX12_readLoss_161 (fun r_4053 L_4054 f_4055 h_4056 => ?_)
                obtain ⟨rfl, hW_4058, hF_4059, -, -, -, -, -, x_4057⟩ := h_4056
                have fe_4060 : fld (f_4039 a_0) 8 = (v_4027 : Int32).toInt := by rw [hf_4046]; rfl
                have fe_4061 : fld (f_4039 a_0) 10 = (v_4029 : Int32).toInt := by rw [hf_4046]; rfl
                have fe_4062 : fld (f_4039 a_0) 12 = (v_4031 : Int32).toInt := by rw [hf_4046]; rfl
                have hf_4063 := hF_4059.at hf_4040 rfl
                obtain ⟨v_4065, v_4066, v_4067, v_4068, v_4069, v_4070, v_4071, v_4072, v_4073, v_4074, v_4075, e_4064, -, -, -, -, -, -, -⟩ := hW_4058.at m_1 t_2
                have fe_4076 : fld (f_4055 a_0) 8 = (v_4068 : Int32).toInt := by rw [e_4064]; rfl
                have fe_4077 : fld (f_4055 a_0) 9 = (v_4069 : Int32).toInt := by rw [e_4064]; rfl
                have fe_4078 : fld (f_4055 a_0) 10 = (v_4070 : Int32).toInt := by rw [e_4064]; rfl
                have fe_4079 : fld (f_4055 a_0) 12 = (v_4072 : Int32).toInt := by rw [e_4064]; rfl
                rw [fe_4079, fe_4062, fe_4061, fe_4060, fe_4077, fe_4076, fe_4078] at x_4057
                clear fe_4060 fe_4061 fe_4062 fe_4076 fe_4077 fe_4078 fe_4079
                try simp only [Int32.reduceToInt, Int64.reduceToInt] at x_4057
                refine v_iast hC m_22 hf_4063 (vp_in_iff.mpr (by first | omega | (simp only [Int32.lt_iff_toInt_lt, Int32.le_iff_toInt_le, Int32.reduceToInt, ← Int32.toInt_inj, true_and, and_true, or_true, true_or, false_or, or_false, false_and, and_false, not_true_eq_false, not_false_eq_true] <;> omega))) dX12_readLoss_164 (fun f_4080 hf_4081 hk_4082 => ?_)
                have hW_4084 := hW_4058.up hf_4081 hk_4082 t_23 ⟨_, rfl, (ok_4044.up (by first | omega | (simp only [Int32.lt_iff_toInt_lt, Int32.le_iff_toInt_le, Int32.reduceToInt, ← Int32.toInt_inj, true_and, and_true, or_true, true_or, false_or, or_false, false_and, and_false, not_true_eq_false, not_false_eq_true] <;> omega)) (fun q1 q2 => (by first | omega | (simp only [Int32.lt_iff_toInt_lt, Int32.le_iff_toInt_le, Int32.reduceToInt, ← Int32.toInt_inj] at *; omega))) (fun k9 q1 q2 q3 => (by first | omega | (simp only [Int32.lt_iff_toInt_lt, Int32.le_iff_toInt_le, Int32.reduceToInt, ← Int32.toInt_inj] at *; omega))))⟩
                obtain ⟨g_4083, hf_4081, ok_4085, eg_4086⟩ : ∃ g9, f_4080 (q 14) = aI E 2076 g9 ∧ FOK g9 ∧ g9 = upd g_4042 (v_4050 : Int32).toNatClampNeg r_4053 := ⟨_, hf_4081, (ok_4044.up (by first | omega | (simp only [Int32.lt_iff_toInt_lt, Int32.le_iff_toInt_le, Int32.reduceToInt, ← Int32.toInt_inj, true_and, and_true, or_true, true_or, false_or, or_false, false_and, and_false, not_true_eq_false, not_false_eq_true] <;> omega)) (fun q1 q2 => (by first | omega | (simp only [Int32.lt_iff_toInt_lt, Int32.le_iff_toInt_le, Int32.reduceToInt, ← Int32.toInt_inj] at *; omega))) (fun k9 q1 q2 q3 => (by first | omega | (simp only [Int32.lt_iff_toInt_lt, Int32.le_iff_toInt_le, Int32.reduceToInt, ← Int32.toInt_inj] at *; omega)))), rfl⟩
                have hf_4087 := (hk_4082 a_0 (ne_kd e_4064 hf_4063 rfl)).trans e_4064
                have fr_4088 := FR.w hk_4082 hf_4063 (k := 2176) rfl
                have lk_4089 := lf_at (g0 := g_f) eg_4086 (by omega) (by omega)
                have ag_4090 := ag_4049.st eg_4086 (by omega) (by omega)
                try simp only [Int32.reduceToInt] at lk_4089
                refine v_aload_n hC dX12_readLoss_165 rfl ?_
                refine v_get hC fl_X12_34 m_1 hf_4087 rfl dX12_readLoss_166 ?_
                refine v_iload_n hC dX12_readLoss_169 rfl ?_
                refine v_iconst hC dX12_readLoss_170 (v := 2) (by decide) ?_
                obtain ⟨v_4091, h_4092⟩ : ∃ v9 : Int32, v_41 + 2 = v9 := ⟨_, rfl⟩
                refine v_iadd hC dX12_readLoss_171 h_4092 ?_
                have h_4093 := add_v h_4092 (by first | omega | (simp only [Int32.lt_iff_toInt_lt, Int32.le_iff_toInt_le, Int32.reduceToInt, ← Int32.toInt_inj, true_and, and_true, or_true, true_or, false_or, or_false, false_and, and_false, not_true_eq_false, not_false_eq_true] <;> omega)) (by first | omega | (simp only [Int32.lt_iff_toInt_lt, Int32.le_iff_toInt_le, Int32.reduceToInt, ← Int32.toInt_inj, true_and, and_true, or_true, true_or, false_or, or_false, false_and, and_false, not_true_eq_false, not_false_eq_true] <;> omega))
                try simp only [Int32.reduceToInt] at h_4093
                refine v_aload_n hC dX12_readLoss_172 rfl ?_
                refine v_ldcwS hC sr_X12_295 dX12_readLoss_173 ?_
                refine v_aload_n hC dX12_readLoss_176 rfl ?_
                refine v_get hC fl_X12_34 m_1 hf_4087 rfl dX12_readLoss_177 ?_
                refine v_iload_n hC dX12_readLoss_180 rfl ?_
                refine v_iconst hC dX12_readLoss_181 (v := 1) (by decide) ?_
                obtain ⟨v_4094, h_4095⟩ : ∃ v9 : Int32, v_41 + 1 = v9 := ⟨_, rfl⟩
                refine v_iadd hC dX12_readLoss_182 h_4095 ?_
                have h_4096 := add_v h_4095 (by first | omega | (simp only [Int32.lt_iff_toInt_lt, Int32.le_iff_toInt_le, Int32.reduceToInt, ← Int32.toInt_inj, true_and, and_true, or_true, true_or, false_or, or_false, false_and, and_false, not_true_eq_false, not_false_eq_true] <;> omega)) (by first | omega | (simp only [Int32.lt_iff_toInt_lt, Int32.le_iff_toInt_le, Int32.reduceToInt, ← Int32.toInt_inj, true_and, and_true, or_true, true_or, false_or, or_false, false_and, and_false, not_true_eq_false, not_false_eq_true] <;> omega))
                try simp only [Int32.reduceToInt] at h_4096
                obtain ⟨v_4097, h_4098⟩ : ∃ v9 : Int32, g_4083 (v_4094 : Int32).toNatClampNeg = v9 := ⟨_, rfl⟩
                refine v_iald hC m_22 hf_4081 (vp_in_iff.mpr (by first | omega | (simp only [Int32.lt_iff_toInt_lt, Int32.le_iff_toInt_le, Int32.reduceToInt, ← Int32.toInt_inj, true_and, and_true, or_true, true_or, false_or, or_false, false_and, and_false, not_true_eq_false, not_false_eq_true] <;> omega))) h_4098 dX12_readLoss_183 ?_
                refine v_bipush hC dX12_readLoss_184 (v := 15) (by decide) ?_
                refine v_vi hC (rest := [.int v_4091, .ref (q 14)]) m_1 hf_4087 rfl mi_X12_told ms_X12_told (p_X12_told hW_4084 k_0 (by decide)) mx_X12_told ml_X12_189 (by decide) rfl (cells1 := 0) (slots1 := 0) (by decide) (by decide) (Nat.le_of_ble_eq_true rfl) (Nat.le_of_ble_eq_true rfl) rfl (Nat.le_of_ble_eq_true rfl) dX12_readLoss_186 (fun r_4099 L_4100 f_4101 h_4102 => ?_)
                obtain ⟨rfl, hW_4104, hF_4105, -, -, -, -, -, x_4103⟩ := h_4102
                have fe_4106 : fld (f_4080 a_0) 8 = (v_4068 : Int32).toInt := by rw [hf_4087]; rfl
                have fe_4107 : fld (f_4080 a_0) 12 = (v_4072 : Int32).toInt := by rw [hf_4087]; rfl
                have hf_4108 := hF_4105.at hf_4081 rfl
                obtain ⟨v_4110, v_4111, v_4112, v_4113, v_4114, v_4115, v_4116, v_4117, v_4118, v_4119, v_4120, e_4109, -, -, -, -, -, -, -⟩ := hW_4104.at m_1 t_2
                have fe_4121 : fld (f_4101 a_0) 8 = (v_4113 : Int32).toInt := by rw [e_4109]; rfl
                have fe_4122 : fld (f_4101 a_0) 9 = (v_4114 : Int32).toInt := by rw [e_4109]; rfl
                have fe_4123 : fld (f_4101 a_0) 10 = (v_4115 : Int32).toInt := by rw [e_4109]; rfl
                have fe_4124 : fld (f_4101 a_0) 12 = (v_4117 : Int32).toInt := by rw [e_4109]; rfl
                rw [fe_4124, fe_4107, fe_4106, fe_4122, fe_4121, fe_4123] at x_4103
                clear fe_4106 fe_4107 fe_4121 fe_4122 fe_4123 fe_4124
                try simp only [Int32.reduceToInt, Int64.reduceToInt] at x_4103
                refine v_iast hC m_22 hf_4108 (vp_in_iff.mpr (by first | omega | (simp only [Int32.lt_iff_toInt_lt, Int32.le_iff_toInt_le, Int32.reduceToInt, ← Int32.toInt_inj, true_and, and_true, or_true, true_or, false_or, or_false, false_and, and_false, not_true_eq_false, not_false_eq_true] <;> omega))) dX12_readLoss_189 (fun f_4125 hf_4126 hk_4127 => ?_)
                have hW_4129 := hW_4104.up hf_4126 hk_4127 t_23 ⟨_, rfl, (ok_4085.up (by first | omega | (simp only [Int32.lt_iff_toInt_lt, Int32.le_iff_toInt_le, Int32.reduceToInt, ← Int32.toInt_inj, true_and, and_true, or_true, true_or, false_or, or_false, false_and, and_false, not_true_eq_false, not_false_eq_true] <;> omega)) (fun q1 q2 => (by first | omega | (simp only [Int32.lt_iff_toInt_lt, Int32.le_iff_toInt_le, Int32.reduceToInt, ← Int32.toInt_inj] at *; omega))) (fun k9 q1 q2 q3 => (by first | omega | (simp only [Int32.lt_iff_toInt_lt, Int32.le_iff_toInt_le, Int32.reduceToInt, ← Int32.toInt_inj] at *; omega))))⟩
                obtain ⟨g_4128, hf_4126, ok_4130, eg_4131⟩ : ∃ g9, f_4125 (q 14) = aI E 2076 g9 ∧ FOK g9 ∧ g9 = upd g_4083 (v_4091 : Int32).toNatClampNeg r_4099 := ⟨_, hf_4126, (ok_4085.up (by first | omega | (simp only [Int32.lt_iff_toInt_lt, Int32.le_iff_toInt_le, Int32.reduceToInt, ← Int32.toInt_inj, true_and, and_true, or_true, true_or, false_or, or_false, false_and, and_false, not_true_eq_false, not_false_eq_true] <;> omega)) (fun q1 q2 => (by first | omega | (simp only [Int32.lt_iff_toInt_lt, Int32.le_iff_toInt_le, Int32.reduceToInt, ← Int32.toInt_inj] at *; omega))) (fun k9 q1 q2 q3 => (by first | omega | (simp only [Int32.lt_iff_toInt_lt, Int32.le_iff_toInt_le, Int32.reduceToInt, ← Int32.toInt_inj] at *; omega)))), rfl⟩
                have hf_4132 := (hk_4127 a_0 (ne_kd e_4109 hf_4108 rfl)).trans e_4109
                have fr_4133 := FR.w hk_4127 hf_4108 (k := 2176) rfl
                have lk_4134 := l2_at (g0 := g_f) eg_4131 (by omega) (by omega)
                have ag_4135 := ag_4090.st eg_4131 (by omega) (by omega)
                try simp only [Int32.reduceToInt] at lk_4134
                refine v_goto hC dX12_readLoss_190 (tgt := 258) (by decide) ?_
                refine v_aload_n hC dX12_readLoss_258 rfl ?_
                refine v_vv hC (rest := []) m_1 hf_4132 rfl mi_X12_ends ms_X12_ends (p_X12_ends hW_4129 k_0) mx_X12_ends ml_X12_178 (by decide) rfl (cells1 := 0) (slots1 := 0) (by decide) (by decide) (Nat.le_of_ble_eq_true rfl) (Nat.le_of_ble_eq_true rfl) rfl (Nat.le_of_ble_eq_true rfl) dX12_readLoss_259 (fun L_4137 f_4138 h_4139 => ?_)
                obtain ⟨rfl, hW_4141, hF_4142, -, -, -, -, x_4140⟩ := h_4139
                have fe_4143 : fld (f_4125 a_0) 8 = (v_4113 : Int32).toInt := by rw [hf_4132]; rfl
                have fe_4144 : fld (f_4125 a_0) 10 = (v_4115 : Int32).toInt := by rw [hf_4132]; rfl
                have fe_4145 : fld (f_4125 a_0) 12 = (v_4117 : Int32).toInt := by rw [hf_4132]; rfl
                have hf_4146 := hF_4142.at hf_4126 rfl
                obtain ⟨v_4148, v_4149, v_4150, v_4151, v_4152, v_4153, v_4154, v_4155, v_4156, v_4157, v_4158, e_4147, -, -, -, -, -, -, -⟩ := hW_4141.at m_1 t_2
                have fe_4159 : fld (f_4138 a_0) 8 = (v_4151 : Int32).toInt := by rw [e_4147]; rfl
                have fe_4160 : fld (f_4138 a_0) 9 = (v_4152 : Int32).toInt := by rw [e_4147]; rfl
                have fe_4161 : fld (f_4138 a_0) 10 = (v_4153 : Int32).toInt := by rw [e_4147]; rfl
                have fe_4162 : fld (f_4138 a_0) 12 = (v_4155 : Int32).toInt := by rw [e_4147]; rfl
                rw [fe_4162, fe_4145, fe_4144, fe_4143, fe_4160, fe_4159, fe_4161] at x_4140
                clear fe_4143 fe_4144 fe_4145 fe_4159 fe_4160 fe_4161 fe_4162
                refine v_aload_n hC dX12_readLoss_262 rfl ?_
                refine v_get hC fl_X12_34 m_1 e_4147 rfl dX12_readLoss_263 ?_
                refine v_bipush hC dX12_readLoss_266 (v := 6) (by decide) ?_
                refine v_dup2 hC dX12_readLoss_268 rfl rfl ?_
                have l6_4163 : (g_4128 6).toInt = (g_f 6).toInt := congrArg Int32.toInt ag_4135.2.1
                refine v_iald hC m_22 hf_4146 (vp_in_iff.mpr (by decide)) (v := g_4128 6) rfl dX12_readLoss_269 ?_
                refine v_iconst hC dX12_readLoss_270 (v := 1) (by decide) ?_
                obtain ⟨v_4164, h_4165⟩ : ∃ v9 : Int32, (g_4128 6) + 1 = v9 := ⟨_, rfl⟩
                refine v_iadd hC dX12_readLoss_271 h_4165 ?_
                have h_4166 := add_v h_4165 (by first | omega | (simp only [Int32.lt_iff_toInt_lt, Int32.le_iff_toInt_le, Int32.reduceToInt, ← Int32.toInt_inj, true_and, and_true, or_true, true_or, false_or, or_false, false_and, and_false, not_true_eq_false, not_false_eq_true] <;> omega)) (by first | omega | (simp only [Int32.lt_iff_toInt_lt, Int32.le_iff_toInt_le, Int32.reduceToInt, ← Int32.toInt_inj, true_and, and_true, or_true, true_or, false_or, or_false, false_and, and_false, not_true_eq_false, not_false_eq_true] <;> omega))
                try simp only [Int32.reduceToInt] at h_4166
                refine v_iast hC m_22 hf_4146 (vp_in_iff.mpr (by decide)) dX12_readLoss_272 (fun f_4167 hf_4168 hk_4169 => ?_)
                have hW_4171 := hW_4141.up hf_4168 hk_4169 t_23 ⟨_, rfl, (ok_4130.up (i := 6) (by decide) (fun q1 q2 => absurd (And.intro q1 q2) (by decide)) (fun k9 q1 q2 q3 => by simp only [Int32.reduceToInt] at q3; omega))⟩
                obtain ⟨g_4170, hf_4168, ok_4172, eg_4173⟩ : ∃ g9, f_4167 (q 14) = aI E 2076 g9 ∧ FOK g9 ∧ g9 = upd g_4128 (6 : Int32).toNatClampNeg v_4164 := ⟨_, hf_4168, (ok_4130.up (i := 6) (by decide) (fun q1 q2 => absurd (And.intro q1 q2) (by decide)) (fun k9 q1 q2 q3 => by simp only [Int32.reduceToInt] at q3; omega)), rfl⟩
                have hf_4174 := (hk_4169 a_0 (ne_kd e_4147 hf_4146 rfl)).trans e_4147
                have fr_4175 := FR.w hk_4169 hf_4146 (k := 2176) rfl
                have ln6_4176 := FOK.n6 ag_4135.1 eg_4173
                have ln6_4176_t : (g_4170 6).toInt = v_4164.toInt := congrArg Int32.toInt ln6_4176.2
                have fe_4177 : fld (f_4167 a_0) 12 = (v_4155 : Int32).toInt := by rw [hf_4174]; rfl
                have fe_4182 : fld (f_4167 a_0) 8 = (v_4151 : Int32).toInt := by rw [hf_4174]; rfl
                have fe_4183 : fld (f_4167 a_0) 12 = (v_4155 : Int32).toInt := by rw [hf_4174]; rfl
                exact hR _ _ _ _ _ _ dX12_readLoss_273 (Nat.le_of_ble_eq_true rfl) (Nat.le_of_ble_eq_true rfl) ⟨rfl, hW_4171, (((((((((((hF_2817.tr hF_2855).tr hF_3837).tr hF_4019).tr fr_4047).tr hF_4059).tr fr_4088).tr hF_4105).tr fr_4133).tr hF_4142).tr fr_4175).mono rfl), ⟨_, hf_4168, ln6_4176.1, (by omega), (by rw [fe_4177]; by_cases q9 : v_4155.toInt = 0; have gp_4178 := x_4140.resolve_left (fun h9 => h9 q9); clear x_4140; have gp_4179 := x_4103.resolve_left (fun h9 => h9 gp_4178.1); clear x_4103; have gp_4180 := x_4057.resolve_left (fun h9 => h9 gp_4179.1); clear x_4057; have gz_4181 := x_4017.symm.trans gp_4180.1; exact .inr (LO.fin hLO ag_4135 eg_4173 (by omega) (by omega) (fun q8 => by omega)); exact .inl q9)⟩, (by simp only [fe_4182, fe_4183, mz_36, mz_37]; by_cases q9 : (v_4155 : Int32).toInt = 0; have gp_4184 := x_4140.resolve_left (fun h9 => h9 q9); clear x_4140; have gp_4185 := x_4103.resolve_left (fun h9 => h9 gp_4184.1); clear x_4103; have gp_4186 := x_4057.resolve_left (fun h9 => h9 gp_4185.1); clear x_4057; have gz_4187 := x_4017.symm.trans gp_4186.1; (right; omega); exact .inl q9)⟩
      · simp only [Int32.lt_iff_toInt_lt, Int32.le_iff_toInt_le, Int32.reduceToInt, ← Int32.toInt_inj] at h_2843
        have g0_2846 := gd_f x_2839 h_2843
        clear x_2839
        have fe_4188 : fld (f_2812 a_0) 12 = (v_2828 : Int32).toInt := by rw [e_2820]; rfl
        have fe_4189 : fld (f_2812 a_0) 8 = (v_2824 : Int32).toInt := by rw [e_2820]; rfl
        have fe_4190 : fld (f_2812 a_0) 12 = (v_2828 : Int32).toInt := by rw [e_2820]; rfl
        exact hR _ _ _ _ _ _ dX12_readLoss_87 (Nat.le_of_ble_eq_true rfl) (Nat.le_of_ble_eq_true rfl) ⟨rfl, hW_2816, (hF_2817.mono rfl), ⟨_, hf_2819, (AG.rf o_f).1, (by omega), (by rw [fe_4188]; left; omega)⟩, (by simp only [fe_4189, fe_4190, mz_36, mz_37]; exact .inl g0_2846)⟩
  refine v_if_ne hC dX12_readLoss_21 (tgt := 44) (by decide) (fun h_50 => ?_) (fun h_50 => ?_)
  · simp only [Int32.lt_iff_toInt_lt, Int32.le_iff_toInt_le, Int32.reduceToInt, ← Int32.toInt_inj] at h_50
    refine v_iconst hC dX12_readLoss_44 (v := 1) (by decide) ?_
    refine v_goto hC dX12_readLoss_45 (tgt := 49) (by decide) ?_
    refine v_pick [0, 1] rfl ?_
    exact jn_65 1 (by decide)
  · simp only [Int32.lt_iff_toInt_lt, Int32.le_iff_toInt_le, Int32.reduceToInt, ← Int32.toInt_inj] at h_50
    refine v_aload_n hC dX12_readLoss_24 rfl ?_
    refine v_ldcwS hC sr_X12_289 dX12_readLoss_25 ?_
    refine v_vi hC (rest := []) m_1 e_24 rfl mi_X12_is ms_X12_is (p_X12_is hW k_0 (by decide)) mx_X12_is ml_X12_152 (by decide) rfl (cells1 := 0) (slots1 := 0) (by decide) (by decide) (Nat.le_of_ble_eq_true rfl) (Nat.le_of_ble_eq_true rfl) rfl (Nat.le_of_ble_eq_true rfl) dX12_readLoss_28 (fun r_4191 L_4192 f_4193 h_4194 => ?_)
    obtain ⟨rfl, rfl, rfl⟩ := h_4194
    refine v_if_ne hC dX12_readLoss_31 (tgt := 44) (by decide) (fun h_4197 => ?_) (fun h_4197 => ?_)
    · simp only [Int32.lt_iff_toInt_lt, Int32.le_iff_toInt_le, Int32.reduceToInt, ← Int32.toInt_inj] at h_4197
      refine v_iconst hC dX12_readLoss_44 (v := 1) (by decide) ?_
      refine v_goto hC dX12_readLoss_45 (tgt := 49) (by decide) ?_
      refine v_pick [0, 1] rfl ?_
      exact jn_65 1 (by decide)
    · simp only [Int32.lt_iff_toInt_lt, Int32.le_iff_toInt_le, Int32.reduceToInt, ← Int32.toInt_inj] at h_4197
      refine v_aload_n hC dX12_readLoss_34 rfl ?_
      refine v_ldcwS hC sr_X12_291 dX12_readLoss_35 ?_
      refine v_vi hC (rest := []) m_1 e_24 rfl mi_X12_is ms_X12_is (p_X12_is hW k_0 (by decide)) mx_X12_is ml_X12_152 (by decide) rfl (cells1 := 0) (slots1 := 0) (by decide) (by decide) (Nat.le_of_ble_eq_true rfl) (Nat.le_of_ble_eq_true rfl) rfl (Nat.le_of_ble_eq_true rfl) dX12_readLoss_38 (fun r_4198 L_4199 f_4200 h_4201 => ?_)
      obtain ⟨rfl, rfl, rfl⟩ := h_4201
      refine v_if_eq hC dX12_readLoss_41 (tgt := 48) (by decide) (fun h_4204 => ?_) (fun h_4204 => ?_)
      · simp only [Int32.lt_iff_toInt_lt, Int32.le_iff_toInt_le, Int32.reduceToInt, ← Int32.toInt_inj] at h_4204
        refine v_iconst hC dX12_readLoss_48 (v := 0) (by decide) ?_
        refine v_pick [0, 1] rfl ?_
        exact jn_65 0 (by decide)
      · simp only [Int32.lt_iff_toInt_lt, Int32.le_iff_toInt_le, Int32.reduceToInt, ← Int32.toInt_inj] at h_4204
        refine v_iconst hC dX12_readLoss_44 (v := 1) (by decide) ?_
        refine v_goto hC dX12_readLoss_45 (tgt := 49) (by decide) ?_
        refine v_pick [0, 1] rfl ?_
        exact jn_65 1 (by decide)
set_option maxRecDepth 100000 in
set_option maxHeartbeats 8000000 in
theorem p_X12_begin {l : Launch} {E : Ez} {L : List Nat} {f : Nat → va_E} {T : Nat → va_E → Prop} {a_0 : Nat} {q : Nat → Nat} (hW : WT T L f) (k_0 : isM T L E a_0 q) : CV l yX12_begin cX12_begin 1 0 0 0 E [.ref a_0] L f (fun L1 f1 => L = L1 ∧ WT T L f1 ∧ FR [12] f f1 ∧ fld (f1 a_0) 12 = 0 ∧ fld (f1 a_0) 8 = 0 ∧ fld (f1 a_0) 20 = fld (f a_0) 20) := by
  refine cv_of (by decide) (Nat.le_of_ble_eq_true rfl) (fun z hz hnm hC hR => ?_)
  have hC : Cx z E cX12_begin RX12 1 0 0 0 := hC
  subst hz
  show V z E 1 0 0 L f 0 [(0, .ref a_0)] []
  obtain ⟨m_1, t_2, nq_21, k_3, k_4, k_5, k_6, k_7, k_8, k_9, k_10, k_11, k_12, k_13, k_14, k_15, k_16, k_17, k_18, k_19, k_20⟩ := id k_0
  obtain ⟨v_23, v_24, v_26, v_28, v_30, v_32, v_34, v_35, v_36, v_37, v_39, e_22, b_25, b_27, b_29, b_31, b_33, b_38, b_40⟩ := hW.at m_1 t_2
  have mz_41 : fld (f a_0) 20 = v_39.toInt := by rw [e_22]; rfl
  refine v_aload_n hC dX12_begin_0 rfl ?_
  refine v_aload_n hC dX12_begin_1 rfl ?_
  refine v_get hC fl_X12_102 m_1 e_22 rfl dX12_begin_2 ?_
  refine v_put hC fl_X12_105 m_1 e_22 rfl rfl (Nat.le_of_ble_eq_true rfl) (fs' := [.int v_23, .ref (q 1), .ref (q 2), .ref (q 3), .ref (q 4), .int v_24, .ref (q 6), .int v_24, .int v_28, .int v_30, .int v_32, .int v_34, .int v_35, .int v_36, .ref (q 14), .ref (q 15), .ref (q 16), .int v_37, .ref (q 18), .ref (q 19), .int v_39, .ref (q 21), .ref (q 22), .ref (q 23), .ref (q 24), .ref (q 25), .ref (q 26), .ref (q 27), .ref (q 28)]) rfl dX12_begin_5 (fun f_42 hf_43 hk_44 => ?_)
  have hW_45 := hW.up hf_43 hk_44 t_2 ⟨v_23, v_24, v_24, v_28, v_30, v_32, v_34, v_35, v_36, v_37, v_39, rfl, (by first | omega | (simp only [Int32.lt_iff_toInt_lt, Int32.le_iff_toInt_le, Int32.reduceToInt, ← Int32.toInt_inj, true_and, and_true, or_true, true_or, false_or, or_false, false_and, and_false, not_true_eq_false, not_false_eq_true] <;> omega)), (by first | omega | (simp only [Int32.lt_iff_toInt_lt, Int32.le_iff_toInt_le, Int32.reduceToInt, ← Int32.toInt_inj, true_and, and_true, or_true, true_or, false_or, or_false, false_and, and_false, not_true_eq_false, not_false_eq_true] <;> omega)), (by first | omega | (simp only [Int32.lt_iff_toInt_lt, Int32.le_iff_toInt_le, Int32.reduceToInt, ← Int32.toInt_inj, true_and, and_true, or_true, true_or, false_or, or_false, false_and, and_false, not_true_eq_false, not_false_eq_true] <;> omega)), (by first | omega | (simp only [Int32.lt_iff_toInt_lt, Int32.le_iff_toInt_le, Int32.reduceToInt, ← Int32.toInt_inj, true_and, and_true, or_true, true_or, false_or, or_false, false_and, and_false, not_true_eq_false, not_false_eq_true] <;> omega)), (by first | omega | (simp only [Int32.lt_iff_toInt_lt, Int32.le_iff_toInt_le, Int32.reduceToInt, ← Int32.toInt_inj, true_and, and_true, or_true, true_or, false_or, or_false, false_and, and_false, not_true_eq_false, not_false_eq_true] <;> omega)), (by first | omega | (simp only [Int32.lt_iff_toInt_lt, Int32.le_iff_toInt_le, Int32.reduceToInt, ← Int32.toInt_inj, true_and, and_true, or_true, true_or, false_or, or_false, false_and, and_false, not_true_eq_false, not_false_eq_true] <;> omega)), (by first | omega | (simp only [Int32.lt_iff_toInt_lt, Int32.le_iff_toInt_le, Int32.reduceToInt, ← Int32.toInt_inj, true_and, and_true, or_true, true_or, false_or, or_false, false_and, and_false, not_true_eq_false, not_false_eq_true] <;> omega))⟩
  have fr_46 := FR.w hk_44 e_22 (k := 12) rfl
  refine v_aload_n hC dX12_begin_8 rfl ?_
  refine v_iconst hC dX12_begin_9 (v := 0) (by decide) ?_
  refine v_put hC fl_X12_102 m_1 hf_43 rfl rfl (Nat.le_of_ble_eq_true rfl) (fs' := [.int v_23, .ref (q 1), .ref (q 2), .ref (q 3), .ref (q 4), .int 0, .ref (q 6), .int v_24, .int v_28, .int v_30, .int v_32, .int v_34, .int v_35, .int v_36, .ref (q 14), .ref (q 15), .ref (q 16), .int v_37, .ref (q 18), .ref (q 19), .int v_39, .ref (q 21), .ref (q 22), .ref (q 23), .ref (q 24), .ref (q 25), .ref (q 26), .ref (q 27), .ref (q 28)]) rfl dX12_begin_10 (fun f_47 hf_48 hk_49 => ?_)
  have hW_50 := hW_45.up hf_48 hk_49 t_2 ⟨v_23, 0, v_24, v_28, v_30, v_32, v_34, v_35, v_36, v_37, v_39, rfl, (by decide), (by first | omega | (simp only [Int32.lt_iff_toInt_lt, Int32.le_iff_toInt_le, Int32.reduceToInt, ← Int32.toInt_inj, true_and, and_true, or_true, true_or, false_or, or_false, false_and, and_false, not_true_eq_false, not_false_eq_true] <;> omega)), (by first | omega | (simp only [Int32.lt_iff_toInt_lt, Int32.le_iff_toInt_le, Int32.reduceToInt, ← Int32.toInt_inj, true_and, and_true, or_true, true_or, false_or, or_false, false_and, and_false, not_true_eq_false, not_false_eq_true] <;> omega)), (by first | omega | (simp only [Int32.lt_iff_toInt_lt, Int32.le_iff_toInt_le, Int32.reduceToInt, ← Int32.toInt_inj, true_and, and_true, or_true, true_or, false_or, or_false, false_and, and_false, not_true_eq_false, not_false_eq_true] <;> omega)), (by first | omega | (simp only [Int32.lt_iff_toInt_lt, Int32.le_iff_toInt_le, Int32.reduceToInt, ← Int32.toInt_inj, true_and, and_true, or_true, true_or, false_or, or_false, false_and, and_false, not_true_eq_false, not_false_eq_true] <;> omega)), (by first | omega | (simp only [Int32.lt_iff_toInt_lt, Int32.le_iff_toInt_le, Int32.reduceToInt, ← Int32.toInt_inj, true_and, and_true, or_true, true_or, false_or, or_false, false_and, and_false, not_true_eq_false, not_false_eq_true] <;> omega)), (by first | omega | (simp only [Int32.lt_iff_toInt_lt, Int32.le_iff_toInt_le, Int32.reduceToInt, ← Int32.toInt_inj, true_and, and_true, or_true, true_or, false_or, or_false, false_and, and_false, not_true_eq_false, not_false_eq_true] <;> omega))⟩
  have fr_51 := FR.w hk_49 hf_43 (k := 12) rfl
  refine v_aload_n hC dX12_begin_13 rfl ?_
  refine v_iconst hC dX12_begin_14 (v := 0) (by decide) ?_
  refine v_put hC fl_X12_108 m_1 hf_48 rfl rfl (Nat.le_of_ble_eq_true rfl) (fs' := [.int v_23, .ref (q 1), .ref (q 2), .ref (q 3), .ref (q 4), .int 0, .ref (q 6), .int v_24, .int 0, .int v_30, .int v_32, .int v_34, .int v_35, .int v_36, .ref (q 14), .ref (q 15), .ref (q 16), .int v_37, .ref (q 18), .ref (q 19), .int v_39, .ref (q 21), .ref (q 22), .ref (q 23), .ref (q 24), .ref (q 25), .ref (q 26), .ref (q 27), .ref (q 28)]) rfl dX12_begin_15 (fun f_52 hf_53 hk_54 => ?_)
  have hW_55 := hW_50.up hf_53 hk_54 t_2 ⟨v_23, 0, v_24, 0, v_30, v_32, v_34, v_35, v_36, v_37, v_39, rfl, (by decide), (by first | omega | (simp only [Int32.lt_iff_toInt_lt, Int32.le_iff_toInt_le, Int32.reduceToInt, ← Int32.toInt_inj, true_and, and_true, or_true, true_or, false_or, or_false, false_and, and_false, not_true_eq_false, not_false_eq_true] <;> omega)), (by decide), (by first | omega | (simp only [Int32.lt_iff_toInt_lt, Int32.le_iff_toInt_le, Int32.reduceToInt, ← Int32.toInt_inj, true_and, and_true, or_true, true_or, false_or, or_false, false_and, and_false, not_true_eq_false, not_false_eq_true] <;> omega)), (by first | omega | (simp only [Int32.lt_iff_toInt_lt, Int32.le_iff_toInt_le, Int32.reduceToInt, ← Int32.toInt_inj, true_and, and_true, or_true, true_or, false_or, or_false, false_and, and_false, not_true_eq_false, not_false_eq_true] <;> omega)), (by first | omega | (simp only [Int32.lt_iff_toInt_lt, Int32.le_iff_toInt_le, Int32.reduceToInt, ← Int32.toInt_inj, true_and, and_true, or_true, true_or, false_or, or_false, false_and, and_false, not_true_eq_false, not_false_eq_true] <;> omega)), (by first | omega | (simp only [Int32.lt_iff_toInt_lt, Int32.le_iff_toInt_le, Int32.reduceToInt, ← Int32.toInt_inj, true_and, and_true, or_true, true_or, false_or, or_false, false_and, and_false, not_true_eq_false, not_false_eq_true] <;> omega))⟩
  have fr_56 := FR.w hk_54 hf_48 (k := 12) rfl
  refine v_aload_n hC dX12_begin_18 rfl ?_
  refine v_iconst hC dX12_begin_19 (v := 0) (by decide) ?_
  refine v_put hC fl_X12_111 m_1 hf_53 rfl rfl (Nat.le_of_ble_eq_true rfl) (fs' := [.int v_23, .ref (q 1), .ref (q 2), .ref (q 3), .ref (q 4), .int 0, .ref (q 6), .int v_24, .int 0, .int v_30, .int v_32, .int v_34, .int 0, .int v_36, .ref (q 14), .ref (q 15), .ref (q 16), .int v_37, .ref (q 18), .ref (q 19), .int v_39, .ref (q 21), .ref (q 22), .ref (q 23), .ref (q 24), .ref (q 25), .ref (q 26), .ref (q 27), .ref (q 28)]) rfl dX12_begin_20 (fun f_57 hf_58 hk_59 => ?_)
  have hW_60 := hW_55.up hf_58 hk_59 t_2 ⟨v_23, 0, v_24, 0, v_30, v_32, v_34, 0, v_36, v_37, v_39, rfl, (by decide), (by first | omega | (simp only [Int32.lt_iff_toInt_lt, Int32.le_iff_toInt_le, Int32.reduceToInt, ← Int32.toInt_inj, true_and, and_true, or_true, true_or, false_or, or_false, false_and, and_false, not_true_eq_false, not_false_eq_true] <;> omega)), (by decide), (by first | omega | (simp only [Int32.lt_iff_toInt_lt, Int32.le_iff_toInt_le, Int32.reduceToInt, ← Int32.toInt_inj, true_and, and_true, or_true, true_or, false_or, or_false, false_and, and_false, not_true_eq_false, not_false_eq_true] <;> omega)), (by first | omega | (simp only [Int32.lt_iff_toInt_lt, Int32.le_iff_toInt_le, Int32.reduceToInt, ← Int32.toInt_inj, true_and, and_true, or_true, true_or, false_or, or_false, false_and, and_false, not_true_eq_false, not_false_eq_true] <;> omega)), (by first | omega | (simp only [Int32.lt_iff_toInt_lt, Int32.le_iff_toInt_le, Int32.reduceToInt, ← Int32.toInt_inj, true_and, and_true, or_true, true_or, false_or, or_false, false_and, and_false, not_true_eq_false, not_false_eq_true] <;> omega)), (by first | omega | (simp only [Int32.lt_iff_toInt_lt, Int32.le_iff_toInt_le, Int32.reduceToInt, ← Int32.toInt_inj, true_and, and_true, or_true, true_or, false_or, or_false, false_and, and_false, not_true_eq_false, not_false_eq_true] <;> omega))⟩
  have fr_61 := FR.w hk_59 hf_53 (k := 12) rfl
  refine v_aload_n hC dX12_begin_23 rfl ?_
  refine v_iconst hC dX12_begin_24 (v := (-1)) (by decide) ?_
  refine v_put hC fl_X12_31 m_1 hf_58 rfl rfl (Nat.le_of_ble_eq_true rfl) (fs' := [.int v_23, .ref (q 1), .ref (q 2), .ref (q 3), .ref (q 4), .int 0, .ref (q 6), .int v_24, .int 0, .int v_30, .int v_32, .int v_34, .int 0, .int (-1), .ref (q 14), .ref (q 15), .ref (q 16), .int v_37, .ref (q 18), .ref (q 19), .int v_39, .ref (q 21), .ref (q 22), .ref (q 23), .ref (q 24), .ref (q 25), .ref (q 26), .ref (q 27), .ref (q 28)]) rfl dX12_begin_25 (fun f_62 hf_63 hk_64 => ?_)
  have hW_65 := hW_60.up hf_63 hk_64 t_2 ⟨v_23, 0, v_24, 0, v_30, v_32, v_34, 0, (-1), v_37, v_39, rfl, (by decide), (by first | omega | (simp only [Int32.lt_iff_toInt_lt, Int32.le_iff_toInt_le, Int32.reduceToInt, ← Int32.toInt_inj, true_and, and_true, or_true, true_or, false_or, or_false, false_and, and_false, not_true_eq_false, not_false_eq_true] <;> omega)), (by decide), (by first | omega | (simp only [Int32.lt_iff_toInt_lt, Int32.le_iff_toInt_le, Int32.reduceToInt, ← Int32.toInt_inj, true_and, and_true, or_true, true_or, false_or, or_false, false_and, and_false, not_true_eq_false, not_false_eq_true] <;> omega)), (by first | omega | (simp only [Int32.lt_iff_toInt_lt, Int32.le_iff_toInt_le, Int32.reduceToInt, ← Int32.toInt_inj, true_and, and_true, or_true, true_or, false_or, or_false, false_and, and_false, not_true_eq_false, not_false_eq_true] <;> omega)), (by first | omega | (simp only [Int32.lt_iff_toInt_lt, Int32.le_iff_toInt_le, Int32.reduceToInt, ← Int32.toInt_inj, true_and, and_true, or_true, true_or, false_or, or_false, false_and, and_false, not_true_eq_false, not_false_eq_true] <;> omega)), (by first | omega | (simp only [Int32.lt_iff_toInt_lt, Int32.le_iff_toInt_le, Int32.reduceToInt, ← Int32.toInt_inj, true_and, and_true, or_true, true_or, false_or, or_false, false_and, and_false, not_true_eq_false, not_false_eq_true] <;> omega))⟩
  have fr_66 := FR.w hk_64 hf_58 (k := 12) rfl
  have fe_67 : fld (f_62 a_0) 12 = (0 : Int32).toInt := by rw [hf_63]; rfl
  simp only [Int32.reduceToInt] at fe_67
  have fe_68 : fld (f_62 a_0) 8 = (0 : Int32).toInt := by rw [hf_63]; rfl
  simp only [Int32.reduceToInt] at fe_68
  have fe_69 : fld (f_62 a_0) 20 = (v_39 : Int32).toInt := by rw [hf_63]; rfl
  exact hR _ _ _ _ _ _ dX12_begin_28 (Nat.le_of_ble_eq_true rfl) (Nat.le_of_ble_eq_true rfl) ⟨rfl, hW_65, (((((fr_46.tr fr_51).tr fr_56).tr fr_61).tr fr_66).mono rfl), (by simp only [fe_67, true_and, and_true, or_true, true_or, false_or, or_false, false_and, and_false, not_true_eq_false, not_false_eq_true] <;> first | omega | (simp only [Int32.lt_iff_toInt_lt, Int32.le_iff_toInt_le, Int32.reduceToInt, ← Int32.toInt_inj, true_and, and_true, or_true, true_or, false_or, or_false, false_and, and_false, not_true_eq_false, not_false_eq_true] <;> omega)), (by simp only [fe_68, true_and, and_true, or_true, true_or, false_or, or_false, false_and, and_false, not_true_eq_false, not_false_eq_true] <;> first | omega | (simp only [Int32.lt_iff_toInt_lt, Int32.le_iff_toInt_le, Int32.reduceToInt, ← Int32.toInt_inj, true_and, and_true, or_true, true_or, false_or, or_false, false_and, and_false, not_true_eq_false, not_false_eq_true] <;> omega)), (by simp only [fe_69, mz_41, true_and, and_true, or_true, true_or, false_or, or_false, false_and, and_false, not_true_eq_false, not_false_eq_true] <;> first | omega | (simp only [Int32.lt_iff_toInt_lt, Int32.le_iff_toInt_le, Int32.reduceToInt, ← Int32.toInt_inj, true_and, and_true, or_true, true_or, false_or, or_false, false_and, and_false, not_true_eq_false, not_false_eq_true] <;> omega))⟩
set_option maxRecDepth 100000 in
set_option maxHeartbeats 8000000 in
theorem p_X12_losses {l : Launch} {E : Ez} {L : List Nat} {f : Nat → va_E} {T : Nat → va_E → Prop} {a_0 : Nat} {q : Nat → Nat} (hW : WT T L f) (k_0 : isM T L E a_0 q) : CI l yX12_losses cX12_losses 1 .int 9 0 0 E [.ref a_0] L f (fun r L1 f1 => L = L1 ∧ WT T L f1 ∧ FR [12, 2176] f f1) := by
  refine ci_of (by decide) (Nat.le_of_ble_eq_true rfl) (fun z hz hnm hC hR => ?_)
  have hC : Cx z E cX12_losses RX12 1 9 0 0 := hC
  subst hz
  show V z E 1 0 0 L f 0 [(0, .ref a_0)] []
  obtain ⟨m_1, t_2, nq_21, k_3, k_4, k_5, k_6, k_7, k_8, k_9, k_10, k_11, k_12, k_13, k_14, k_15, k_16, k_17, k_18, k_19, k_20⟩ := id k_0
  refine v_aload_n hC dX12_losses_0 rfl ?_
  obtain ⟨v_23, v_24, v_26, v_28, v_30, v_32, v_34, v_35, v_36, v_37, v_39, e_22, b_25, b_27, b_29, b_31, b_33, b_38, b_40⟩ := hW.at m_1 t_2
  refine v_vv hC (rest := []) m_1 e_22 rfl mi_X12_begin ms_X12_begin (p_X12_begin hW k_0) mx_X12_begin ml_X12_181 (by decide) rfl (cells1 := 0) (slots1 := 0) (by decide) (by decide) (Nat.le_of_ble_eq_true rfl) (Nat.le_of_ble_eq_true rfl) rfl (Nat.le_of_ble_eq_true rfl) dX12_losses_1 (fun L_42 f_43 h_44 => ?_)
  obtain ⟨rfl, hW_48, hF_49, x_45, x_46, x_47⟩ := h_44
  have fe_50 : fld (f a_0) 20 = (v_39 : Int32).toInt := by rw [e_22]; rfl
  obtain ⟨v_52, v_53, v_55, v_57, v_59, v_61, v_63, v_64, v_65, v_66, v_68, e_51, b_54, b_56, b_58, b_60, b_62, b_67, b_69⟩ := hW_48.at m_1 t_2
  have fe_70 : fld (f_43 a_0) 8 = (v_57 : Int32).toInt := by rw [e_51]; rfl
  have fe_71 : fld (f_43 a_0) 12 = (v_64 : Int32).toInt := by rw [e_51]; rfl
  have fe_72 : fld (f_43 a_0) 20 = (v_68 : Int32).toInt := by rw [e_51]; rfl
  rw [fe_71] at x_45
  rw [fe_70] at x_46
  rw [fe_72, fe_50] at x_47
  clear fe_50 fe_70 fe_71 fe_72
  refine v_aload_n hC dX12_losses_4 rfl ?_
  refine v_get hC fl_X12_34 m_1 e_51 rfl dX12_losses_5 ?_
  refine v_bipush hC dX12_losses_8 (v := 6) (by decide) ?_
  refine v_iconst hC dX12_losses_10 (v := 0) (by decide) ?_
  obtain ⟨m_73, t_74⟩ := id k_8
  obtain ⟨g_76, e_75, ok_77⟩ := hW_48.at m_73 t_74
  refine v_iast hC m_73 e_75 (vp_in_iff.mpr (by decide)) dX12_losses_11 (fun f_78 hf_79 hk_80 => ?_)
  have hW_82 := hW_48.up hf_79 hk_80 t_74 ⟨_, rfl, (ok_77.up (i := 6) (by decide) (fun q1 q2 => absurd (And.intro q1 q2) (by decide)) (fun k9 q1 q2 q3 => by simp only [Int32.reduceToInt] at q3; omega))⟩
  obtain ⟨g_81, hf_79, ok_83, eg_84⟩ : ∃ g9, f_78 (q 14) = aI E 2076 g9 ∧ FOK g9 ∧ g9 = upd g_76 (6 : Int32).toNatClampNeg 0 := ⟨_, hf_79, (ok_77.up (i := 6) (by decide) (fun q1 q2 => absurd (And.intro q1 q2) (by decide)) (fun k9 q1 q2 q3 => by simp only [Int32.reduceToInt] at q3; omega)), rfl⟩
  have hf_85 := (hk_80 a_0 (ne_kd e_51 e_75 rfl)).trans e_51
  have fr_86 := FR.w hk_80 e_75 (k := 2176) rfl
  have gz_87 : (g_81 6).toInt = 0 := by rw [eg_84]; rfl
  have lo_88 : LO g_81 := fun l9 h9 => absurd h9 (by omega)
  refine v_aload_n hC dX12_losses_12 rfl ?_
  refine v_vv hC (rest := []) m_1 hf_85 rfl mi_X12_advance ms_X12_advance (p_X12_advance hW_82 k_0) mx_X12_advance ml_X12_156 (by decide) rfl (cells1 := 0) (slots1 := 0) (by decide) (by decide) (Nat.le_of_ble_eq_true rfl) (Nat.le_of_ble_eq_true rfl) rfl (Nat.le_of_ble_eq_true rfl) dX12_losses_13 (fun L_90 f_91 h_92 => ?_)
  obtain ⟨rfl, hW_94, hF_95, -, -, x_93, -⟩ := h_92
  have fe_96 : fld (f_78 a_0) 12 = (v_64 : Int32).toInt := by rw [hf_85]; rfl
  have hf_97 := hF_95.at hf_79 rfl
  obtain ⟨v_99, v_100, v_102, v_104, v_106, v_108, v_110, v_111, v_112, v_113, v_115, e_98, b_101, b_103, b_105, b_107, b_109, b_114, b_116⟩ := hW_94.at m_1 t_2
  have fe_117 : fld (f_91 a_0) 12 = (v_111 : Int32).toInt := by rw [e_98]; rfl
  rw [fe_117, fe_96] at x_93
  clear fe_96 fe_117
  have lp_600 : ∀ (n_601 : Nat) (f_596 : Nat → va_E) (hW_597 : WT T L f_596) (hF_598 : FR [12, 2176] f_91 f_596)  (cv_599 : ∃ g9 : Nat → Int32, (f_596 (q 14)) = aI E 2076 g9 ∧ FOK g9 ∧ (0 ≤ (g9 6).toInt ∧ (g9 6).toInt ≤ 12) ∧ (¬ fld (f_596 a_0) 12 = 0 ∨ LO g9)) (hm_603 : 600 - fld (f_596 a_0) 8 < (n_601 : Int)), V z E 1 0 0 L f_596 16 [(0, .ref a_0)] [] := by
    intro n_601
    induction n_601 with
    | zero =>
      intro f_596 hW_597 hF_598 cv_599 hm_603
      obtain ⟨g_604, e_605, ok_606, bl_607, lo_608⟩ := cv_599
      obtain ⟨v_610, v_611, v_613, v_615, v_617, v_619, v_621, v_622, v_623, v_624, v_626, e_609, b_612, b_614, b_616, b_618, b_620, b_625, b_627⟩ := hW_597.at m_1 t_2
      have fe_628 : fld (f_596 a_0) 12 = (v_622 : Int32).toInt := by rw [e_609]; rfl
      rw [fe_628] at lo_608
      have h_629 : fld (f_596 a_0) 8 = (v_615 : Int32).toInt := by rw [e_609]; rfl
      rw [h_629] at hm_603
      exfalso; omega
    | succ n_601 ih_602 =>
      intro f_596 hW_597 hF_598 cv_599 hm_603
      obtain ⟨g_604, e_605, ok_606, bl_607, lo_608⟩ := cv_599
      obtain ⟨v_610, v_611, v_613, v_615, v_617, v_619, v_621, v_622, v_623, v_624, v_626, e_609, b_612, b_614, b_616, b_618, b_620, b_625, b_627⟩ := hW_597.at m_1 t_2
      have fe_628 : fld (f_596 a_0) 12 = (v_622 : Int32).toInt := by rw [e_609]; rfl
      rw [fe_628] at lo_608
      have h_629 : fld (f_596 a_0) 8 = (v_615 : Int32).toInt := by rw [e_609]; rfl
      rw [h_629] at hm_603
      refine v_aload_n hC dX12_losses_16 rfl ?_
      refine v_vi hC (rest := []) m_1 e_609 rfl mi_X12_good ms_X12_good (p_X12_good hW_597 k_0) mx_X12_good ml_X12_139 (by decide) rfl (cells1 := 0) (slots1 := 0) (by decide) (by decide) (Nat.le_of_ble_eq_true rfl) (Nat.le_of_ble_eq_true rfl) rfl (Nat.le_of_ble_eq_true rfl) dX12_losses_17 (fun r_630 L_631 f_632 h_633 => ?_)
      obtain ⟨rfl, rfl, b_634, x_635⟩ := h_633
      have fe_638 : fld (f_596 a_0) 12 = (v_622 : Int32).toInt := by rw [e_609]; rfl
      rw [fe_638] at x_635
      clear fe_638
      try simp only [Int32.reduceToInt, Int64.reduceToInt] at x_635
      refine v_if_eq hC dX12_losses_20 (tgt := 37) (by decide) (fun h_639 => ?_) (fun h_639 => ?_)
      · simp only [Int32.lt_iff_toInt_lt, Int32.le_iff_toInt_le, Int32.reduceToInt, ← Int32.toInt_inj] at h_639
        have g0_640 := gd_f x_635 h_639
        clear x_635
        refine v_aload_n hC dX12_losses_37 rfl ?_
        refine v_vi hC (rest := []) m_1 e_609 rfl mi_X12_good ms_X12_good (p_X12_good hW_597 k_0) mx_X12_good ml_X12_139 (by decide) rfl (cells1 := 0) (slots1 := 0) (by decide) (by decide) (Nat.le_of_ble_eq_true rfl) (Nat.le_of_ble_eq_true rfl) rfl (Nat.le_of_ble_eq_true rfl) dX12_losses_38 (fun r_643 L_644 f_645 h_646 => ?_)
        obtain ⟨rfl, rfl, b_647, x_648⟩ := h_646
        have fe_651 : fld (f_596 a_0) 12 = (v_622 : Int32).toInt := by rw [e_609]; rfl
        rw [fe_651] at x_648
        clear fe_651
        try simp only [Int32.reduceToInt, Int64.reduceToInt] at x_648
        refine v_if_ne hC dX12_losses_41 (tgt := 47) (by decide) (fun h_652 => ?_) (fun h_652 => ?_)
        · simp only [Int32.lt_iff_toInt_lt, Int32.le_iff_toInt_le, Int32.reduceToInt, ← Int32.toInt_inj] at h_652
          have nb_653 : (1 ≤ r_643.toInt ∧ r_643.toInt ≤ 1) := by omega
          have g0_654 := gd_t x_648 h_652
          clear x_648
          obtain ⟨m_656, t_657⟩ := id k_3
          obtain ⟨g_659, e_658, ok_660⟩ := hW_597.at m_656 t_657
          have b_661 := ok_660.r0
          have b_662 := ok_660.w0
          refine v_aload_n hC dX12_losses_47 rfl ?_
          refine v_get hC fl_X12_13 m_1 e_609 rfl dX12_losses_48 ?_
          refine v_bipush hC dX12_losses_51 (v := 6) (by decide) ?_
          refine v_aload_n hC dX12_losses_53 rfl ?_
          refine v_get hC fl_X12_34 m_1 e_609 rfl dX12_losses_54 ?_
          refine v_bipush hC dX12_losses_57 (v := 6) (by decide) ?_
          refine v_iald hC m_73 e_605 (vp_in_iff.mpr (by decide)) (v := g_604 6) rfl dX12_losses_59 ?_
          refine v_iast hC m_656 e_658 (vp_in_iff.mpr (by decide)) dX12_losses_60 (fun f_663 hf_664 hk_665 => ?_)
          have hf_666 := (hk_665 a_0 (ne_kd e_609 e_658 rfl)).trans e_609
          have hf_667 := (hk_665 (q 14) nq_21.symm).trans e_605
          refine v_aload_n hC dX12_losses_61 rfl ?_
          refine v_sipush hC dX12_losses_62 (v := 1012) (by decide) ?_
          refine v_sipush hC dX12_losses_65 (v := 1048) (by decide) ?_
          refine v_vv hC (rest := []) m_1 hf_666 rfl mi_X12_keeps ms_X12_keeps (p_X12_keeps k_0 hf_666 hf_664 hf_667 (by decide)) mx_X12_keeps ml_X12_197 (by decide) rfl (cells1 := 0) (slots1 := 0) (by decide) (by decide) (Nat.le_of_ble_eq_true rfl) (Nat.le_of_ble_eq_true rfl) rfl (Nat.le_of_ble_eq_true rfl) dX12_losses_68 (fun L_669 f_670 h_671 => ?_)
          obtain ⟨rfl, hf_672, hk_673⟩ := h_671
          have hf_674 := (hk_673 a_0 (ne_kd hf_666 hf_664 rfl)).trans hf_666
          have hf_675 := (hk_673 (q 14) nq_21.symm).trans hf_667
          have kr_676 : ∀ x9, x9 ≠ (q 1) → f_670 x9 = f_596 x9 := fun x9 hx9 => (hk_673 x9 hx9).trans (hk_665 x9 hx9)
          obtain ⟨g_679, e_680, ok_678, eg_681⟩ : ∃ g9, f_670 (q 1) = aI E 2076 g9 ∧ WOK g9 ∧ g9 = (va_cpy g_604 (upd g_659 6 (g_604 6)) (1012 : Int32).toNatClampNeg (1012 : Int32).toNatClampNeg ((1048 : Int32).toNatClampNeg - (1012 : Int32).toNatClampNeg)) := ⟨_, hf_672, (ok_660.losx (by omega) (lo_608.resolve_left (fun h9 => h9 g0_654))), rfl⟩
          have hW_677 := hW_597.up e_680 kr_676 t_657 ⟨_, rfl, ok_678⟩
          have fr_682 := FR.w kr_676 e_658 (k := 2176) rfl
          have b_683 := ok_678.r0
          have b_684 := ok_678.w0
          refine v_aload_n hC dX12_losses_71 rfl ?_
          refine v_get hC fl_X12_13 m_1 hf_674 rfl dX12_losses_72 ?_
          refine v_bipush hC dX12_losses_75 (v := 6) (by decide) ?_
          refine v_iald hC m_656 e_680 (vp_in_iff.mpr (by decide)) (v := g_679 6) rfl dX12_losses_77 ?_
          exact hR _ _ _ _ _ _ _ dX12_losses_78 rfl (Nat.le_of_ble_eq_true rfl) (Nat.le_of_ble_eq_true rfl) ⟨rfl, hW_677, (((((hF_49.tr fr_86).tr hF_95).tr hF_598).tr fr_682).mono rfl)⟩
        · simp only [Int32.lt_iff_toInt_lt, Int32.le_iff_toInt_le, Int32.reduceToInt, ← Int32.toInt_inj] at h_652
          have g0_655 := gd_f x_648 h_652
          clear x_648
          refine v_bipush hC dX12_losses_44 (v := (-4)) (by decide) ?_
          exact hR _ _ _ _ _ _ _ dX12_losses_46 rfl (Nat.le_of_ble_eq_true rfl) (Nat.le_of_ble_eq_true rfl) ⟨rfl, hW_597, ((((hF_49.tr fr_86).tr hF_95).tr hF_598).mono rfl)⟩
      · simp only [Int32.lt_iff_toInt_lt, Int32.le_iff_toInt_le, Int32.reduceToInt, ← Int32.toInt_inj] at h_639
        have nb_641 : (1 ≤ r_630.toInt ∧ r_630.toInt ≤ 1) := by omega
        have g0_642 := gd_t x_635 h_639
        clear x_635
        refine v_aload_n hC dX12_losses_23 rfl ?_
        refine v_get hC fl_X12_120 m_1 e_609 rfl dX12_losses_24 ?_
        refine v_if_eq hC dX12_losses_27 (tgt := 37) (by decide) (fun h_685 => ?_) (fun h_685 => ?_)
        · simp only [Int32.lt_iff_toInt_lt, Int32.le_iff_toInt_le, Int32.reduceToInt, ← Int32.toInt_inj] at h_685
          refine v_aload_n hC dX12_losses_37 rfl ?_
          refine v_vi hC (rest := []) m_1 e_609 rfl mi_X12_good ms_X12_good (p_X12_good hW_597 k_0) mx_X12_good ml_X12_139 (by decide) rfl (cells1 := 0) (slots1 := 0) (by decide) (by decide) (Nat.le_of_ble_eq_true rfl) (Nat.le_of_ble_eq_true rfl) rfl (Nat.le_of_ble_eq_true rfl) dX12_losses_38 (fun r_687 L_688 f_689 h_690 => ?_)
          obtain ⟨rfl, rfl, b_691, x_692⟩ := h_690
          have fe_695 : fld (f_596 a_0) 12 = (v_622 : Int32).toInt := by rw [e_609]; rfl
          rw [fe_695] at x_692
          clear fe_695
          try simp only [Int32.reduceToInt, Int64.reduceToInt] at x_692
          refine v_if_ne hC dX12_losses_41 (tgt := 47) (by decide) (fun h_696 => ?_) (fun h_696 => ?_)
          · simp only [Int32.lt_iff_toInt_lt, Int32.le_iff_toInt_le, Int32.reduceToInt, ← Int32.toInt_inj] at h_696
            have nb_697 : (1 ≤ r_687.toInt ∧ r_687.toInt ≤ 1) := by omega
            have g0_698 := gd_t x_692 h_696
            clear x_692
            obtain ⟨m_700, t_701⟩ := id k_3
            obtain ⟨g_703, e_702, ok_704⟩ := hW_597.at m_700 t_701
            have b_705 := ok_704.r0
            have b_706 := ok_704.w0
            refine v_aload_n hC dX12_losses_47 rfl ?_
            refine v_get hC fl_X12_13 m_1 e_609 rfl dX12_losses_48 ?_
            refine v_bipush hC dX12_losses_51 (v := 6) (by decide) ?_
            refine v_aload_n hC dX12_losses_53 rfl ?_
            refine v_get hC fl_X12_34 m_1 e_609 rfl dX12_losses_54 ?_
            refine v_bipush hC dX12_losses_57 (v := 6) (by decide) ?_
            refine v_iald hC m_73 e_605 (vp_in_iff.mpr (by decide)) (v := g_604 6) rfl dX12_losses_59 ?_
            refine v_iast hC m_700 e_702 (vp_in_iff.mpr (by decide)) dX12_losses_60 (fun f_707 hf_708 hk_709 => ?_)
            have hf_710 := (hk_709 a_0 (ne_kd e_609 e_702 rfl)).trans e_609
            have hf_711 := (hk_709 (q 14) nq_21.symm).trans e_605
            refine v_aload_n hC dX12_losses_61 rfl ?_
            refine v_sipush hC dX12_losses_62 (v := 1012) (by decide) ?_
            refine v_sipush hC dX12_losses_65 (v := 1048) (by decide) ?_
            refine v_vv hC (rest := []) m_1 hf_710 rfl mi_X12_keeps ms_X12_keeps (p_X12_keeps k_0 hf_710 hf_708 hf_711 (by decide)) mx_X12_keeps ml_X12_197 (by decide) rfl (cells1 := 0) (slots1 := 0) (by decide) (by decide) (Nat.le_of_ble_eq_true rfl) (Nat.le_of_ble_eq_true rfl) rfl (Nat.le_of_ble_eq_true rfl) dX12_losses_68 (fun L_713 f_714 h_715 => ?_)
            obtain ⟨rfl, hf_716, hk_717⟩ := h_715
            have hf_718 := (hk_717 a_0 (ne_kd hf_710 hf_708 rfl)).trans hf_710
            have hf_719 := (hk_717 (q 14) nq_21.symm).trans hf_711
            have kr_720 : ∀ x9, x9 ≠ (q 1) → f_714 x9 = f_596 x9 := fun x9 hx9 => (hk_717 x9 hx9).trans (hk_709 x9 hx9)
            obtain ⟨g_723, e_724, ok_722, eg_725⟩ : ∃ g9, f_714 (q 1) = aI E 2076 g9 ∧ WOK g9 ∧ g9 = (va_cpy g_604 (upd g_703 6 (g_604 6)) (1012 : Int32).toNatClampNeg (1012 : Int32).toNatClampNeg ((1048 : Int32).toNatClampNeg - (1012 : Int32).toNatClampNeg)) := ⟨_, hf_716, (ok_704.losx (by omega) (lo_608.resolve_left (fun h9 => h9 g0_698))), rfl⟩
            have hW_721 := hW_597.up e_724 kr_720 t_701 ⟨_, rfl, ok_722⟩
            have fr_726 := FR.w kr_720 e_702 (k := 2176) rfl
            have b_727 := ok_722.r0
            have b_728 := ok_722.w0
            refine v_aload_n hC dX12_losses_71 rfl ?_
            refine v_get hC fl_X12_13 m_1 hf_718 rfl dX12_losses_72 ?_
            refine v_bipush hC dX12_losses_75 (v := 6) (by decide) ?_
            refine v_iald hC m_700 e_724 (vp_in_iff.mpr (by decide)) (v := g_723 6) rfl dX12_losses_77 ?_
            exact hR _ _ _ _ _ _ _ dX12_losses_78 rfl (Nat.le_of_ble_eq_true rfl) (Nat.le_of_ble_eq_true rfl) ⟨rfl, hW_721, (((((hF_49.tr fr_86).tr hF_95).tr hF_598).tr fr_726).mono rfl)⟩
          · simp only [Int32.lt_iff_toInt_lt, Int32.le_iff_toInt_le, Int32.reduceToInt, ← Int32.toInt_inj] at h_696
            have g0_699 := gd_f x_692 h_696
            clear x_692
            refine v_bipush hC dX12_losses_44 (v := (-4)) (by decide) ?_
            exact hR _ _ _ _ _ _ _ dX12_losses_46 rfl (Nat.le_of_ble_eq_true rfl) (Nat.le_of_ble_eq_true rfl) ⟨rfl, hW_597, ((((hF_49.tr fr_86).tr hF_95).tr hF_598).mono rfl)⟩
        · simp only [Int32.lt_iff_toInt_lt, Int32.le_iff_toInt_le, Int32.reduceToInt, ← Int32.toInt_inj] at h_685
          have nb_686 : (1 ≤ v_619.toInt ∧ v_619.toInt ≤ 4) := by omega
          refine v_aload_n hC dX12_losses_30 rfl ?_
          refine v_vv hC (rest := []) m_1 e_609 rfl mi_X12_readLoss ms_X12_readLoss (p_X12_readLoss hW_597 k_0 e_605 ok_606 (by first | omega | (simp only [Int32.lt_iff_toInt_lt, Int32.le_iff_toInt_le, Int32.reduceToInt, ← Int32.toInt_inj, true_and, and_true, or_true, true_or, false_or, or_false, false_and, and_false, not_true_eq_false, not_false_eq_true] <;> omega)) (lo_608.resolve_left (fun h9 => h9 g0_642))) mx_X12_readLoss ml_X12_298 (by decide) rfl (cells1 := 0) (slots1 := 0) (by decide) (by decide) (Nat.le_of_ble_eq_true rfl) (Nat.le_of_ble_eq_true rfl) rfl (Nat.le_of_ble_eq_true rfl) dX12_losses_31 (fun L_730 f_731 h_732 => ?_)
          obtain ⟨rfl, hW_735, hF_736, x_733, x_734⟩ := h_732
          have fe_737 : fld (f_596 a_0) 8 = (v_615 : Int32).toInt := by rw [e_609]; rfl
          have fe_738 : fld (f_596 a_0) 12 = (v_622 : Int32).toInt := by rw [e_609]; rfl
          obtain ⟨v_740, v_741, v_743, v_745, v_747, v_749, v_751, v_752, v_753, v_754, v_756, e_739, b_742, b_744, b_746, b_748, b_750, b_755, b_757⟩ := hW_735.at m_1 t_2
          have fe_758 : fld (f_731 a_0) 8 = (v_745 : Int32).toInt := by rw [e_739]; rfl
          have fe_759 : fld (f_731 a_0) 12 = (v_752 : Int32).toInt := by rw [e_739]; rfl
          rw [fe_759] at x_733
          rw [fe_759, fe_738, fe_737, fe_758] at x_734
          clear fe_737 fe_738 fe_758 fe_759
          obtain ⟨g_760, e_761, ok_762, bl_763, lo_764⟩ := x_733
          have fe_765 : fld (f_731 a_0) 12 = (v_752 : Int32).toInt := by rw [e_739]; rfl
          rw [fe_765] at lo_764
          refine v_goto hC dX12_losses_34 (tgt := 16) (by decide) ?_
          refine v_pick [0] rfl ?_
          have fe_766 : fld (f_731 a_0) 12 = (v_752 : Int32).toInt := by rw [e_739]; rfl
          have h_767 : fld (f_731 a_0) 8 = (v_745 : Int32).toInt := by rw [e_739]; rfl
          exact ih_602 f_731 hW_735 ((hF_598.tr hF_736).mono rfl) ⟨_, e_761, ok_762, (by omega), (by rw [fe_766]; exact lo_764)⟩ (by rw [h_767]; omega)
  refine v_pick [0] rfl ?_
  have fe_768 : fld (f_91 a_0) 12 = (v_111 : Int32).toInt := by rw [e_98]; rfl
  have h_769 : fld (f_91 a_0) 8 = (v_104 : Int32).toInt := by rw [e_98]; rfl
  exact lp_600 602 f_91 hW_94 FR.rf ⟨_, hf_97, ok_83, (by omega), .inr lo_88⟩ (by rw [h_769]; omega)
