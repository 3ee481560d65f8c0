set_option maxRecDepth 100000 in
set_option maxHeartbeats 1500000 in
theorem p_X12_keeps {l : Launch} {E : Ez} {L : List Nat} {f : Nat → va_E} {T : Nat → va_E → Prop} {a_0 : Nat} {a_1 a_2 : Int32} {q : Nat → Nat} {g_w g_f : Nat → Int32} {u_0 u_5 u_7 u_8 u_9 u_10 u_11 u_12 u_13 u_17 u_20 : Int32} (k_0 : isM T L E a_0 q) (e_m : f a_0 = ob 12 [.int u_0, .ref (q 1), .ref (q 2), .ref (q 3), .ref (q 4), .int u_5, .ref (q 6), .int u_7, .int u_8, .int u_9, .int u_10, .int u_11, .int u_12, .int u_13, .ref (q 14), .ref (q 15), .ref (q 16), .int u_17, .ref (q 18), .ref (q 19), .int u_20, .ref (q 21), .ref (q 22), .ref (q 23), .ref (q 24), .ref (q 25), .ref (q 26), .ref (q 27), .ref (q 28)]) (e_w : f (q 1) = aI E 2076 g_w) (e_f : f (q 14) = aI E 2076 g_f) (g_1 : 0 ≤ a_1.toInt ∧ a_1.toInt ≤ a_2.toInt ∧ a_2.toInt ≤ 2076) : CV l yX12_keeps cX12_keeps 4 0 0 0 E [.ref a_0, .int a_1, .int a_2] L f (fun L1 f1 => L = L1 ∧ f1 (q 1) = aI E 2076 (va_cpy g_f g_w a_1.toNatClampNeg a_1.toNatClampNeg (a_2.toNatClampNeg - a_1.toNatClampNeg)) ∧ ∀ x9, x9 ≠ (q 1) → f1 x9 = f x9) := by
  refine cv_of (by decide) (Nat.le_of_ble_eq_true rfl) (fun z hz hnm hC hR => ?_)
  have hC : Cx z E cX12_keeps RX12 4 0 0 0 := hC
  subst hz
  show V z E 4 0 0 L f 0 [(0, .ref a_0), (1, .int a_1), (2, .int a_2)] []
  obtain ⟨m_1, t_2, nq_21, k_3, k_4, k_5, k_6, k_7, k_8, k_9, k_10, k_11, k_12, k_13, k_14, k_15, k_16, k_17, k_18, k_19, k_20⟩ := id k_0
  obtain ⟨m_22, t_23⟩ := id k_3
  obtain ⟨m_24, t_25⟩ := id k_8
  refine v_iload_n hC dX12_keeps_0 rfl ?_
  refine v_istore_n hC dX12_keeps_1 (by decide) (lv' := [(3, .int a_1), (0, .ref a_0), (1, .int a_1), (2, .int a_2)]) rfl ?_
  have lp_34 : ∀ (n_27 : Nat) (f_30 : Nat → va_E) (i_26 : Int32) (b_33 : (a_1 : Int32).toInt ≤ i_26.toInt ∧ i_26.toInt ≤ a_2.toInt) (eR_31 : f_30 (q 1) = aI E 2076 (va_cpy g_f g_w a_1.toNatClampNeg a_1.toNatClampNeg (i_26.toNatClampNeg - a_1.toNatClampNeg))) (kR_32 : ∀ x9, x9 ≠ (q 1) → f_30 x9 = f x9) (hm_29 : a_2.toInt - i_26.toInt < (n_27 : Int)), V z E 4 0 0 L f_30 2 [(3, .int i_26), (0, .ref a_0), (2, .int a_2)] [] := by
    intro n_27
    induction n_27 with
    | zero =>
      intro f_30 i_26 b_33 eR_31 kR_32 hm_29
      exfalso; omega
    | succ n_27 ih_28 =>
      intro f_30 i_26 b_33 eR_31 kR_32 hm_29
      have hf_35 := (kR_32 a_0 (ne_kd e_m e_w rfl)).trans e_m
      have hf_36 := (kR_32 (q 14) nq_21.symm).trans e_f
      refine v_iload_n hC dX12_keeps_2 rfl ?_
      refine v_iload_n hC dX12_keeps_3 rfl ?_
      refine v_icmp_ge hC dX12_keeps_4 (tgt := 25) (by decide) (fun h_37 => ?_) (fun h_37 => ?_)
      · simp only [Int32.lt_iff_toInt_lt, Int32.le_iff_toInt_le, Int32.reduceToInt, ← Int32.toInt_inj] at h_37
        exact hR _ _ _ _ _ _ dX12_keeps_25 (Nat.le_of_ble_eq_true rfl) (Nat.le_of_ble_eq_true rfl) ⟨rfl, eR_31.trans (congrArg (aI E 2076) (by rw [show (i_26 : Int32).toNatClampNeg = a_2.toNatClampNeg from by rw [clamp_t, clamp_t]; omega])), kR_32⟩
      · simp only [Int32.lt_iff_toInt_lt, Int32.le_iff_toInt_le, Int32.reduceToInt, ← Int32.toInt_inj] at h_37
        refine v_aload_n hC dX12_keeps_7 rfl ?_
        refine v_get hC fl_X12_13 m_1 hf_35 rfl dX12_keeps_8 ?_
        refine v_iload_n hC dX12_keeps_11 rfl ?_
        refine v_aload_n hC dX12_keeps_12 rfl ?_
        refine v_get hC fl_X12_34 m_1 hf_35 rfl dX12_keeps_13 ?_
        refine v_iload_n hC dX12_keeps_16 rfl ?_
        obtain ⟨v_38, h_39⟩ : ∃ v9 : Int32, g_f (i_26 : Int32).toNatClampNeg = v9 := ⟨_, rfl⟩
        refine v_iald hC m_24 hf_36 (vp_in_iff.mpr (by first | omega | (simp only [Int32.lt_iff_toInt_lt, Int32.le_iff_toInt_le, Int32.reduceToInt, ← Int32.toInt_inj, true_and, and_true, or_true, true_or, false_or, or_false, false_and, and_false, not_true_eq_false, not_false_eq_true] <;> omega))) h_39 dX12_keeps_17 ?_
        refine v_iast hC m_22 eR_31 (vp_in_iff.mpr (by first | omega | (simp only [Int32.lt_iff_toInt_lt, Int32.le_iff_toInt_le, Int32.reduceToInt, ← Int32.toInt_inj, true_and, and_true, or_true, true_or, false_or, or_false, false_and, and_false, not_true_eq_false, not_false_eq_true] <;> omega))) dX12_keeps_18 (fun f_40 hf_41 hk_42 => ?_)
        have hf_43 := (hk_42 a_0 (ne_kd hf_35 eR_31 rfl)).trans hf_35
        have hf_44 := (hk_42 (q 14) nq_21.symm).trans hf_36
        have kr_45 : ∀ x9, x9 ≠ (q 1) → f_40 x9 = f x9 := fun x9 hx9 => (hk_42 x9 hx9).trans (kR_32 x9 hx9)
        obtain ⟨v_46, h_47⟩ : ∃ v9 : Int32, i_26 + Int32.ofInt 1 = v9 := ⟨_, rfl⟩
        have h_48 := add_v (b := 1) h_47 (by first | omega | (simp only [Int32.lt_iff_toInt_lt, Int32.le_iff_toInt_le, Int32.reduceToInt, ← Int32.toInt_inj, true_and, and_true, or_true, true_or, false_or, or_false, false_and, and_false, not_true_eq_false, not_false_eq_true] <;> omega)) (by first | omega | (simp only [Int32.lt_iff_toInt_lt, Int32.le_iff_toInt_le, Int32.reduceToInt, ← Int32.toInt_inj, true_and, and_true, or_true, true_or, false_or, or_false, false_and, and_false, not_true_eq_false, not_false_eq_true] <;> omega))
        simp only [Int32.reduceToInt] at h_48
        refine v_iinc hC dX12_keeps_19 (k := 0) rfl (v := v_46) h_47 (by decide) (lv' := [(3, .int v_46), (0, .ref a_0), (2, .int a_2)]) rfl ?_
        refine v_goto hC dX12_keeps_22 (tgt := 2) (by decide) ?_
        refine v_pick [0, 1, 2] rfl ?_
        have kx_49 : ∀ x9, x9 ≠ (q 1) → f_40 x9 = f x9 := fun x9 hx9 => (hk_42 x9 hx9).trans (kR_32 x9 hx9)
        exact ih_28 f_40 v_46 (by omega) (hf_41.trans (congrArg (aI E 2076) ((cpy_step (by rw [clamp_t, clamp_t]; omega) (by rw [← h_39, show a_1.toNatClampNeg + (i_26.toNatClampNeg - a_1.toNatClampNeg) = i_26.toNatClampNeg from by rw [clamp_t, clamp_t]; omega])).trans (by rw [show i_26.toNatClampNeg - a_1.toNatClampNeg + 1 = v_46.toNatClampNeg - a_1.toNatClampNeg from by rw [clamp_t, clamp_t, clamp_t]; omega])))) kx_49 (by omega)
  refine v_pick [0, 1, 3] rfl ?_
  exact lp_34 7000 f a_1 (by first | omega | decide) (e_w.trans (congrArg (aI E 2076) (by simp only [Nat.sub_self, cpy_nil, clamp_0]))) (fun _ _ => rfl) (by first | omega | (simp only [Int32.reduceToInt]; omega))
set_option maxRecDepth 100000 in
set_option maxHeartbeats 1500000 in
theorem p_X12_clears {l : Launch} {E : Ez} {L : List Nat} {f : Nat → va_E} {T : Nat → va_E → Prop} {a_0 : Nat} {a_1 a_2 : Int32} {q : Nat → Nat} {g_f : Nat → Int32} {u_0 u_5 u_7 u_8 u_9 u_10 u_11 u_12 u_13 u_17 u_20 : Int32} (k_0 : isM T L E a_0 q) (e_m : f a_0 = ob 12 [.int u_0, .ref (q 1), .ref (q 2), .ref (q 3), .ref (q 4), .int u_5, .ref (q 6), .int u_7, .int u_8, .int u_9, .int u_10, .int u_11, .int u_12, .int u_13, .ref (q 14), .ref (q 15), .ref (q 16), .int u_17, .ref (q 18), .ref (q 19), .int u_20, .ref (q 21), .ref (q 22), .ref (q 23), .ref (q 24), .ref (q 25), .ref (q 26), .ref (q 27), .ref (q 28)]) (e_f : f (q 14) = aI E 2076 g_f) (g_1 : 0 ≤ a_1.toInt ∧ a_1.toInt ≤ a_2.toInt ∧ a_2.toInt ≤ 2076) : CV l yX12_clears cX12_clears 4 0 0 0 E [.ref a_0, .int a_1, .int a_2] L f (fun L1 f1 => L = L1 ∧ f1 (q 14) = aI E 2076 (va_cpy (fun _ => 0) g_f a_1.toNatClampNeg a_1.toNatClampNeg (a_2.toNatClampNeg - a_1.toNatClampNeg)) ∧ ∀ x9, x9 ≠ (q 14) → f1 x9 = f x9) := by
  refine cv_of (by decide) (Nat.le_of_ble_eq_true rfl) (fun z hz hnm hC hR => ?_)
  have hC : Cx z E cX12_clears RX12 4 0 0 0 := hC
  subst hz
  show V z E 4 0 0 L f 0 [(0, .ref a_0), (1, .int a_1), (2, .int a_2)] []
  obtain ⟨m_1, t_2, nq_21, k_3, k_4, k_5, k_6, k_7, k_8, k_9, k_10, k_11, k_12, k_13, k_14, k_15, k_16, k_17, k_18, k_19, k_20⟩ := id k_0
  obtain ⟨m_22, t_23⟩ := id k_3
  obtain ⟨m_24, t_25⟩ := id k_8
  refine v_iload_n hC dX12_clears_0 rfl ?_
  refine v_istore_n hC dX12_clears_1 (by decide) (lv' := [(3, .int a_1), (0, .ref a_0), (1, .int a_1), (2, .int a_2)]) rfl ?_
  have lp_34 : ∀ (n_27 : Nat) (f_30 : Nat → va_E) (i_26 : Int32) (b_33 : (a_1 : Int32).toInt ≤ i_26.toInt ∧ i_26.toInt ≤ a_2.toInt) (eR_31 : f_30 (q 14) = aI E 2076 (va_cpy (fun _ => 0) g_f a_1.toNatClampNeg a_1.toNatClampNeg (i_26.toNatClampNeg - a_1.toNatClampNeg))) (kR_32 : ∀ x9, x9 ≠ (q 14) → f_30 x9 = f x9) (hm_29 : a_2.toInt - i_26.toInt < (n_27 : Int)), V z E 4 0 0 L f_30 2 [(3, .int i_26), (0, .ref a_0), (2, .int a_2)] [] := by
    intro n_27
    induction n_27 with
    | zero =>
      intro f_30 i_26 b_33 eR_31 kR_32 hm_29
      exfalso; omega
    | succ n_27 ih_28 =>
      intro f_30 i_26 b_33 eR_31 kR_32 hm_29
      have hf_35 := (kR_32 a_0 (ne_kd e_m e_f rfl)).trans e_m
      refine v_iload_n hC dX12_clears_2 rfl ?_
      refine v_iload_n hC dX12_clears_3 rfl ?_
      refine v_icmp_ge hC dX12_clears_4 (tgt := 20) (by decide) (fun h_36 => ?_) (fun h_36 => ?_)
      · simp only [Int32.lt_iff_toInt_lt, Int32.le_iff_toInt_le, Int32.reduceToInt, ← Int32.toInt_inj] at h_36
        exact hR _ _ _ _ _ _ dX12_clears_20 (Nat.le_of_ble_eq_true rfl) (Nat.le_of_ble_eq_true rfl) ⟨rfl, eR_31.trans (congrArg (aI E 2076) (by rw [show (i_26 : Int32).toNatClampNeg = a_2.toNatClampNeg from by rw [clamp_t, clamp_t]; omega])), kR_32⟩
      · simp only [Int32.lt_iff_toInt_lt, Int32.le_iff_toInt_le, Int32.reduceToInt, ← Int32.toInt_inj] at h_36
        refine v_aload_n hC dX12_clears_7 rfl ?_
        refine v_get hC fl_X12_34 m_1 hf_35 rfl dX12_clears_8 ?_
        refine v_iload_n hC dX12_clears_11 rfl ?_
        refine v_iconst hC dX12_clears_12 (v := 0) (by decide) ?_
        refine v_iast hC m_24 eR_31 (vp_in_iff.mpr (by first | omega | (simp only [Int32.lt_iff_toInt_lt, Int32.le_iff_toInt_le, Int32.reduceToInt, ← Int32.toInt_inj, true_and, and_true, or_true, true_or, false_or, or_false, false_and, and_false, not_true_eq_false, not_false_eq_true] <;> omega))) dX12_clears_13 (fun f_37 hf_38 hk_39 => ?_)
        have hf_40 := (hk_39 a_0 (ne_kd hf_35 eR_31 rfl)).trans hf_35
        have kr_41 : ∀ x9, x9 ≠ (q 14) → f_37 x9 = f x9 := fun x9 hx9 => (hk_39 x9 hx9).trans (kR_32 x9 hx9)
        obtain ⟨v_42, h_43⟩ : ∃ v9 : Int32, i_26 + Int32.ofInt 1 = v9 := ⟨_, rfl⟩
        have h_44 := add_v (b := 1) h_43 (by first | omega | (simp only [Int32.lt_iff_toInt_lt, Int32.le_iff_toInt_le, Int32.reduceToInt, ← Int32.toInt_inj, true_and, and_true, or_true, true_or, false_or, or_false, false_and, and_false, not_true_eq_false, not_false_eq_true] <;> omega)) (by first | omega | (simp only [Int32.lt_iff_toInt_lt, Int32.le_iff_toInt_le, Int32.reduceToInt, ← Int32.toInt_inj, true_and, and_true, or_true, true_or, false_or, or_false, false_and, and_false, not_true_eq_false, not_false_eq_true] <;> omega))
        simp only [Int32.reduceToInt] at h_44
        refine v_iinc hC dX12_clears_14 (k := 0) rfl (v := v_42) h_43 (by decide) (lv' := [(3, .int v_42), (0, .ref a_0), (2, .int a_2)]) rfl ?_
        refine v_goto hC dX12_clears_17 (tgt := 2) (by decide) ?_
        refine v_pick [0, 1, 2] rfl ?_
        have kx_45 : ∀ x9, x9 ≠ (q 14) → f_37 x9 = f x9 := fun x9 hx9 => (hk_39 x9 hx9).trans (kR_32 x9 hx9)
        exact ih_28 f_37 v_42 (by omega) (hf_38.trans (congrArg (aI E 2076) ((cpy_step (by rw [clamp_t, clamp_t]; omega) rfl).trans (by rw [show i_26.toNatClampNeg - a_1.toNatClampNeg + 1 = v_42.toNatClampNeg - a_1.toNatClampNeg from by rw [clamp_t, clamp_t, clamp_t]; omega])))) kx_45 (by omega)
  refine v_pick [0, 1, 3] rfl ?_
  exact lp_34 7000 f a_1 (by first | omega | decide) (e_f.trans (congrArg (aI E 2076) (by simp only [Nat.sub_self, cpy_nil, clamp_0]))) (fun _ _ => rfl) (by first | omega | (simp only [Int32.reduceToInt]; omega))
set_option maxRecDepth 100000 in
set_option maxHeartbeats 1500000 in
theorem p_X12_good {l : Launch} {E : Ez} {L : List Nat} {f : Nat → va_E} {T : Nat → va_E → Prop} {a_0 : Nat} {q : Nat → Nat} (hW : WT T L f) (k_0 : isM T L E a_0 q) : CI l yX12_good cX12_good 1 .boolean 0 0 0 E [.ref a_0] L f (fun r L1 f1 => L = L1 ∧ f = f1 ∧ (0 ≤ r.toInt ∧ r.toInt ≤ 1) ∧ ((r.toInt = 1 ∧ fld (f a_0) 12 = 0) ∨ (r.toInt = 0 ∧ ¬ fld (f a_0) 12 = 0))) := by
  refine ci_of (by decide) (Nat.le_of_ble_eq_true rfl) (fun z hz hnm hC hR => ?_)
  have hC : Cx z E cX12_good RX12 1 0 0 0 := hC
  subst hz
  show V z E 1 0 0 L f 0 [(0, .ref a_0)] []
  obtain ⟨m_1, t_2, nq_21, k_3, k_4, k_5, k_6, k_7, k_8, k_9, k_10, k_11, k_12, k_13, k_14, k_15, k_16, k_17, k_18, k_19, k_20⟩ := id k_0
  obtain ⟨v_23, v_24, v_26, v_28, v_30, v_32, v_34, v_35, v_36, v_37, v_39, e_22, b_25, b_27, b_29, b_31, b_33, b_38, b_40⟩ := hW.at m_1 t_2
  have mz_41 : fld (f a_0) 12 = v_35.toInt := by rw [e_22]; rfl
  refine v_aload_n hC dX12_good_0 rfl ?_
  refine v_get hC fl_X12_111 m_1 e_22 rfl dX12_good_1 ?_
  refine v_if_ne hC dX12_good_4 (tgt := 11) (by decide) (fun h_42 => ?_) (fun h_42 => ?_)
  · simp only [Int32.lt_iff_toInt_lt, Int32.le_iff_toInt_le, Int32.reduceToInt, ← Int32.toInt_inj] at h_42
    refine v_iconst hC dX12_good_11 (v := 0) (by decide) ?_
    exact hR _ _ _ _ _ _ _ dX12_good_12 rfl (Nat.le_of_ble_eq_true rfl) (Nat.le_of_ble_eq_true rfl) ⟨rfl, rfl, (by decide), (by simp only [mz_41, true_and, and_true, or_true, true_or, false_or, or_false, false_and, and_false, not_true_eq_false, not_false_eq_true] <;> first | omega | (simp only [Int32.lt_iff_toInt_lt, Int32.le_iff_toInt_le, Int32.reduceToInt, ← Int32.toInt_inj, true_and, and_true, or_true, true_or, false_or, or_false, false_and, and_false, not_true_eq_false, not_false_eq_true] <;> omega))⟩
  · simp only [Int32.lt_iff_toInt_lt, Int32.le_iff_toInt_le, Int32.reduceToInt, ← Int32.toInt_inj] at h_42
    refine v_iconst hC dX12_good_7 (v := 1) (by decide) ?_
    refine v_goto hC dX12_good_8 (tgt := 12) (by decide) ?_
    exact hR _ _ _ _ _ _ _ dX12_good_12 rfl (Nat.le_of_ble_eq_true rfl) (Nat.le_of_ble_eq_true rfl) ⟨rfl, rfl, (by decide), (by simp only [mz_41, true_and, and_true, or_true, true_or, false_or, or_false, false_and, and_false, not_true_eq_false, not_false_eq_true] <;> first | omega | (simp only [Int32.lt_iff_toInt_lt, Int32.le_iff_toInt_le, Int32.reduceToInt, ← Int32.toInt_inj, true_and, and_true, or_true, true_or, false_or, or_false, false_and, and_false, not_true_eq_false, not_false_eq_true] <;> omega))⟩
set_option maxRecDepth 100000 in
set_option maxHeartbeats 1500000 in
theorem p_J0_coder_7d493 {l : Launch} {E : Ez} {L : List Nat} {f : Nat → va_E} {T : Nat → va_E → Prop} {a_0 : Nat} (hW : WT T L f) (ha_0 : a_0 < 77) : CI l yJ0_coder_7d493 cJ0_coder_7d493 1 .byte 0 0 0 E [.ref (eK E a_0)] L f (fun r L1 f1 => L = L1 ∧ f = f1 ∧ (0 ≤ r.toInt ∧ r.toInt ≤ 0) ∧ narrow .byte (.int r) = .int r) := by
  refine ci_of (by decide) (Nat.le_of_ble_eq_true rfl) (fun z hz hnm hC hR => ?_)
  have hC : Cx z E cJ0_coder_7d493 RJ0 1 0 0 0 := hC
  subst hz
  show V z E 1 0 0 L f 0 [(0, .ref (eK E a_0))] []
  refine v_getCS hC sf_J0_38 dJ0_coder_7d493_0 ?_
  refine v_if_eq_f hC dJ0_coder_7d493_3 (tgt := 13) (by decide) (by decide) ?_
  refine v_aload_n hC dJ0_coder_7d493_6 rfl ?_
  refine v_getSc hC ha_0 sf_J0_15 dJ0_coder_7d493_7 ?_
  refine v_goto hC dJ0_coder_7d493_10 (tgt := 14) (by decide) ?_
  exact hR _ _ _ _ _ _ _ dJ0_coder_7d493_14 rfl (Nat.le_of_ble_eq_true rfl) (Nat.le_of_ble_eq_true rfl) ⟨rfl, rfl, (by decide), rfl⟩
set_option maxRecDepth 100000 in
set_option maxHeartbeats 1500000 in
theorem p_J0_length_8abf5 {l : Launch} {E : Ez} {L : List Nat} {f : Nat → va_E} {T : Nat → va_E → Prop} {a_0 : Nat} (hW : WT T L f) (ha_0 : a_0 < 77) : CI l yJ0_length_8abf5 cJ0_length_8abf5 1 .int 1 0 0 E [.ref (eK E a_0)] L f (fun r L1 f1 => L = L1 ∧ f = f1 ∧ (0 ≤ r.toInt ∧ r.toInt ≤ 40) ∧ r.toInt = ((bytStr.getD a_0 []).length : Int)) := by
  refine ci_of (by decide) (Nat.le_of_ble_eq_true rfl) (fun z hz hnm hC hR => ?_)
  have hC : Cx z E cJ0_length_8abf5 RJ0 1 1 0 0 := hC
  subst hz
  show V z E 1 0 0 L f 0 [(0, .ref (eK E a_0))] []
  refine v_aload_n hC dJ0_length_8abf5_0 rfl ?_
  refine v_getSv hC ha_0 sf_J0_9 dJ0_length_8abf5_1 ?_
  obtain ⟨v_1, h_2⟩ : ∃ v9 : Int32, nI (bytStr.getD a_0 []).length = v9 := ⟨_, rfl⟩
  refine v_alenS hC ha_0 dJ0_length_8abf5_4 ?_
  have b_3 := len_v ha_0
  rw [h_2] at b_3 ⊢
  refine v_aload_n hC dJ0_length_8abf5_5 rfl ?_
  refine v_viS hC (rest := [.int v_1]) ha_0 rfl mi_J0_coder_7d493 ms_J0_coder_7d493 (p_J0_coder_7d493 hW ha_0) mx_J0_coder_7d493 ml_J0_335 (by decide) rfl (cells1 := 0) (slots1 := 0) (by decide) (by decide) (Nat.le_of_ble_eq_true rfl) (Nat.le_of_ble_eq_true rfl) rfl (Nat.le_of_ble_eq_true rfl) dJ0_length_8abf5_6 (fun r_4 L_5 f_6 h_7 => ?_)
  obtain ⟨rfl, rfl, b_8, nr_9⟩ := h_7
  obtain rfl : r_4 = 0 := Int32.toInt_inj.mp (by simp only [Int32.reduceToInt]; omega)
  refine v_ishr hC dJ0_length_8abf5_9 (sb_shr0 _) ?_
  exact hR _ _ _ _ _ _ _ dJ0_length_8abf5_10 rfl (Nat.le_of_ble_eq_true rfl) (Nat.le_of_ble_eq_true rfl) ⟨rfl, rfl, (by first | omega | (simp only [Int32.lt_iff_toInt_lt, Int32.le_iff_toInt_le, Int32.reduceToInt, ← Int32.toInt_inj, true_and, and_true, or_true, true_or, false_or, or_false, false_and, and_false, not_true_eq_false, not_false_eq_true] <;> omega)), (by first | omega | (simp only [Int32.lt_iff_toInt_lt, Int32.le_iff_toInt_le, Int32.reduceToInt, ← Int32.toInt_inj, true_and, and_true, or_true, true_or, false_or, or_false, false_and, and_false, not_true_eq_false, not_false_eq_true] <;> omega))⟩
set_option maxRecDepth 100000 in
set_option maxHeartbeats 1500000 in
theorem p_J0_isLatin1_aae02 {l : Launch} {E : Ez} {L : List Nat} {f : Nat → va_E} {T : Nat → va_E → Prop} {a_0 : Nat} (hW : WT T L f) (ha_0 : a_0 < 77) : CI l yJ0_isLatin1_aae02 cJ0_isLatin1_aae02 1 .boolean 0 0 0 E [.ref (eK E a_0)] L f (fun r L1 f1 => L = L1 ∧ f = f1 ∧ (1 ≤ r.toInt ∧ r.toInt ≤ 1)) := by
  refine ci_of (by decide) (Nat.le_of_ble_eq_true rfl) (fun z hz hnm hC hR => ?_)
  have hC : Cx z E cJ0_isLatin1_aae02 RJ0 1 0 0 0 := hC
  subst hz
  show V z E 1 0 0 L f 0 [(0, .ref (eK E a_0))] []
  refine v_getCS hC sf_J0_38 dJ0_isLatin1_aae02_0 ?_
  refine v_if_eq_f hC dJ0_isLatin1_aae02_3 (tgt := 17) (by decide) (by decide) ?_
  refine v_aload_n hC dJ0_isLatin1_aae02_6 rfl ?_
  refine v_getSc hC ha_0 sf_J0_15 dJ0_isLatin1_aae02_7 ?_
  refine v_if_ne_f hC dJ0_isLatin1_aae02_10 (tgt := 17) (by decide) (by decide) ?_
  refine v_iconst hC dJ0_isLatin1_aae02_13 (v := 1) (by decide) ?_
  refine v_goto hC dJ0_isLatin1_aae02_14 (tgt := 18) (by decide) ?_
  exact hR _ _ _ _ _ _ _ dJ0_isLatin1_aae02_18 rfl (Nat.le_of_ble_eq_true rfl) (Nat.le_of_ble_eq_true rfl) ⟨rfl, rfl, (by decide)⟩
set_option maxRecDepth 100000 in
set_option maxHeartbeats 1500000 in
theorem p_J3_checkIndex_8e157 {l : Launch} {E : Ez} {L : List Nat} {f : Nat → va_E} {T : Nat → va_E → Prop} {a_0 : Int32} {a_1 : Int32} (hW : WT T L f) (hlen : 0 ≤ a_0.toInt ∧ a_0.toInt < a_1.toInt) : CI l yJ3_checkIndex_8e157 cJ3_checkIndex_8e157 3 .int 0 0 0 E [.int a_0, .int a_1, .null] L f (fun r L1 f1 => L = L1 ∧ f = f1) := by
  refine ci_of (by decide) (Nat.le_of_ble_eq_true rfl) (fun z hz hnm hC hR => ?_)
  have hC : Cx z E cJ3_checkIndex_8e157 RJ3 3 0 0 0 := hC
  subst hz
  show V z E 3 0 0 L f 0 [(0, .int a_0), (1, .int a_1), (2, .null)] []
  refine v_iload_n hC dJ3_checkIndex_8e157_0 rfl ?_
  refine v_if_lt_f hC dJ3_checkIndex_8e157_1 (tgt := 9) (by decide) (by first | omega | (simp only [Int32.lt_iff_toInt_lt, Int32.le_iff_toInt_le, Int32.reduceToInt, ← Int32.toInt_inj, true_and, and_true, or_true, true_or, false_or, or_false, false_and, and_false, not_true_eq_false, not_false_eq_true] <;> omega)) ?_
  refine v_iload_n hC dJ3_checkIndex_8e157_4 rfl ?_
  refine v_iload_n hC dJ3_checkIndex_8e157_5 rfl ?_
  refine v_icmp_lt_t hC dJ3_checkIndex_8e157_6 (tgt := 16) (by decide) (by first | omega | (simp only [Int32.lt_iff_toInt_lt, Int32.le_iff_toInt_le, Int32.reduceToInt, ← Int32.toInt_inj, true_and, and_true, or_true, true_or, false_or, or_false, false_and, and_false, not_true_eq_false, not_false_eq_true] <;> omega)) ?_
  refine v_iload_n hC dJ3_checkIndex_8e157_16 rfl ?_
  exact hR _ _ _ _ _ _ _ dJ3_checkIndex_8e157_17 rfl (Nat.le_of_ble_eq_true rfl) (Nat.le_of_ble_eq_true rfl) ⟨rfl, rfl⟩
set_option maxRecDepth 100000 in
set_option maxHeartbeats 1500000 in
theorem p_J3_checkIndex_8e157_7 {l : Launch} {E : Ez} {L : List Nat} {f : Nat → va_E} {T : Nat → va_E → Prop} {a_0 : Int32} {a_1 : Int32} {a_2 : Nat} (hW : WT T L f) (hlen : 0 ≤ a_0.toInt ∧ a_0.toInt < a_1.toInt) : CI l yJ3_checkIndex_8e157 cJ3_checkIndex_8e157 3 .int 0 0 0 E [.int a_0, .int a_1, .ref a_2] L f (fun r L1 f1 => L = L1 ∧ f = f1) := by
  refine ci_of (by decide) (Nat.le_of_ble_eq_true rfl) (fun z hz hnm hC hR => ?_)
  have hC : Cx z E cJ3_checkIndex_8e157 RJ3 3 0 0 0 := hC
  subst hz
  show V z E 3 0 0 L f 0 [(0, .int a_0), (1, .int a_1), (2, .ref a_2)] []
  refine v_iload_n hC dJ3_checkIndex_8e157_0 rfl ?_
  refine v_if_lt_f hC dJ3_checkIndex_8e157_1 (tgt := 9) (by decide) (by first | omega | (simp only [Int32.lt_iff_toInt_lt, Int32.le_iff_toInt_le, Int32.reduceToInt, ← Int32.toInt_inj, true_and, and_true, or_true, true_or, false_or, or_false, false_and, and_false, not_true_eq_false, not_false_eq_true] <;> omega)) ?_
  refine v_iload_n hC dJ3_checkIndex_8e157_4 rfl ?_
  refine v_iload_n hC dJ3_checkIndex_8e157_5 rfl ?_
  refine v_icmp_lt_t hC dJ3_checkIndex_8e157_6 (tgt := 16) (by decide) (by first | omega | (simp only [Int32.lt_iff_toInt_lt, Int32.le_iff_toInt_le, Int32.reduceToInt, ← Int32.toInt_inj, true_and, and_true, or_true, true_or, false_or, or_false, false_and, and_false, not_true_eq_false, not_false_eq_true] <;> omega)) ?_
  refine v_iload_n hC dJ3_checkIndex_8e157_16 rfl ?_
  exact hR _ _ _ _ _ _ _ dJ3_checkIndex_8e157_17 rfl (Nat.le_of_ble_eq_true rfl) (Nat.le_of_ble_eq_true rfl) ⟨rfl, rfl⟩
set_option maxRecDepth 100000 in
set_option maxHeartbeats 1500000 in
theorem p_J0_checkIndex_df160 {l : Launch} {E : Ez} {L : List Nat} {f : Nat → va_E} {T : Nat → va_E → Prop} {a_0 : Int32} {a_1 : Int32} (hW : WT T L f) (hlen : 0 ≤ a_0.toInt ∧ a_0.toInt < a_1.toInt) : CV l yJ0_checkIndex_df160 cJ0_checkIndex_df160 2 1 0 0 E [.int a_0, .int a_1] L f (fun L1 f1 => L = L1 ∧ f = f1) := by
  refine cv_of (by decide) (Nat.le_of_ble_eq_true rfl) (fun z hz hnm hC hR => ?_)
  have hC : Cx z E cJ0_checkIndex_df160 RJ0 2 1 0 0 := hC
  subst hz
  show V z E 2 0 0 L f 0 [(0, .int a_0), (1, .int a_1)] []
  refine v_iload_n hC dJ0_checkIndex_df160_0 rfl ?_
  refine v_iload_n hC dJ0_checkIndex_df160_1 rfl ?_
  refine v_getSF hC sf_J0_1053 dJ0_checkIndex_df160_2 ?_ (fun o_1 => ?_)
  · refine v_si hC (rest := []) mt_J3_checkIndex_8e157 (p_J3_checkIndex_8e157 hW (by first | omega | (simp only [Int32.lt_iff_toInt_lt, Int32.le_iff_toInt_le, Int32.reduceToInt, ← Int32.toInt_inj, true_and, and_true, or_true, true_or, false_or, or_false, false_and, and_false, not_true_eq_false, not_false_eq_true] <;> omega))) mx_J3_checkIndex_8e157 ml_J0_1059 (by decide) rfl (cells1 := 0) (slots1 := 0) (by decide) (by decide) (Nat.le_of_ble_eq_true rfl) (Nat.le_of_ble_eq_true rfl) rfl (Nat.le_of_ble_eq_true rfl) dJ0_checkIndex_df160_5 (fun r_2 L_3 f_4 h_5 => ?_)
    obtain ⟨rfl, rfl⟩ := h_5
    refine v_pop hC dJ0_checkIndex_df160_8 rfl ?_
    exact hR _ _ _ _ _ _ dJ0_checkIndex_df160_9 (Nat.le_of_ble_eq_true rfl) (Nat.le_of_ble_eq_true rfl) ⟨rfl, rfl⟩
  · refine v_si hC (rest := []) mt_J3_checkIndex_8e157 (p_J3_checkIndex_8e157_7 hW (by first | omega | (simp only [Int32.lt_iff_toInt_lt, Int32.le_iff_toInt_le, Int32.reduceToInt, ← Int32.toInt_inj, true_and, and_true, or_true, true_or, false_or, or_false, false_and, and_false, not_true_eq_false, not_false_eq_true] <;> omega))) mx_J3_checkIndex_8e157 ml_J0_1059 (by decide) rfl (cells1 := 0) (slots1 := 0) (by decide) (by decide) (Nat.le_of_ble_eq_true rfl) (Nat.le_of_ble_eq_true rfl) rfl (Nat.le_of_ble_eq_true rfl) dJ0_checkIndex_df160_5 (fun r_8 L_9 f_10 h_11 => ?_)
    obtain ⟨rfl, rfl⟩ := h_11
    refine v_pop hC dJ0_checkIndex_df160_8 rfl ?_
    exact hR _ _ _ _ _ _ dJ0_checkIndex_df160_9 (Nat.le_of_ble_eq_true rfl) (Nat.le_of_ble_eq_true rfl) ⟨rfl, rfl⟩
set_option maxRecDepth 100000 in
set_option maxHeartbeats 1500000 in
theorem p_J1_charAt_3b067 {l : Launch} {E : Ez} {L : List Nat} {f : Nat → va_E} {T : Nat → va_E → Prop} {a_0 : Nat} {a_1 : Int32} (hW : WT T L f) (ha_0 : a_0 < 77) (hlen : 0 ≤ a_1.toInt ∧ a_1.toInt < ((bytStr.getD a_0 []).length : Int)) : CI l yJ1_charAt_3b067 cJ1_charAt_3b067 2 .char 2 0 0 E [.ref (eV E a_0), .int a_1] L f (fun r L1 f1 => L = L1 ∧ f = f1 ∧ r = (chv a_0 a_1) ∧ narrow .char (.int r) = .int r) := by
  refine ci_of (by decide) (Nat.le_of_ble_eq_true rfl) (fun z hz hnm hC hR => ?_)
  have hC : Cx z E cJ1_charAt_3b067 RJ1 2 2 0 0 := hC
  subst hz
  show V z E 2 0 0 L f 0 [(0, .ref (eV E a_0)), (1, .int a_1)] []
  refine v_iload_n hC dJ1_charAt_3b067_0 rfl ?_
  refine v_aload_n hC dJ1_charAt_3b067_1 rfl ?_
  obtain ⟨v_1, h_2⟩ : ∃ v9 : Int32, nI (bytStr.getD a_0 []).length = v9 := ⟨_, rfl⟩
  refine v_alenS hC ha_0 dJ1_charAt_3b067_2 ?_
  have b_3 := len_v ha_0
  rw [h_2] at b_3 ⊢
  refine v_sv hC (rest := []) mt_J0_checkIndex_df160 (p_J0_checkIndex_df160 hW (by first | omega | (simp only [Int32.lt_iff_toInt_lt, Int32.le_iff_toInt_le, Int32.reduceToInt, ← Int32.toInt_inj, true_and, and_true, or_true, true_or, false_or, or_false, false_and, and_false, not_true_eq_false, not_false_eq_true] <;> omega))) mx_J0_checkIndex_df160 ml_J1_9 (by decide) rfl (cells1 := 0) (slots1 := 0) (by decide) (by decide) (Nat.le_of_ble_eq_true rfl) (Nat.le_of_ble_eq_true rfl) rfl (Nat.le_of_ble_eq_true rfl) dJ1_charAt_3b067_3 (fun L_5 f_6 h_7 => ?_)
  obtain ⟨rfl, rfl⟩ := h_7
  refine v_aload_n hC dJ1_charAt_3b067_6 rfl ?_
  refine v_iload_n hC dJ1_charAt_3b067_7 rfl ?_
  obtain ⟨v_10, h_11⟩ : ∃ v9 : Int32, (bytStr.getD a_0 []).getD (a_1 : Int32).toNatClampNeg 0 = v9 := ⟨_, rfl⟩
  refine v_baldS hC ha_0 (vp_in_iff.mpr (by first | omega | (simp only [Int32.lt_iff_toInt_lt, Int32.le_iff_toInt_le, Int32.reduceToInt, ← Int32.toInt_inj, true_and, and_true, or_true, true_or, false_or, or_false, false_and, and_false, not_true_eq_false, not_false_eq_true] <;> omega))) h_11 dJ1_charAt_3b067_8 ?_
  refine v_sipush hC dJ1_charAt_3b067_9 (v := 255) (by decide) ?_
  obtain ⟨v_12, h_13⟩ : ∃ v9 : Int32, v_10 &&& 255 = v9 := ⟨_, rfl⟩
  refine v_iand hC dJ1_charAt_3b067_12 h_13 ?_
  have h_14 := and_v h_13 (by decide)
  try simp only [Int32.reduceToInt] at h_14
  obtain ⟨v_15, h_16⟩ : ∃ v9 : Int32, (v_12.toUInt32 % 65536).toInt32 = v9 := ⟨_, rfl⟩
  refine v_i2c hC dJ1_charAt_3b067_13 h_16 ?_
  exact hR _ _ _ _ _ _ _ dJ1_charAt_3b067_14 (by rw [← h_16]; exact pk_nc _) (Nat.le_of_ble_eq_true rfl) (Nat.le_of_ble_eq_true rfl) ⟨rfl, rfl, (by rw [← h_16, ← h_13, ← h_11]; rfl), (by rw [← h_16]; exact pk_nc _)⟩
set_option maxRecDepth 100000 in
set_option maxHeartbeats 1500000 in
theorem p_J0_charAt_5068e {l : Launch} {E : Ez} {L : List Nat} {f : Nat → va_E} {T : Nat → va_E → Prop} {a_0 : Nat} {a_1 : Int32} (hW : WT T L f) (ha_0 : a_0 < 77) (hlen : 0 ≤ a_1.toInt ∧ a_1.toInt < ((bytStr.getD a_0 []).length : Int)) : CI l yJ0_charAt_5068e cJ0_charAt_5068e 2 .char 3 0 0 E [.ref (eK E a_0), .int a_1] L f (fun r L1 f1 => L = L1 ∧ f = f1 ∧ r = (chv a_0 a_1) ∧ narrow .char (.int r) = .int r) := by
  refine ci_of (by decide) (Nat.le_of_ble_eq_true rfl) (fun z hz hnm hC hR => ?_)
  have hC : Cx z E cJ0_charAt_5068e RJ0 2 3 0 0 := hC
  subst hz
  show V z E 2 0 0 L f 0 [(0, .ref (eK E a_0)), (1, .int a_1)] []
  refine v_aload_n hC dJ0_charAt_5068e_0 rfl ?_
  refine v_viS hC (rest := []) ha_0 rfl mi_J0_isLatin1_aae02 ms_J0_isLatin1_aae02 (p_J0_isLatin1_aae02 hW ha_0) mx_J0_isLatin1_aae02 ml_J0_492 (by decide) rfl (cells1 := 0) (slots1 := 0) (by decide) (by decide) (Nat.le_of_ble_eq_true rfl) (Nat.le_of_ble_eq_true rfl) rfl (Nat.le_of_ble_eq_true rfl) dJ0_charAt_5068e_1 (fun r_1 L_2 f_3 h_4 => ?_)
  obtain ⟨rfl, rfl, b_5⟩ := h_4
  obtain rfl : r_1 = 1 := Int32.toInt_inj.mp (by simp only [Int32.reduceToInt]; omega)
  refine v_if_eq_f hC dJ0_charAt_5068e_4 (tgt := 16) (by decide) (by decide) ?_
  refine v_aload_n hC dJ0_charAt_5068e_7 rfl ?_
  refine v_getSv hC ha_0 sf_J0_9 dJ0_charAt_5068e_8 ?_
  refine v_iload_n hC dJ0_charAt_5068e_11 rfl ?_
  refine v_si hC (rest := []) mt_J1_charAt_3b067 (p_J1_charAt_3b067 hW ha_0 (by first | omega | (simp only [Int32.lt_iff_toInt_lt, Int32.le_iff_toInt_le, Int32.reduceToInt, ← Int32.toInt_inj, true_and, and_true, or_true, true_or, false_or, or_false, false_and, and_false, not_true_eq_false, not_false_eq_true] <;> omega))) mx_J1_charAt_3b067 ml_J0_495 (by decide) rfl (cells1 := 0) (slots1 := 0) (by decide) (by decide) (Nat.le_of_ble_eq_true rfl) (Nat.le_of_ble_eq_true rfl) rfl (Nat.le_of_ble_eq_true rfl) dJ0_charAt_5068e_12 (fun r_8 L_9 f_10 h_11 => ?_)
  obtain ⟨rfl, rfl, rfl, nr_12⟩ := h_11
  exact hR _ _ _ _ _ _ _ dJ0_charAt_5068e_15 nr_12 (Nat.le_of_ble_eq_true rfl) (Nat.le_of_ble_eq_true rfl) ⟨rfl, rfl, rfl, nr_12⟩
set_option maxRecDepth 100000 in
set_option maxHeartbeats 1500000 in
theorem p_X12_is {l : Launch} {E : Ez} {L : List Nat} {f : Nat → va_E} {T : Nat → va_E → Prop} {a_0 : Nat} {a_1 : Nat} {q : Nat → Nat} (hW : WT T L f) (k_0 : isM T L E a_0 q) (ha_1 : a_1 < 77) : CI l yX12_is cX12_is 4 .boolean 4 0 0 E [.ref a_0, .ref (eK E a_1)] L f (fun r L1 f1 => L = L1 ∧ f = f1 ∧ r = (iw (f a_0) (f (q 4)) a_1)) := by
  refine ci_of (by decide) (Nat.le_of_ble_eq_true rfl) (fun z hz hnm hC hR => ?_)
  have hC : Cx z E cX12_is RX12 4 4 0 0 := hC
  subst hz
  show V z E 4 0 0 L f 0 [(0, .ref a_0), (1, .ref (eK E a_1))] []
  obtain ⟨m_1, t_2, nq_21, k_3, k_4, k_5, k_6, k_7, k_8, k_9, k_10, k_11, k_12, k_13, k_14, k_15, k_16, k_17, k_18, k_19, k_20⟩ := id k_0
  refine v_aload_n hC dX12_is_0 rfl ?_
  obtain ⟨v_23, v_24, v_26, v_28, v_30, v_32, v_34, v_35, v_36, v_37, v_39, e_22, b_25, b_27, b_29, b_31, b_33, b_38, b_40⟩ := hW.at m_1 t_2
  refine v_vi hC (rest := []) m_1 e_22 rfl mi_X12_good ms_X12_good (p_X12_good hW k_0) mx_X12_good ml_X12_139 (by decide) rfl (cells1 := 0) (slots1 := 0) (by decide) (by decide) (Nat.le_of_ble_eq_true rfl) (Nat.le_of_ble_eq_true rfl) rfl (Nat.le_of_ble_eq_true rfl) dX12_is_1 (fun r_41 L_42 f_43 h_44 => ?_)
  obtain ⟨rfl, rfl, b_45, x_46⟩ := h_44
  have fe_49 : fld (f a_0) 12 = (v_35 : Int32).toInt := by rw [e_22]; rfl
  rw [fe_49] at x_46
  clear fe_49
  try simp only [Int32.reduceToInt, Int64.reduceToInt] at x_46
  refine v_if_eq hC dX12_is_4 (tgt := 35) (by decide) (fun h_50 => ?_) (fun h_50 => ?_)
  · simp only [Int32.lt_iff_toInt_lt, Int32.le_iff_toInt_le, Int32.reduceToInt, ← Int32.toInt_inj] at h_50
    refine v_iconst hC dX12_is_35 (v := 0) (by decide) ?_
    refine v_istore_n hC dX12_is_36 (by decide) (lv' := [(2, .int 0), (0, .ref a_0), (1, .ref (eK E a_1))]) rfl ?_
    refine v_iconst hC dX12_is_37 (v := 0) (by decide) ?_
    refine v_istore_n hC dX12_is_38 (by decide) (lv' := [(3, .int 0), (2, .int 0), (0, .ref a_0), (1, .ref (eK E a_1))]) rfl ?_
    have lp_193 : ∀ (n_194 : Nat) (i_188 : Int32) (b_190 : (0 ≤ i_188.toInt ∧ i_188.toInt ≤ 40)) (i_189 : Int32) (b_191 : (0 ≤ i_189.toInt ∧ i_189.toInt ≤ 1)) (cv_192 : IWI (f a_0) (f (q 4)) a_1 i_189 i_188) (hm_196 : 40 - i_188.toInt < (n_194 : Int)), V z E 4 0 0 L f 39 [(3, .int i_188), (2, .int i_189), (0, .ref a_0), (1, .ref (eK E a_1))] [] := by
      intro n_194
      induction n_194 with
      | zero =>
        intro i_188 b_190 i_189 b_191 cv_192 hm_196
        have bs_197 := cv_192.bs
        have fe_198 : fld (f a_0) 8 = (v_28 : Int32).toInt := by rw [e_22]; rfl
        have fe_199 : fld (f a_0) 9 = (v_30 : Int32).toInt := by rw [e_22]; rfl
        have fe_200 : fld (f a_0) 10 = (v_32 : Int32).toInt := by rw [e_22]; rfl
        have fe_201 : fld (f a_0) 12 = (v_35 : Int32).toInt := by rw [e_22]; rfl
        rw [fe_198, fe_199, fe_200, fe_201] at bs_197
        exfalso; omega
      | succ n_194 ih_195 =>
        intro i_188 b_190 i_189 b_191 cv_192 hm_196
        have bs_197 := cv_192.bs
        have fe_198 : fld (f a_0) 8 = (v_28 : Int32).toInt := by rw [e_22]; rfl
        have fe_199 : fld (f a_0) 9 = (v_30 : Int32).toInt := by rw [e_22]; rfl
        have fe_200 : fld (f a_0) 10 = (v_32 : Int32).toInt := by rw [e_22]; rfl
        have fe_201 : fld (f a_0) 12 = (v_35 : Int32).toInt := by rw [e_22]; rfl
        rw [fe_198, fe_199, fe_200, fe_201] at bs_197
        refine v_iload_n hC dX12_is_39 rfl ?_
        refine v_aload_n hC dX12_is_40 rfl ?_
        refine v_viS hC (rest := [.int i_188]) ha_1 rfl mi_J0_length_8abf5 ms_J0_length_8abf5 (p_J0_length_8abf5 hW ha_1) mx_J0_length_8abf5 ml_X12_143 (by decide) rfl (cells1 := 0) (slots1 := 0) (by decide) (by decide) (Nat.le_of_ble_eq_true rfl) (Nat.le_of_ble_eq_true rfl) rfl (Nat.le_of_ble_eq_true rfl) dX12_is_41 (fun r_202 L_203 f_204 h_205 => ?_)
        obtain ⟨rfl, rfl, b_206, x_207⟩ := h_205
        try simp only [Int32.reduceToInt, Int64.reduceToInt] at x_207
        refine v_icmp_ge hC dX12_is_44 (tgt := 82) (by decide) (fun h_210 => ?_) (fun h_210 => ?_)
        · simp only [Int32.lt_iff_toInt_lt, Int32.le_iff_toInt_le, Int32.reduceToInt, ← Int32.toInt_inj] at h_210
          refine v_iload_n hC dX12_is_82 rfl ?_
          exact hR _ _ _ _ _ _ _ dX12_is_83 (nar01 (by first | omega | (simp only [Int32.lt_iff_toInt_lt, Int32.le_iff_toInt_le, Int32.reduceToInt, ← Int32.toInt_inj, true_and, and_true, or_true, true_or, false_or, or_false, false_and, and_false, not_true_eq_false, not_false_eq_true] <;> omega))) (Nat.le_of_ble_eq_true rfl) (Nat.le_of_ble_eq_true rfl) ⟨rfl, rfl, (cv_192.fin (by first | (left; omega) | (right; omega)))⟩
        · simp only [Int32.lt_iff_toInt_lt, Int32.le_iff_toInt_le, Int32.reduceToInt, ← Int32.toInt_inj] at h_210
          refine v_iload_n hC dX12_is_47 rfl ?_
          refine v_if_eq hC dX12_is_48 (tgt := 82) (by decide) (fun h_211 => ?_) (fun h_211 => ?_)
          · simp only [Int32.lt_iff_toInt_lt, Int32.le_iff_toInt_le, Int32.reduceToInt, ← Int32.toInt_inj] at h_211
            refine v_iload_n hC dX12_is_82 rfl ?_
            exact hR _ _ _ _ _ _ _ dX12_is_83 (nar01 (by first | omega | (simp only [Int32.lt_iff_toInt_lt, Int32.le_iff_toInt_le, Int32.reduceToInt, ← Int32.toInt_inj, true_and, and_true, or_true, true_or, false_or, or_false, false_and, and_false, not_true_eq_false, not_false_eq_true] <;> omega))) (Nat.le_of_ble_eq_true rfl) (Nat.le_of_ble_eq_true rfl) ⟨rfl, rfl, (cv_192.fin (by first | (left; omega) | (right; omega)))⟩
          · simp only [Int32.lt_iff_toInt_lt, Int32.le_iff_toInt_le, Int32.reduceToInt, ← Int32.toInt_inj] at h_211
            refine v_aload_n hC dX12_is_51 rfl ?_
            refine v_get hC fl_X12_24 m_1 e_22 rfl dX12_is_52 ?_
            refine v_aload_n hC dX12_is_55 rfl ?_
            refine v_get hC fl_X12_117 m_1 e_22 rfl dX12_is_56 ?_
            refine v_iload_n hC dX12_is_59 rfl ?_
            obtain ⟨v_212, h_213⟩ : ∃ v9 : Int32, v_30 + i_188 = v9 := ⟨_, rfl⟩
            refine v_iadd hC dX12_is_60 h_213 ?_
            have h_214 := add_v h_213 (by first | omega | (simp only [Int32.lt_iff_toInt_lt, Int32.le_iff_toInt_le, Int32.reduceToInt, ← Int32.toInt_inj, true_and, and_true, or_true, true_or, false_or, or_false, false_and, and_false, not_true_eq_false, not_false_eq_true] <;> omega)) (by first | omega | (simp only [Int32.lt_iff_toInt_lt, Int32.le_iff_toInt_le, Int32.reduceToInt, ← Int32.toInt_inj, true_and, and_true, or_true, true_or, false_or, or_false, false_and, and_false, not_true_eq_false, not_false_eq_true] <;> omega))
            obtain ⟨m_215, t_216⟩ := id k_6
            obtain ⟨g_218, e_217, fit_219⟩ := hW.at m_215 t_216
            obtain ⟨v_220, h_221⟩ : ∃ v9 : Int32, g_218 (v_212 : Int32).toNatClampNeg = v9 := ⟨_, rfl⟩
            refine v_bald hC m_215 e_217 (vp_in_iff.mpr (by first | omega | (simp only [Int32.lt_iff_toInt_lt, Int32.le_iff_toInt_le, Int32.reduceToInt, ← Int32.toInt_inj, true_and, and_true, or_true, true_or, false_or, or_false, false_and, and_false, not_true_eq_false, not_false_eq_true] <;> omega))) h_221 dX12_is_61 ?_
            refine v_aload_n hC dX12_is_62 rfl ?_
            refine v_iload_n hC dX12_is_63 rfl ?_
            refine v_viS hC (rest := [.int v_220]) ha_1 rfl mi_J0_charAt_5068e ms_J0_charAt_5068e (p_J0_charAt_5068e hW ha_1 (by first | omega | (simp only [Int32.lt_iff_toInt_lt, Int32.le_iff_toInt_le, Int32.reduceToInt, ← Int32.toInt_inj, true_and, and_true, or_true, true_or, false_or, or_false, false_and, and_false, not_true_eq_false, not_false_eq_true] <;> omega))) mx_J0_charAt_5068e ml_X12_148 (by decide) rfl (cells1 := 0) (slots1 := 0) (by decide) (by decide) (Nat.le_of_ble_eq_true rfl) (Nat.le_of_ble_eq_true rfl) rfl (Nat.le_of_ble_eq_true rfl) dX12_is_64 (fun r_222 L_223 f_224 h_225 => ?_)
            obtain ⟨rfl, rfl, rfl, nr_226⟩ := h_225
            refine v_icmp_ne hC dX12_is_67 (tgt := 74) (by decide) (fun h_229 => ?_) (fun h_229 => ?_)
            · simp only [Int32.lt_iff_toInt_lt, Int32.le_iff_toInt_le, Int32.reduceToInt, ← Int32.toInt_inj] at h_229
              refine v_iconst hC dX12_is_74 (v := 0) (by decide) ?_
              refine v_istore_n hC dX12_is_75 (by decide) (lv' := [(2, .int 0), (3, .int i_188), (0, .ref a_0), (1, .ref (eK E a_1))]) rfl ?_
              obtain ⟨v_230, h_231⟩ : ∃ v9 : Int32, i_188 + Int32.ofInt 1 = v9 := ⟨_, rfl⟩
              have h_232 := add_v (b := 1) h_231 (by first | omega | (simp only [Int32.lt_iff_toInt_lt, Int32.le_iff_toInt_le, Int32.reduceToInt, ← Int32.toInt_inj, true_and, and_true, or_true, true_or, false_or, or_false, false_and, and_false, not_true_eq_false, not_false_eq_true] <;> omega)) (by first | omega | (simp only [Int32.lt_iff_toInt_lt, Int32.le_iff_toInt_le, Int32.reduceToInt, ← Int32.toInt_inj, true_and, and_true, or_true, true_or, false_or, or_false, false_and, and_false, not_true_eq_false, not_false_eq_true] <;> omega))
              simp only [Int32.reduceToInt] at h_232
              refine v_iinc hC dX12_is_76 (k := 1) rfl (v := v_230) h_231 (by decide) (lv' := [(3, .int v_230), (2, .int 0), (0, .ref a_0), (1, .ref (eK E a_1))]) rfl ?_
              refine v_goto hC dX12_is_79 (tgt := 39) (by decide) ?_
              refine v_pick [0, 1, 2, 3] rfl ?_
              have fe_233 : fld (f a_0) 9 = (v_30 : Int32).toInt := by rw [e_22]; rfl
              exact ih_195 v_230 (by first | omega | (simp only [Int32.lt_iff_toInt_lt, Int32.le_iff_toInt_le, Int32.reduceToInt, ← Int32.toInt_inj, true_and, and_true, or_true, true_or, false_or, or_false, false_and, and_false, not_true_eq_false, not_false_eq_true] <;> omega)) 0 (by decide) (cv_192.no (by omega) (by omega) (by omega) (fun q9 => h_229 (congrArg Int32.toInt ((bat_at (t := f (q 4)) e_217 h_221 (k := i_188) (F := fld (f a_0) 9) (by rw [fe_233]; omega) (by rw [fe_233]; omega) (by omega)).symm.trans q9)))) (by first | omega | (simp only [Int32.lt_iff_toInt_lt, Int32.le_iff_toInt_le, Int32.reduceToInt, ← Int32.toInt_inj, true_and, and_true, or_true, true_or, false_or, or_false, false_and, and_false, not_true_eq_false, not_false_eq_true] <;> omega))
            · simp only [Int32.lt_iff_toInt_lt, Int32.le_iff_toInt_le, Int32.reduceToInt, ← Int32.toInt_inj] at h_229
              refine v_iconst hC dX12_is_70 (v := 1) (by decide) ?_
              refine v_goto hC dX12_is_71 (tgt := 75) (by decide) ?_
              refine v_istore_n hC dX12_is_75 (by decide) (lv' := [(2, .int 1), (3, .int i_188), (0, .ref a_0), (1, .ref (eK E a_1))]) rfl ?_
              obtain ⟨v_234, h_235⟩ : ∃ v9 : Int32, i_188 + Int32.ofInt 1 = v9 := ⟨_, rfl⟩
              have h_236 := add_v (b := 1) h_235 (by first | omega | (simp only [Int32.lt_iff_toInt_lt, Int32.le_iff_toInt_le, Int32.reduceToInt, ← Int32.toInt_inj, true_and, and_true, or_true, true_or, false_or, or_false, false_and, and_false, not_true_eq_false, not_false_eq_true] <;> omega)) (by first | omega | (simp only [Int32.lt_iff_toInt_lt, Int32.le_iff_toInt_le, Int32.reduceToInt, ← Int32.toInt_inj, true_and, and_true, or_true, true_or, false_or, or_false, false_and, and_false, not_true_eq_false, not_false_eq_true] <;> omega))
              simp only [Int32.reduceToInt] at h_236
              refine v_iinc hC dX12_is_76 (k := 1) rfl (v := v_234) h_235 (by decide) (lv' := [(3, .int v_234), (2, .int 1), (0, .ref a_0), (1, .ref (eK E a_1))]) rfl ?_
              refine v_goto hC dX12_is_79 (tgt := 39) (by decide) ?_
              refine v_pick [0, 1, 2, 3] rfl ?_
              have fe_237 : fld (f a_0) 9 = (v_30 : Int32).toInt := by rw [e_22]; rfl
              exact ih_195 v_234 (by first | omega | (simp only [Int32.lt_iff_toInt_lt, Int32.le_iff_toInt_le, Int32.reduceToInt, ← Int32.toInt_inj, true_and, and_true, or_true, true_or, false_or, or_false, false_and, and_false, not_true_eq_false, not_false_eq_true] <;> omega)) 1 (by decide) (cv_192.yes (by omega) (by omega) (by omega) ((bat_at (t := f (q 4)) e_217 h_221 (k := i_188) (F := fld (f a_0) 9) (by rw [fe_237]; omega) (by rw [fe_237]; omega) (by omega)).trans (Int32.toInt_inj.mp (by omega)))) (by first | omega | (simp only [Int32.lt_iff_toInt_lt, Int32.le_iff_toInt_le, Int32.reduceToInt, ← Int32.toInt_inj, true_and, and_true, or_true, true_or, false_or, or_false, false_and, and_false, not_true_eq_false, not_false_eq_true] <;> omega))
    refine v_pick [0, 1, 2, 3] rfl ?_
    have fe_238 : fld (f a_0) 8 = (v_28 : Int32).toInt := by rw [e_22]; rfl
    have fe_239 : fld (f a_0) 9 = (v_30 : Int32).toInt := by rw [e_22]; rfl
    have fe_240 : fld (f a_0) 10 = (v_32 : Int32).toInt := by rw [e_22]; rfl
    have fe_241 : fld (f a_0) 12 = (v_35 : Int32).toInt := by rw [e_22]; rfl
    exact lp_193 42 0 (by decide) 0 (by decide) (IWI.s0 (by intro q9; rw [fe_238, fe_239, fe_240, fe_241] at q9; omega)) (by decide)
  · simp only [Int32.lt_iff_toInt_lt, Int32.le_iff_toInt_le, Int32.reduceToInt, ← Int32.toInt_inj] at h_50
    refine v_aload_n hC dX12_is_7 rfl ?_
    refine v_get hC fl_X12_120 m_1 e_22 rfl dX12_is_8 ?_
    refine v_iconst hC dX12_is_11 (v := 1) (by decide) ?_
    refine v_icmp_ne hC dX12_is_12 (tgt := 35) (by decide) (fun h_242 => ?_) (fun h_242 => ?_)
    · simp only [Int32.lt_iff_toInt_lt, Int32.le_iff_toInt_le, Int32.reduceToInt, ← Int32.toInt_inj] at h_242
      refine v_iconst hC dX12_is_35 (v := 0) (by decide) ?_
      refine v_istore_n hC dX12_is_36 (by decide) (lv' := [(2, .int 0), (0, .ref a_0), (1, .ref (eK E a_1))]) rfl ?_
      refine v_iconst hC dX12_is_37 (v := 0) (by decide) ?_
      refine v_istore_n hC dX12_is_38 (by decide) (lv' := [(3, .int 0), (2, .int 0), (0, .ref a_0), (1, .ref (eK E a_1))]) rfl ?_
      have lp_385 : ∀ (n_386 : Nat) (i_380 : Int32) (b_382 : (0 ≤ i_380.toInt ∧ i_380.toInt ≤ 40)) (i_381 : Int32) (b_383 : (0 ≤ i_381.toInt ∧ i_381.toInt ≤ 1)) (cv_384 : IWI (f a_0) (f (q 4)) a_1 i_381 i_380) (hm_388 : 40 - i_380.toInt < (n_386 : Int)), V z E 4 0 0 L f 39 [(3, .int i_380), (2, .int i_381), (0, .ref a_0), (1, .ref (eK E a_1))] [] := by
        intro n_386
        induction n_386 with
        | zero =>
          intro i_380 b_382 i_381 b_383 cv_384 hm_388
          have bs_389 := cv_384.bs
          have fe_390 : fld (f a_0) 8 = (v_28 : Int32).toInt := by rw [e_22]; rfl
          have fe_391 : fld (f a_0) 9 = (v_30 : Int32).toInt := by rw [e_22]; rfl
          have fe_392 : fld (f a_0) 10 = (v_32 : Int32).toInt := by rw [e_22]; rfl
          have fe_393 : fld (f a_0) 12 = (v_35 : Int32).toInt := by rw [e_22]; rfl
          rw [fe_390, fe_391, fe_392, fe_393] at bs_389
          exfalso; omega
        | succ n_386 ih_387 =>
          intro i_380 b_382 i_381 b_383 cv_384 hm_388
          have bs_389 := cv_384.bs
          have fe_390 : fld (f a_0) 8 = (v_28 : Int32).toInt := by rw [e_22]; rfl
          have fe_391 : fld (f a_0) 9 = (v_30 : Int32).toInt := by rw [e_22]; rfl
          have fe_392 : fld (f a_0) 10 = (v_32 : Int32).toInt := by rw [e_22]; rfl
          have fe_393 : fld (f a_0) 12 = (v_35 : Int32).toInt := by rw [e_22]; rfl
          rw [fe_390, fe_391, fe_392, fe_393] at bs_389
          refine v_iload_n hC dX12_is_39 rfl ?_
          refine v_aload_n hC dX12_is_40 rfl ?_
          refine v_viS hC (rest := [.int i_380]) ha_1 rfl mi_J0_length_8abf5 ms_J0_length_8abf5 (p_J0_length_8abf5 hW ha_1) mx_J0_length_8abf5 ml_X12_143 (by decide) rfl (cells1 := 0) (slots1 := 0) (by decide) (by decide) (Nat.le_of_ble_eq_true rfl) (Nat.le_of_ble_eq_true rfl) rfl (Nat.le_of_ble_eq_true rfl) dX12_is_41 (fun r_394 L_395 f_396 h_397 => ?_)
          obtain ⟨rfl, rfl, b_398, x_399⟩ := h_397
          try simp only [Int32.reduceToInt, Int64.reduceToInt] at x_399
          refine v_icmp_ge hC dX12_is_44 (tgt := 82) (by decide) (fun h_402 => ?_) (fun h_402 => ?_)
          · simp only [Int32.lt_iff_toInt_lt, Int32.le_iff_toInt_le, Int32.reduceToInt, ← Int32.toInt_inj] at h_402
            refine v_iload_n hC dX12_is_82 rfl ?_
            exact hR _ _ _ _ _ _ _ dX12_is_83 (nar01 (by first | omega | (simp only [Int32.lt_iff_toInt_lt, Int32.le_iff_toInt_le, Int32.reduceToInt, ← Int32.toInt_inj, true_and, and_true, or_true, true_or, false_or, or_false, false_and, and_false, not_true_eq_false, not_false_eq_true] <;> omega))) (Nat.le_of_ble_eq_true rfl) (Nat.le_of_ble_eq_true rfl) ⟨rfl, rfl, (cv_384.fin (by first | (left; omega) | (right; omega)))⟩
          · simp only [Int32.lt_iff_toInt_lt, Int32.le_iff_toInt_le, Int32.reduceToInt, ← Int32.toInt_inj] at h_402
            refine v_iload_n hC dX12_is_47 rfl ?_
            refine v_if_eq hC dX12_is_48 (tgt := 82) (by decide) (fun h_403 => ?_) (fun h_403 => ?_)
            · simp only [Int32.lt_iff_toInt_lt, Int32.le_iff_toInt_le, Int32.reduceToInt, ← Int32.toInt_inj] at h_403
              refine v_iload_n hC dX12_is_82 rfl ?_
              exact hR _ _ _ _ _ _ _ dX12_is_83 (nar01 (by first | omega | (simp only [Int32.lt_iff_toInt_lt, Int32.le_iff_toInt_le, Int32.reduceToInt, ← Int32.toInt_inj, true_and, and_true, or_true, true_or, false_or, or_false, false_and, and_false, not_true_eq_false, not_false_eq_true] <;> omega))) (Nat.le_of_ble_eq_true rfl) (Nat.le_of_ble_eq_true rfl) ⟨rfl, rfl, (cv_384.fin (by first | (left; omega) | (right; omega)))⟩
            · simp only [Int32.lt_iff_toInt_lt, Int32.le_iff_toInt_le, Int32.reduceToInt, ← Int32.toInt_inj] at h_403
              refine v_aload_n hC dX12_is_51 rfl ?_
              refine v_get hC fl_X12_24 m_1 e_22 rfl dX12_is_52 ?_
              refine v_aload_n hC dX12_is_55 rfl ?_
              refine v_get hC fl_X12_117 m_1 e_22 rfl dX12_is_56 ?_
              refine v_iload_n hC dX12_is_59 rfl ?_
              obtain ⟨v_404, h_405⟩ : ∃ v9 : Int32, v_30 + i_380 = v9 := ⟨_, rfl⟩
              refine v_iadd hC dX12_is_60 h_405 ?_
              have h_406 := add_v h_405 (by first | omega | (simp only [Int32.lt_iff_toInt_lt, Int32.le_iff_toInt_le, Int32.reduceToInt, ← Int32.toInt_inj, true_and, and_true, or_true, true_or, false_or, or_false, false_and, and_false, not_true_eq_false, not_false_eq_true] <;> omega)) (by first | omega | (simp only [Int32.lt_iff_toInt_lt, Int32.le_iff_toInt_le, Int32.reduceToInt, ← Int32.toInt_inj, true_and, and_true, or_true, true_or, false_or, or_false, false_and, and_false, not_true_eq_false, not_false_eq_true] <;> omega))
              obtain ⟨m_407, t_408⟩ := id k_6
              obtain ⟨g_410, e_409, fit_411⟩ := hW.at m_407 t_408
              obtain ⟨v_412, h_413⟩ : ∃ v9 : Int32, g_410 (v_404 : Int32).toNatClampNeg = v9 := ⟨_, rfl⟩
              refine v_bald hC m_407 e_409 (vp_in_iff.mpr (by first | omega | (simp only [Int32.lt_iff_toInt_lt, Int32.le_iff_toInt_le, Int32.reduceToInt, ← Int32.toInt_inj, true_and, and_true, or_true, true_or, false_or, or_false, false_and, and_false, not_true_eq_false, not_false_eq_true] <;> omega))) h_413 dX12_is_61 ?_
              refine v_aload_n hC dX12_is_62 rfl ?_
              refine v_iload_n hC dX12_is_63 rfl ?_
              refine v_viS hC (rest := [.int v_412]) ha_1 rfl mi_J0_charAt_5068e ms_J0_charAt_5068e (p_J0_charAt_5068e hW ha_1 (by first | omega | (simp only [Int32.lt_iff_toInt_lt, Int32.le_iff_toInt_le, Int32.reduceToInt, ← Int32.toInt_inj, true_and, and_true, or_true, true_or, false_or, or_false, false_and, and_false, not_true_eq_false, not_false_eq_true] <;> omega))) mx_J0_charAt_5068e ml_X12_148 (by decide) rfl (cells1 := 0) (slots1 := 0) (by decide) (by decide) (Nat.le_of_ble_eq_true rfl) (Nat.le_of_ble_eq_true rfl) rfl (Nat.le_of_ble_eq_true rfl) dX12_is_64 (fun r_414 L_415 f_416 h_417 => ?_)
              obtain ⟨rfl, rfl, rfl, nr_418⟩ := h_417
              refine v_icmp_ne hC dX12_is_67 (tgt := 74) (by decide) (fun h_421 => ?_) (fun h_421 => ?_)
              · simp only [Int32.lt_iff_toInt_lt, Int32.le_iff_toInt_le, Int32.reduceToInt, ← Int32.toInt_inj] at h_421
                refine v_iconst hC dX12_is_74 (v := 0) (by decide) ?_
                refine v_istore_n hC dX12_is_75 (by decide) (lv' := [(2, .int 0), (3, .int i_380), (0, .ref a_0), (1, .ref (eK E a_1))]) rfl ?_
                obtain ⟨v_422, h_423⟩ : ∃ v9 : Int32, i_380 + Int32.ofInt 1 = v9 := ⟨_, rfl⟩
                have h_424 := add_v (b := 1) h_423 (by first | omega | (simp only [Int32.lt_iff_toInt_lt, Int32.le_iff_toInt_le, Int32.reduceToInt, ← Int32.toInt_inj, true_and, and_true, or_true, true_or, false_or, or_false, false_and, and_false, not_true_eq_false, not_false_eq_true] <;> omega)) (by first | omega | (simp only [Int32.lt_iff_toInt_lt, Int32.le_iff_toInt_le, Int32.reduceToInt, ← Int32.toInt_inj, true_and, and_true, or_true, true_or, false_or, or_false, false_and, and_false, not_true_eq_false, not_false_eq_true] <;> omega))
                simp only [Int32.reduceToInt] at h_424
                refine v_iinc hC dX12_is_76 (k := 1) rfl (v := v_422) h_423 (by decide) (lv' := [(3, .int v_422), (2, .int 0), (0, .ref a_0), (1, .ref (eK E a_1))]) rfl ?_
                refine v_goto hC dX12_is_79 (tgt := 39) (by decide) ?_
                refine v_pick [0, 1, 2, 3] rfl ?_
                have fe_425 : fld (f a_0) 9 = (v_30 : Int32).toInt := by rw [e_22]; rfl
                exact ih_387 v_422 (by first | omega | (simp only [Int32.lt_iff_toInt_lt, Int32.le_iff_toInt_le, Int32.reduceToInt, ← Int32.toInt_inj, true_and, and_true, or_true, true_or, false_or, or_false, false_and, and_false, not_true_eq_false, not_false_eq_true] <;> omega)) 0 (by decide) (cv_384.no (by omega) (by omega) (by omega) (fun q9 => h_421 (congrArg Int32.toInt ((bat_at (t := f (q 4)) e_409 h_413 (k := i_380) (F := fld (f a_0) 9) (by rw [fe_425]; omega) (by rw [fe_425]; omega) (by omega)).symm.trans q9)))) (by first | omega | (simp only [Int32.lt_iff_toInt_lt, Int32.le_iff_toInt_le, Int32.reduceToInt, ← Int32.toInt_inj, true_and, and_true, or_true, true_or, false_or, or_false, false_and, and_false, not_true_eq_false, not_false_eq_true] <;> omega))
              · simp only [Int32.lt_iff_toInt_lt, Int32.le_iff_toInt_le, Int32.reduceToInt, ← Int32.toInt_inj] at h_421
                refine v_iconst hC dX12_is_70 (v := 1) (by decide) ?_
                refine v_goto hC dX12_is_71 (tgt := 75) (by decide) ?_
                refine v_istore_n hC dX12_is_75 (by decide) (lv' := [(2, .int 1), (3, .int i_380), (0, .ref a_0), (1, .ref (eK E a_1))]) rfl ?_
                obtain ⟨v_426, h_427⟩ : ∃ v9 : Int32, i_380 + Int32.ofInt 1 = v9 := ⟨_, rfl⟩
                have h_428 := add_v (b := 1) h_427 (by first | omega | (simp only [Int32.lt_iff_toInt_lt, Int32.le_iff_toInt_le, Int32.reduceToInt, ← Int32.toInt_inj, true_and, and_true, or_true, true_or, false_or, or_false, false_and, and_false, not_true_eq_false, not_false_eq_true] <;> omega)) (by first | omega | (simp only [Int32.lt_iff_toInt_lt, Int32.le_iff_toInt_le, Int32.reduceToInt, ← Int32.toInt_inj, true_and, and_true, or_true, true_or, false_or, or_false, false_and, and_false, not_true_eq_false, not_false_eq_true] <;> omega))
                simp only [Int32.reduceToInt] at h_428
                refine v_iinc hC dX12_is_76 (k := 1) rfl (v := v_426) h_427 (by decide) (lv' := [(3, .int v_426), (2, .int 1), (0, .ref a_0), (1, .ref (eK E a_1))]) rfl ?_
                refine v_goto hC dX12_is_79 (tgt := 39) (by decide) ?_
                refine v_pick [0, 1, 2, 3] rfl ?_
                have fe_429 : fld (f a_0) 9 = (v_30 : Int32).toInt := by rw [e_22]; rfl
                exact ih_387 v_426 (by first | omega | (simp only [Int32.lt_iff_toInt_lt, Int32.le_iff_toInt_le, Int32.reduceToInt, ← Int32.toInt_inj, true_and, and_true, or_true, true_or, false_or, or_false, false_and, and_false, not_true_eq_false, not_false_eq_true] <;> omega)) 1 (by decide) (cv_384.yes (by omega) (by omega) (by omega) ((bat_at (t := f (q 4)) e_409 h_413 (k := i_380) (F := fld (f a_0) 9) (by rw [fe_429]; omega) (by rw [fe_429]; omega) (by omega)).trans (Int32.toInt_inj.mp (by omega)))) (by first | omega | (simp only [Int32.lt_iff_toInt_lt, Int32.le_iff_toInt_le, Int32.reduceToInt, ← Int32.toInt_inj, true_and, and_true, or_true, true_or, false_or, or_false, false_and, and_false, not_true_eq_false, not_false_eq_true] <;> omega))
      refine v_pick [0, 1, 2, 3] rfl ?_
      have fe_430 : fld (f a_0) 8 = (v_28 : Int32).toInt := by rw [e_22]; rfl
      have fe_431 : fld (f a_0) 9 = (v_30 : Int32).toInt := by rw [e_22]; rfl
      have fe_432 : fld (f a_0) 10 = (v_32 : Int32).toInt := by rw [e_22]; rfl
      have fe_433 : fld (f a_0) 12 = (v_35 : Int32).toInt := by rw [e_22]; rfl
      exact lp_385 42 0 (by decide) 0 (by decide) (IWI.s0 (by intro q9; rw [fe_430, fe_431, fe_432, fe_433] at q9; omega)) (by decide)
    · simp only [Int32.lt_iff_toInt_lt, Int32.le_iff_toInt_le, Int32.reduceToInt, ← Int32.toInt_inj] at h_242
      refine v_aload_n hC dX12_is_15 rfl ?_
      refine v_get hC fl_X12_108 m_1 e_22 rfl dX12_is_16 ?_
      refine v_aload_n hC dX12_is_19 rfl ?_
      refine v_get hC fl_X12_117 m_1 e_22 rfl dX12_is_20 ?_
      obtain ⟨v_434, h_435⟩ : ∃ v9 : Int32, v_28 - v_30 = v9 := ⟨_, rfl⟩
      refine v_isub hC dX12_is_23 h_435 ?_
      have h_436 := sub_v h_435 (by first | omega | (simp only [Int32.lt_iff_toInt_lt, Int32.le_iff_toInt_le, Int32.reduceToInt, ← Int32.toInt_inj, true_and, and_true, or_true, true_or, false_or, or_false, false_and, and_false, not_true_eq_false, not_false_eq_true] <;> omega)) (by first | omega | (simp only [Int32.lt_iff_toInt_lt, Int32.le_iff_toInt_le, Int32.reduceToInt, ← Int32.toInt_inj, true_and, and_true, or_true, true_or, false_or, or_false, false_and, and_false, not_true_eq_false, not_false_eq_true] <;> omega))
      refine v_aload_n hC dX12_is_24 rfl ?_
      refine v_viS hC (rest := [.int v_434]) ha_1 rfl mi_J0_length_8abf5 ms_J0_length_8abf5 (p_J0_length_8abf5 hW ha_1) mx_J0_length_8abf5 ml_X12_143 (by decide) rfl (cells1 := 0) (slots1 := 0) (by decide) (by decide) (Nat.le_of_ble_eq_true rfl) (Nat.le_of_ble_eq_true rfl) rfl (Nat.le_of_ble_eq_true rfl) dX12_is_25 (fun r_437 L_438 f_439 h_440 => ?_)
      obtain ⟨rfl, rfl, b_441, x_442⟩ := h_440
      try simp only [Int32.reduceToInt, Int64.reduceToInt] at x_442
      refine v_icmp_ne hC dX12_is_28 (tgt := 35) (by decide) (fun h_445 => ?_) (fun h_445 => ?_)
      · simp only [Int32.lt_iff_toInt_lt, Int32.le_iff_toInt_le, Int32.reduceToInt, ← Int32.toInt_inj] at h_445
        refine v_iconst hC dX12_is_35 (v := 0) (by decide) ?_
        refine v_istore_n hC dX12_is_36 (by decide) (lv' := [(2, .int 0), (0, .ref a_0), (1, .ref (eK E a_1))]) rfl ?_
        refine v_iconst hC dX12_is_37 (v := 0) (by decide) ?_
        refine v_istore_n hC dX12_is_38 (by decide) (lv' := [(3, .int 0), (2, .int 0), (0, .ref a_0), (1, .ref (eK E a_1))]) rfl ?_
        have lp_588 : ∀ (n_589 : Nat) (i_583 : Int32) (b_585 : (0 ≤ i_583.toInt ∧ i_583.toInt ≤ 40)) (i_584 : Int32) (b_586 : (0 ≤ i_584.toInt ∧ i_584.toInt ≤ 1)) (cv_587 : IWI (f a_0) (f (q 4)) a_1 i_584 i_583) (hm_591 : 40 - i_583.toInt < (n_589 : Int)), V z E 4 0 0 L f 39 [(3, .int i_583), (2, .int i_584), (0, .ref a_0), (1, .ref (eK E a_1))] [] := by
          intro n_589
          induction n_589 with
          | zero =>
            intro i_583 b_585 i_584 b_586 cv_587 hm_591
            have bs_592 := cv_587.bs
            have fe_593 : fld (f a_0) 8 = (v_28 : Int32).toInt := by rw [e_22]; rfl
            have fe_594 : fld (f a_0) 9 = (v_30 : Int32).toInt := by rw [e_22]; rfl
            have fe_595 : fld (f a_0) 10 = (v_32 : Int32).toInt := by rw [e_22]; rfl
            have fe_596 : fld (f a_0) 12 = (v_35 : Int32).toInt := by rw [e_22]; rfl
            rw [fe_593, fe_594, fe_595, fe_596] at bs_592
            exfalso; omega
          | succ n_589 ih_590 =>
            intro i_583 b_585 i_584 b_586 cv_587 hm_591
            have bs_592 := cv_587.bs
            have fe_593 : fld (f a_0) 8 = (v_28 : Int32).toInt := by rw [e_22]; rfl
            have fe_594 : fld (f a_0) 9 = (v_30 : Int32).toInt := by rw [e_22]; rfl
            have fe_595 : fld (f a_0) 10 = (v_32 : Int32).toInt := by rw [e_22]; rfl
            have fe_596 : fld (f a_0) 12 = (v_35 : Int32).toInt := by rw [e_22]; rfl
            rw [fe_593, fe_594, fe_595, fe_596] at bs_592
            refine v_iload_n hC dX12_is_39 rfl ?_
            refine v_aload_n hC dX12_is_40 rfl ?_
            refine v_viS hC (rest := [.int i_583]) ha_1 rfl mi_J0_length_8abf5 ms_J0_length_8abf5 (p_J0_length_8abf5 hW ha_1) mx_J0_length_8abf5 ml_X12_143 (by decide) rfl (cells1 := 0) (slots1 := 0) (by decide) (by decide) (Nat.le_of_ble_eq_true rfl) (Nat.le_of_ble_eq_true rfl) rfl (Nat.le_of_ble_eq_true rfl) dX12_is_41 (fun r_597 L_598 f_599 h_600 => ?_)
            obtain ⟨rfl, rfl, b_601, x_602⟩ := h_600
            try simp only [Int32.reduceToInt, Int64.reduceToInt] at x_602
            refine v_icmp_ge hC dX12_is_44 (tgt := 82) (by decide) (fun h_605 => ?_) (fun h_605 => ?_)
            · simp only [Int32.lt_iff_toInt_lt, Int32.le_iff_toInt_le, Int32.reduceToInt, ← Int32.toInt_inj] at h_605
              refine v_iload_n hC dX12_is_82 rfl ?_
              exact hR _ _ _ _ _ _ _ dX12_is_83 (nar01 (by first | omega | (simp only [Int32.lt_iff_toInt_lt, Int32.le_iff_toInt_le, Int32.reduceToInt, ← Int32.toInt_inj, true_and, and_true, or_true, true_or, false_or, or_false, false_and, and_false, not_true_eq_false, not_false_eq_true] <;> omega))) (Nat.le_of_ble_eq_true rfl) (Nat.le_of_ble_eq_true rfl) ⟨rfl, rfl, (cv_587.fin (by first | (left; omega) | (right; omega)))⟩
            · simp only [Int32.lt_iff_toInt_lt, Int32.le_iff_toInt_le, Int32.reduceToInt, ← Int32.toInt_inj] at h_605
              refine v_iload_n hC dX12_is_47 rfl ?_
              refine v_if_eq hC dX12_is_48 (tgt := 82) (by decide) (fun h_606 => ?_) (fun h_606 => ?_)
              · simp only [Int32.lt_iff_toInt_lt, Int32.le_iff_toInt_le, Int32.reduceToInt, ← Int32.toInt_inj] at h_606
                refine v_iload_n hC dX12_is_82 rfl ?_
                exact hR _ _ _ _ _ _ _ dX12_is_83 (nar01 (by first | omega | (simp only [Int32.lt_iff_toInt_lt, Int32.le_iff_toInt_le, Int32.reduceToInt, ← Int32.toInt_inj, true_and, and_true, or_true, true_or, false_or, or_false, false_and, and_false, not_true_eq_false, not_false_eq_true] <;> omega))) (Nat.le_of_ble_eq_true rfl) (Nat.le_of_ble_eq_true rfl) ⟨rfl, rfl, (cv_587.fin (by first | (left; omega) | (right; omega)))⟩
              · simp only [Int32.lt_iff_toInt_lt, Int32.le_iff_toInt_le, Int32.reduceToInt, ← Int32.toInt_inj] at h_606
                refine v_aload_n hC dX12_is_51 rfl ?_
                refine v_get hC fl_X12_24 m_1 e_22 rfl dX12_is_52 ?_
                refine v_aload_n hC dX12_is_55 rfl ?_
                refine v_get hC fl_X12_117 m_1 e_22 rfl dX12_is_56 ?_
                refine v_iload_n hC dX12_is_59 rfl ?_
                obtain ⟨v_607, h_608⟩ : ∃ v9 : Int32, v_30 + i_583 = v9 := ⟨_, rfl⟩
                refine v_iadd hC dX12_is_60 h_608 ?_
                have h_609 := add_v h_608 (by first | omega | (simp only [Int32.lt_iff_toInt_lt, Int32.le_iff_toInt_le, Int32.reduceToInt, ← Int32.toInt_inj, true_and, and_true, or_true, true_or, false_or, or_false, false_and, and_false, not_true_eq_false, not_false_eq_true] <;> omega)) (by first | omega | (simp only [Int32.lt_iff_toInt_lt, Int32.le_iff_toInt_le, Int32.reduceToInt, ← Int32.toInt_inj, true_and, and_true, or_true, true_or, false_or, or_false, false_and, and_false, not_true_eq_false, not_false_eq_true] <;> omega))
                obtain ⟨m_610, t_611⟩ := id k_6
                obtain ⟨g_613, e_612, fit_614⟩ := hW.at m_610 t_611
                obtain ⟨v_615, h_616⟩ : ∃ v9 : Int32, g_613 (v_607 : Int32).toNatClampNeg = v9 := ⟨_, rfl⟩
                refine v_bald hC m_610 e_612 (vp_in_iff.mpr (by first | omega | (simp only [Int32.lt_iff_toInt_lt, Int32.le_iff_toInt_le, Int32.reduceToInt, ← Int32.toInt_inj, true_and, and_true, or_true, true_or, false_or, or_false, false_and, and_false, not_true_eq_false, not_false_eq_true] <;> omega))) h_616 dX12_is_61 ?_
                refine v_aload_n hC dX12_is_62 rfl ?_
                refine v_iload_n hC dX12_is_63 rfl ?_
                refine v_viS hC (rest := [.int v_615]) ha_1 rfl mi_J0_charAt_5068e ms_J0_charAt_5068e (p_J0_charAt_5068e hW ha_1 (by first | omega | (simp only [Int32.lt_iff_toInt_lt, Int32.le_iff_toInt_le, Int32.reduceToInt, ← Int32.toInt_inj, true_and, and_true, or_true, true_or, false_or, or_false, false_and, and_false, not_true_eq_false, not_false_eq_true] <;> omega))) mx_J0_charAt_5068e ml_X12_148 (by decide) rfl (cells1 := 0) (slots1 := 0) (by decide) (by decide) (Nat.le_of_ble_eq_true rfl) (Nat.le_of_ble_eq_true rfl) rfl (Nat.le_of_ble_eq_true rfl) dX12_is_64 (fun r_617 L_618 f_619 h_620 => ?_)
                obtain ⟨rfl, rfl, rfl, nr_621⟩ := h_620
                refine v_icmp_ne hC dX12_is_67 (tgt := 74) (by decide) (fun h_624 => ?_) (fun h_624 => ?_)
                · simp only [Int32.lt_iff_toInt_lt, Int32.le_iff_toInt_le, Int32.reduceToInt, ← Int32.toInt_inj] at h_624
                  refine v_iconst hC dX12_is_74 (v := 0) (by decide) ?_
                  refine v_istore_n hC dX12_is_75 (by decide) (lv' := [(2, .int 0), (3, .int i_583), (0, .ref a_0), (1, .ref (eK E a_1))]) rfl ?_
                  obtain ⟨v_625, h_626⟩ : ∃ v9 : Int32, i_583 + Int32.ofInt 1 = v9 := ⟨_, rfl⟩
                  have h_627 := add_v (b := 1) h_626 (by first | omega | (simp only [Int32.lt_iff_toInt_lt, Int32.le_iff_toInt_le, Int32.reduceToInt, ← Int32.toInt_inj, true_and, and_true, or_true, true_or, false_or, or_false, false_and, and_false, not_true_eq_false, not_false_eq_true] <;> omega)) (by first | omega | (simp only [Int32.lt_iff_toInt_lt, Int32.le_iff_toInt_le, Int32.reduceToInt, ← Int32.toInt_inj, true_and, and_true, or_true, true_or, false_or, or_false, false_and, and_false, not_true_eq_false, not_false_eq_true] <;> omega))
                  simp only [Int32.reduceToInt] at h_627
                  refine v_iinc hC dX12_is_76 (k := 1) rfl (v := v_625) h_626 (by decide) (lv' := [(3, .int v_625), (2, .int 0), (0, .ref a_0), (1, .ref (eK E a_1))]) rfl ?_
                  refine v_goto hC dX12_is_79 (tgt := 39) (by decide) ?_
                  refine v_pick [0, 1, 2, 3] rfl ?_
                  have fe_628 : fld (f a_0) 9 = (v_30 : Int32).toInt := by rw [e_22]; rfl
                  exact ih_590 v_625 (by first | omega | (simp only [Int32.lt_iff_toInt_lt, Int32.le_iff_toInt_le, Int32.reduceToInt, ← Int32.toInt_inj, true_and, and_true, or_true, true_or, false_or, or_false, false_and, and_false, not_true_eq_false, not_false_eq_true] <;> omega)) 0 (by decide) (cv_587.no (by omega) (by omega) (by omega) (fun q9 => h_624 (congrArg Int32.toInt ((bat_at (t := f (q 4)) e_612 h_616 (k := i_583) (F := fld (f a_0) 9) (by rw [fe_628]; omega) (by rw [fe_628]; omega) (by omega)).symm.trans q9)))) (by first | omega | (simp only [Int32.lt_iff_toInt_lt, Int32.le_iff_toInt_le, Int32.reduceToInt, ← Int32.toInt_inj, true_and, and_true, or_true, true_or, false_or, or_false, false_and, and_false, not_true_eq_false, not_false_eq_true] <;> omega))
                · simp only [Int32.lt_iff_toInt_lt, Int32.le_iff_toInt_le, Int32.reduceToInt, ← Int32.toInt_inj] at h_624
                  refine v_iconst hC dX12_is_70 (v := 1) (by decide) ?_
                  refine v_goto hC dX12_is_71 (tgt := 75) (by decide) ?_
                  refine v_istore_n hC dX12_is_75 (by decide) (lv' := [(2, .int 1), (3, .int i_583), (0, .ref a_0), (1, .ref (eK E a_1))]) rfl ?_
                  obtain ⟨v_629, h_630⟩ : ∃ v9 : Int32, i_583 + Int32.ofInt 1 = v9 := ⟨_, rfl⟩
                  have h_631 := add_v (b := 1) h_630 (by first | omega | (simp only [Int32.lt_iff_toInt_lt, Int32.le_iff_toInt_le, Int32.reduceToInt, ← Int32.toInt_inj, true_and, and_true, or_true, true_or, false_or, or_false, false_and, and_false, not_true_eq_false, not_false_eq_true] <;> omega)) (by first | omega | (simp only [Int32.lt_iff_toInt_lt, Int32.le_iff_toInt_le, Int32.reduceToInt, ← Int32.toInt_inj, true_and, and_true, or_true, true_or, false_or, or_false, false_and, and_false, not_true_eq_false, not_false_eq_true] <;> omega))
                  simp only [Int32.reduceToInt] at h_631
                  refine v_iinc hC dX12_is_76 (k := 1) rfl (v := v_629) h_630 (by decide) (lv' := [(3, .int v_629), (2, .int 1), (0, .ref a_0), (1, .ref (eK E a_1))]) rfl ?_
                  refine v_goto hC dX12_is_79 (tgt := 39) (by decide) ?_
                  refine v_pick [0, 1, 2, 3] rfl ?_
                  have fe_632 : fld (f a_0) 9 = (v_30 : Int32).toInt := by rw [e_22]; rfl
                  exact ih_590 v_629 (by first | omega | (simp only [Int32.lt_iff_toInt_lt, Int32.le_iff_toInt_le, Int32.reduceToInt, ← Int32.toInt_inj, true_and, and_true, or_true, true_or, false_or, or_false, false_and, and_false, not_true_eq_false, not_false_eq_true] <;> omega)) 1 (by decide) (cv_587.yes (by omega) (by omega) (by omega) ((bat_at (t := f (q 4)) e_612 h_616 (k := i_583) (F := fld (f a_0) 9) (by rw [fe_632]; omega) (by rw [fe_632]; omega) (by omega)).trans (Int32.toInt_inj.mp (by omega)))) (by first | omega | (simp only [Int32.lt_iff_toInt_lt, Int32.le_iff_toInt_le, Int32.reduceToInt, ← Int32.toInt_inj, true_and, and_true, or_true, true_or, false_or, or_false, false_and, and_false, not_true_eq_false, not_false_eq_true] <;> omega))
        refine v_pick [0, 1, 2, 3] rfl ?_
        have fe_633 : fld (f a_0) 8 = (v_28 : Int32).toInt := by rw [e_22]; rfl
        have fe_634 : fld (f a_0) 9 = (v_30 : Int32).toInt := by rw [e_22]; rfl
        have fe_635 : fld (f a_0) 10 = (v_32 : Int32).toInt := by rw [e_22]; rfl
        have fe_636 : fld (f a_0) 12 = (v_35 : Int32).toInt := by rw [e_22]; rfl
        exact lp_588 42 0 (by decide) 0 (by decide) (IWI.s0 (by intro q9; rw [fe_633, fe_634, fe_635, fe_636] at q9; omega)) (by decide)
      · simp only [Int32.lt_iff_toInt_lt, Int32.le_iff_toInt_le, Int32.reduceToInt, ← Int32.toInt_inj] at h_445
        refine v_iconst hC dX12_is_31 (v := 1) (by decide) ?_
        refine v_goto hC dX12_is_32 (tgt := 36) (by decide) ?_
        refine v_istore_n hC dX12_is_36 (by decide) (lv' := [(2, .int 1), (0, .ref a_0), (1, .ref (eK E a_1))]) rfl ?_
        refine v_iconst hC dX12_is_37 (v := 0) (by decide) ?_
        refine v_istore_n hC dX12_is_38 (by decide) (lv' := [(3, .int 0), (2, .int 1), (0, .ref a_0), (1, .ref (eK E a_1))]) rfl ?_
        have lp_779 : ∀ (n_780 : Nat) (i_774 : Int32) (b_776 : (0 ≤ i_774.toInt ∧ i_774.toInt ≤ 40)) (i_775 : Int32) (b_777 : (0 ≤ i_775.toInt ∧ i_775.toInt ≤ 1)) (cv_778 : IWI (f a_0) (f (q 4)) a_1 i_775 i_774) (hm_782 : 40 - i_774.toInt < (n_780 : Int)), V z E 4 0 0 L f 39 [(3, .int i_774), (2, .int i_775), (0, .ref a_0), (1, .ref (eK E a_1))] [] := by
          intro n_780
          induction n_780 with
          | zero =>
            intro i_774 b_776 i_775 b_777 cv_778 hm_782
            have bs_783 := cv_778.bs
            have fe_784 : fld (f a_0) 8 = (v_28 : Int32).toInt := by rw [e_22]; rfl
            have fe_785 : fld (f a_0) 9 = (v_30 : Int32).toInt := by rw [e_22]; rfl
            have fe_786 : fld (f a_0) 10 = (v_32 : Int32).toInt := by rw [e_22]; rfl
            have fe_787 : fld (f a_0) 12 = (v_35 : Int32).toInt := by rw [e_22]; rfl
            rw [fe_784, fe_785, fe_786, fe_787] at bs_783
            exfalso; omega
          | succ n_780 ih_781 =>
            intro i_774 b_776 i_775 b_777 cv_778 hm_782
            have bs_783 := cv_778.bs
            have fe_784 : fld (f a_0) 8 = (v_28 : Int32).toInt := by rw [e_22]; rfl
            have fe_785 : fld (f a_0) 9 = (v_30 : Int32).toInt := by rw [e_22]; rfl
            have fe_786 : fld (f a_0) 10 = (v_32 : Int32).toInt := by rw [e_22]; rfl
            have fe_787 : fld (f a_0) 12 = (v_35 : Int32).toInt := by rw [e_22]; rfl
            rw [fe_784, fe_785, fe_786, fe_787] at bs_783
            refine v_iload_n hC dX12_is_39 rfl ?_
            refine v_aload_n hC dX12_is_40 rfl ?_
            refine v_viS hC (rest := [.int i_774]) ha_1 rfl mi_J0_length_8abf5 ms_J0_length_8abf5 (p_J0_length_8abf5 hW ha_1) mx_J0_length_8abf5 ml_X12_143 (by decide) rfl (cells1 := 0) (slots1 := 0) (by decide) (by decide) (Nat.le_of_ble_eq_true rfl) (Nat.le_of_ble_eq_true rfl) rfl (Nat.le_of_ble_eq_true rfl) dX12_is_41 (fun r_788 L_789 f_790 h_791 => ?_)
            obtain ⟨rfl, rfl, b_792, x_793⟩ := h_791
            try simp only [Int32.reduceToInt, Int64.reduceToInt] at x_793
            refine v_icmp_ge hC dX12_is_44 (tgt := 82) (by decide) (fun h_796 => ?_) (fun h_796 => ?_)
            · simp only [Int32.lt_iff_toInt_lt, Int32.le_iff_toInt_le, Int32.reduceToInt, ← Int32.toInt_inj] at h_796
              refine v_iload_n hC dX12_is_82 rfl ?_
              exact hR _ _ _ _ _ _ _ dX12_is_83 (nar01 (by first | omega | (simp only [Int32.lt_iff_toInt_lt, Int32.le_iff_toInt_le, Int32.reduceToInt, ← Int32.toInt_inj, true_and, and_true, or_true, true_or, false_or, or_false, false_and, and_false, not_true_eq_false, not_false_eq_true] <;> omega))) (Nat.le_of_ble_eq_true rfl) (Nat.le_of_ble_eq_true rfl) ⟨rfl, rfl, (cv_778.fin (by first | (left; omega) | (right; omega)))⟩
            · simp only [Int32.lt_iff_toInt_lt, Int32.le_iff_toInt_le, Int32.reduceToInt, ← Int32.toInt_inj] at h_796
              refine v_iload_n hC dX12_is_47 rfl ?_
              refine v_if_eq hC dX12_is_48 (tgt := 82) (by decide) (fun h_797 => ?_) (fun h_797 => ?_)
              · simp only [Int32.lt_iff_toInt_lt, Int32.le_iff_toInt_le, Int32.reduceToInt, ← Int32.toInt_inj] at h_797
                refine v_iload_n hC dX12_is_82 rfl ?_
                exact hR _ _ _ _ _ _ _ dX12_is_83 (nar01 (by first | omega | (simp only [Int32.lt_iff_toInt_lt, Int32.le_iff_toInt_le, Int32.reduceToInt, ← Int32.toInt_inj, true_and, and_true, or_true, true_or, false_or, or_false, false_and, and_false, not_true_eq_false, not_false_eq_true] <;> omega))) (Nat.le_of_ble_eq_true rfl) (Nat.le_of_ble_eq_true rfl) ⟨rfl, rfl, (cv_778.fin (by first | (left; omega) | (right; omega)))⟩
              · simp only [Int32.lt_iff_toInt_lt, Int32.le_iff_toInt_le, Int32.reduceToInt, ← Int32.toInt_inj] at h_797
                refine v_aload_n hC dX12_is_51 rfl ?_
                refine v_get hC fl_X12_24 m_1 e_22 rfl dX12_is_52 ?_
                refine v_aload_n hC dX12_is_55 rfl ?_
                refine v_get hC fl_X12_117 m_1 e_22 rfl dX12_is_56 ?_
                refine v_iload_n hC dX12_is_59 rfl ?_
                obtain ⟨v_798, h_799⟩ : ∃ v9 : Int32, v_30 + i_774 = v9 := ⟨_, rfl⟩
                refine v_iadd hC dX12_is_60 h_799 ?_
                have h_800 := add_v h_799 (by first | omega | (simp only [Int32.lt_iff_toInt_lt, Int32.le_iff_toInt_le, Int32.reduceToInt, ← Int32.toInt_inj, true_and, and_true, or_true, true_or, false_or, or_false, false_and, and_false, not_true_eq_false, not_false_eq_true] <;> omega)) (by first | omega | (simp only [Int32.lt_iff_toInt_lt, Int32.le_iff_toInt_le, Int32.reduceToInt, ← Int32.toInt_inj, true_and, and_true, or_true, true_or, false_or, or_false, false_and, and_false, not_true_eq_false, not_false_eq_true] <;> omega))
                obtain ⟨m_801, t_802⟩ := id k_6
                obtain ⟨g_804, e_803, fit_805⟩ := hW.at m_801 t_802
                obtain ⟨v_806, h_807⟩ : ∃ v9 : Int32, g_804 (v_798 : Int32).toNatClampNeg = v9 := ⟨_, rfl⟩
                refine v_bald hC m_801 e_803 (vp_in_iff.mpr (by first | omega | (simp only [Int32.lt_iff_toInt_lt, Int32.le_iff_toInt_le, Int32.reduceToInt, ← Int32.toInt_inj, true_and, and_true, or_true, true_or, false_or, or_false, false_and, and_false, not_true_eq_false, not_false_eq_true] <;> omega))) h_807 dX12_is_61 ?_
                refine v_aload_n hC dX12_is_62 rfl ?_
                refine v_iload_n hC dX12_is_63 rfl ?_
                refine v_viS hC (rest := [.int v_806]) ha_1 rfl mi_J0_charAt_5068e ms_J0_charAt_5068e (p_J0_charAt_5068e hW ha_1 (by first | omega | (simp only [Int32.lt_iff_toInt_lt, Int32.le_iff_toInt_le, Int32.reduceToInt, ← Int32.toInt_inj, true_and, and_true, or_true, true_or, false_or, or_false, false_and, and_false, not_true_eq_false, not_false_eq_true] <;> omega))) mx_J0_charAt_5068e ml_X12_148 (by decide) rfl (cells1 := 0) (slots1 := 0) (by decide) (by decide) (Nat.le_of_ble_eq_true rfl) (Nat.le_of_ble_eq_true rfl) rfl (Nat.le_of_ble_eq_true rfl) dX12_is_64 (fun r_808 L_809 f_810 h_811 => ?_)
                obtain ⟨rfl, rfl, rfl, nr_812⟩ := h_811
                refine v_icmp_ne hC dX12_is_67 (tgt := 74) (by decide) (fun h_815 => ?_) (fun h_815 => ?_)
                · simp only [Int32.lt_iff_toInt_lt, Int32.le_iff_toInt_le, Int32.reduceToInt, ← Int32.toInt_inj] at h_815
                  refine v_iconst hC dX12_is_74 (v := 0) (by decide) ?_
                  refine v_istore_n hC dX12_is_75 (by decide) (lv' := [(2, .int 0), (3, .int i_774), (0, .ref a_0), (1, .ref (eK E a_1))]) rfl ?_
                  obtain ⟨v_816, h_817⟩ : ∃ v9 : Int32, i_774 + Int32.ofInt 1 = v9 := ⟨_, rfl⟩
                  have h_818 := add_v (b := 1) h_817 (by first | omega | (simp only [Int32.lt_iff_toInt_lt, Int32.le_iff_toInt_le, Int32.reduceToInt, ← Int32.toInt_inj, true_and, and_true, or_true, true_or, false_or, or_false, false_and, and_false, not_true_eq_false, not_false_eq_true] <;> omega)) (by first | omega | (simp only [Int32.lt_iff_toInt_lt, Int32.le_iff_toInt_le, Int32.reduceToInt, ← Int32.toInt_inj, true_and, and_true, or_true, true_or, false_or, or_false, false_and, and_false, not_true_eq_false, not_false_eq_true] <;> omega))
                  simp only [Int32.reduceToInt] at h_818
                  refine v_iinc hC dX12_is_76 (k := 1) rfl (v := v_816) h_817 (by decide) (lv' := [(3, .int v_816), (2, .int 0), (0, .ref a_0), (1, .ref (eK E a_1))]) rfl ?_
                  refine v_goto hC dX12_is_79 (tgt := 39) (by decide) ?_
                  refine v_pick [0, 1, 2, 3] rfl ?_
                  have fe_819 : fld (f a_0) 9 = (v_30 : Int32).toInt := by rw [e_22]; rfl
                  exact ih_781 v_816 (by first | omega | (simp only [Int32.lt_iff_toInt_lt, Int32.le_iff_toInt_le, Int32.reduceToInt, ← Int32.toInt_inj, true_and, and_true, or_true, true_or, false_or, or_false, false_and, and_false, not_true_eq_false, not_false_eq_true] <;> omega)) 0 (by decide) (cv_778.no (by omega) (by omega) (by omega) (fun q9 => h_815 (congrArg Int32.toInt ((bat_at (t := f (q 4)) e_803 h_807 (k := i_774) (F := fld (f a_0) 9) (by rw [fe_819]; omega) (by rw [fe_819]; omega) (by omega)).symm.trans q9)))) (by first | omega | (simp only [Int32.lt_iff_toInt_lt, Int32.le_iff_toInt_le, Int32.reduceToInt, ← Int32.toInt_inj, true_and, and_true, or_true, true_or, false_or, or_false, false_and, and_false, not_true_eq_false, not_false_eq_true] <;> omega))
                · simp only [Int32.lt_iff_toInt_lt, Int32.le_iff_toInt_le, Int32.reduceToInt, ← Int32.toInt_inj] at h_815
                  refine v_iconst hC dX12_is_70 (v := 1) (by decide) ?_
                  refine v_goto hC dX12_is_71 (tgt := 75) (by decide) ?_
                  refine v_istore_n hC dX12_is_75 (by decide) (lv' := [(2, .int 1), (3, .int i_774), (0, .ref a_0), (1, .ref (eK E a_1))]) rfl ?_
                  obtain ⟨v_820, h_821⟩ : ∃ v9 : Int32, i_774 + Int32.ofInt 1 = v9 := ⟨_, rfl⟩
                  have h_822 := add_v (b := 1) h_821 (by first | omega | (simp only [Int32.lt_iff_toInt_lt, Int32.le_iff_toInt_le, Int32.reduceToInt, ← Int32.toInt_inj, true_and, and_true, or_true, true_or, false_or, or_false, false_and, and_false, not_true_eq_false, not_false_eq_true] <;> omega)) (by first | omega | (simp only [Int32.lt_iff_toInt_lt, Int32.le_iff_toInt_le, Int32.reduceToInt, ← Int32.toInt_inj, true_and, and_true, or_true, true_or, false_or, or_false, false_and, and_false, not_true_eq_false, not_false_eq_true] <;> omega))
                  simp only [Int32.reduceToInt] at h_822
                  refine v_iinc hC dX12_is_76 (k := 1) rfl (v := v_820) h_821 (by decide) (lv' := [(3, .int v_820), (2, .int 1), (0, .ref a_0), (1, .ref (eK E a_1))]) rfl ?_
                  refine v_goto hC dX12_is_79 (tgt := 39) (by decide) ?_
                  refine v_pick [0, 1, 2, 3] rfl ?_
                  have fe_823 : fld (f a_0) 9 = (v_30 : Int32).toInt := by rw [e_22]; rfl
                  exact ih_781 v_820 (by first | omega | (simp only [Int32.lt_iff_toInt_lt, Int32.le_iff_toInt_le, Int32.reduceToInt, ← Int32.toInt_inj, true_and, and_true, or_true, true_or, false_or, or_false, false_and, and_false, not_true_eq_false, not_false_eq_true] <;> omega)) 1 (by decide) (cv_778.yes (by omega) (by omega) (by omega) ((bat_at (t := f (q 4)) e_803 h_807 (k := i_774) (F := fld (f a_0) 9) (by rw [fe_823]; omega) (by rw [fe_823]; omega) (by omega)).trans (Int32.toInt_inj.mp (by omega)))) (by first | omega | (simp only [Int32.lt_iff_toInt_lt, Int32.le_iff_toInt_le, Int32.reduceToInt, ← Int32.toInt_inj, true_and, and_true, or_true, true_or, false_or, or_false, false_and, and_false, not_true_eq_false, not_false_eq_true] <;> omega))
        refine v_pick [0, 1, 2, 3] rfl ?_
        have fe_824 : fld (f a_0) 8 = (v_28 : Int32).toInt := by rw [e_22]; rfl
        have fe_825 : fld (f a_0) 9 = (v_30 : Int32).toInt := by rw [e_22]; rfl
        have fe_826 : fld (f a_0) 10 = (v_32 : Int32).toInt := by rw [e_22]; rfl
        have fe_827 : fld (f a_0) 12 = (v_35 : Int32).toInt := by rw [e_22]; rfl
        exact lp_779 42 0 (by decide) 1 (by decide) (IWI.s1 (by rw [fe_827]; omega) (by rw [fe_826]; omega) (by rw [fe_824, fe_825]; omega)) (by decide)
set_option maxRecDepth 100000 in
set_option maxHeartbeats 1500000 in
theorem p_X12_see {l : Launch} {E : Ez} {L : List Nat} {f : Nat → va_E} {T : Nat → va_E → Prop} {a_0 : Nat} {a_1 : Int32} {q : Nat → Nat} (hW : WT T L f) (k_0 : isM T L E a_0 q) (g_1 : (0 ≤ a_1.toInt ∧ a_1.toInt ≤ 600)) : CI l yX12_see cX12_see 2 .int 0 0 0 E [.ref a_0, .int a_1] L f (fun r L1 f1 => L = L1 ∧ f = f1 ∧ r = (sv (f a_0) (f (q 4)) a_1)) := by
  refine ci_of (by decide) (Nat.le_of_ble_eq_true rfl) (fun z hz hnm hC hR => ?_)
  have hC : Cx z E cX12_see RX12 2 0 0 0 := hC
  subst hz
  show V z E 2 0 0 L f 0 [(0, .ref a_0), (1, .int a_1)] []
  obtain ⟨m_1, t_2, nq_21, k_3, k_4, k_5, k_6, k_7, k_8, k_9, k_10, k_11, k_12, k_13, k_14, k_15, k_16, k_17, k_18, k_19, k_20⟩ := id k_0
  refine v_iload_n hC dX12_see_0 rfl ?_
  refine v_aload_n hC dX12_see_1 rfl ?_
  obtain ⟨v_23, v_24, v_26, v_28, v_30, v_32, v_34, v_35, v_36, v_37, v_39, e_22, b_25, b_27, b_29, b_31, b_33, b_38, b_40⟩ := hW.at m_1 t_2
  refine v_get hC fl_X12_105 m_1 e_22 rfl dX12_see_2 ?_
  refine v_icmp_ge hC dX12_see_5 (tgt := 21) (by decide) (fun h_41 => ?_) (fun h_41 => ?_)
  · simp only [Int32.lt_iff_toInt_lt, Int32.le_iff_toInt_le, Int32.reduceToInt, ← Int32.toInt_inj] at h_41
    refine v_iconst hC dX12_see_21 (v := (-1)) (by decide) ?_
    have fe_42 : fld (f a_0) 7 = (v_26 : Int32).toInt := by rw [e_22]; rfl
    exact hR _ _ _ _ _ _ _ dX12_see_22 rfl (Nat.le_of_ble_eq_true rfl) (Nat.le_of_ble_eq_true rfl) ⟨rfl, rfl, (sv_out (by rw [fe_42]; omega))⟩
  · simp only [Int32.lt_iff_toInt_lt, Int32.le_iff_toInt_le, Int32.reduceToInt, ← Int32.toInt_inj] at h_41
    refine v_aload_n hC dX12_see_8 rfl ?_
    refine v_get hC fl_X12_24 m_1 e_22 rfl dX12_see_9 ?_
    refine v_iload_n hC dX12_see_12 rfl ?_
    obtain ⟨m_43, t_44⟩ := id k_6
    obtain ⟨g_46, e_45, fit_47⟩ := hW.at m_43 t_44
    obtain ⟨v_48, h_49⟩ : ∃ v9 : Int32, g_46 (a_1 : Int32).toNatClampNeg = v9 := ⟨_, rfl⟩
    refine v_bald hC m_43 e_45 (vp_in_iff.mpr (by first | omega | (simp only [Int32.lt_iff_toInt_lt, Int32.le_iff_toInt_le, Int32.reduceToInt, ← Int32.toInt_inj, true_and, and_true, or_true, true_or, false_or, or_false, false_and, and_false, not_true_eq_false, not_false_eq_true] <;> omega))) h_49 dX12_see_13 ?_
    refine v_sipush hC dX12_see_14 (v := 255) (by decide) ?_
    obtain ⟨v_50, h_51⟩ : ∃ v9 : Int32, v_48 &&& 255 = v9 := ⟨_, rfl⟩
    refine v_iand hC dX12_see_17 h_51 ?_
    have h_52 := and_v h_51 (by decide)
    try simp only [Int32.reduceToInt] at h_52
    refine v_goto hC dX12_see_18 (tgt := 22) (by decide) ?_
    have fe_53 : fld (f a_0) 7 = (v_26 : Int32).toInt := by rw [e_22]; rfl
    exact hR _ _ _ _ _ _ _ dX12_see_22 rfl (Nat.le_of_ble_eq_true rfl) (Nat.le_of_ble_eq_true rfl) ⟨rfl, rfl, (sv_in (by rw [fe_53]; omega) e_45 h_49 h_51)⟩
set_option maxRecDepth 100000 in
set_option maxHeartbeats 1500000 in
theorem p_X12_in {l : Launch} {E : Ez} {L : List Nat} {f : Nat → va_E} {T : Nat → va_E → Prop} {a_0 : Int64} {a_1 : Int64} {a_2 : Int64} (hW : WT T L f) : CI l yX12_in cX12_in 6 .boolean 0 0 0 E [.long a_0, .long a_1, .long a_2] L f (fun r L1 f1 => L = L1 ∧ f = f1 ∧ (0 ≤ r.toInt ∧ r.toInt ≤ 1) ∧ ((r.toInt = 1 ∧ a_1.toInt ≤ a_0.toInt ∧ a_0.toInt ≤ a_2.toInt) ∨ (r.toInt = 0 ∧ (a_0.toInt < a_1.toInt ∨ a_2.toInt < a_0.toInt)))) := by
  refine ci_of (by decide) (Nat.le_of_ble_eq_true rfl) (fun z hz hnm hC hR => ?_)
  have hC : Cx z E cX12_in RX12 6 0 0 0 := hC
  subst hz
  show V z E 6 0 0 L f 0 [(0, .long a_0), (2, .long a_1), (4, .long a_2)] []
  refine v_lload_n hC dX12_in_0 rfl ?_
  refine v_lload_n hC dX12_in_1 rfl ?_
  obtain ⟨v_1, h_2⟩ : ∃ v9 : Int32, lg_cmp (a_0 : Int64) a_1 = v9 := ⟨_, rfl⟩
  refine v_lcmp hC dX12_in_2 h_2 ?_
  refine v_if_lt hC dX12_in_3 (tgt := 17) (by decide) (fun h_3 => ?_) (fun h_3 => ?_)
  · rw [← h_2] at h_3
    have h_4 := (lgc_lt.mp h_3)
    simp only [Int64.lt_iff_toInt_lt, Int64.le_iff_toInt_le] at h_4
    refine v_iconst hC dX12_in_17 (v := 0) (by decide) ?_
    exact hR _ _ _ _ _ _ _ dX12_in_18 rfl (Nat.le_of_ble_eq_true rfl) (Nat.le_of_ble_eq_true rfl) ⟨rfl, rfl, (by decide), (by first | omega | (simp only [Int32.lt_iff_toInt_lt, Int32.le_iff_toInt_le, Int32.reduceToInt, ← Int32.toInt_inj, true_and, and_true, or_true, true_or, false_or, or_false, false_and, and_false, not_true_eq_false, not_false_eq_true] <;> omega))⟩
  · rw [← h_2] at h_3
    have h_5 := (mt lgc_lt.mpr h_3)
    simp only [Int64.lt_iff_toInt_lt, Int64.le_iff_toInt_le] at h_5
    refine v_lload_n hC dX12_in_6 rfl ?_
    refine v_lload hC dX12_in_7 rfl ?_
    obtain ⟨v_6, h_7⟩ : ∃ v9 : Int32, lg_cmp (a_0 : Int64) a_2 = v9 := ⟨_, rfl⟩
    refine v_lcmp hC dX12_in_9 h_7 ?_
    refine v_if_gt hC dX12_in_10 (tgt := 17) (by decide) (fun h_8 => ?_) (fun h_8 => ?_)
    · rw [← h_7] at h_8
      have h_9 := (lgc_gt.mp h_8)
      simp only [Int64.lt_iff_toInt_lt, Int64.le_iff_toInt_le] at h_9
      refine v_iconst hC dX12_in_17 (v := 0) (by decide) ?_
      exact hR _ _ _ _ _ _ _ dX12_in_18 rfl (Nat.le_of_ble_eq_true rfl) (Nat.le_of_ble_eq_true rfl) ⟨rfl, rfl, (by decide), (by first | omega | (simp only [Int32.lt_iff_toInt_lt, Int32.le_iff_toInt_le, Int32.reduceToInt, ← Int32.toInt_inj, true_and, and_true, or_true, true_or, false_or, or_false, false_and, and_false, not_true_eq_false, not_false_eq_true] <;> omega))⟩
    · rw [← h_7] at h_8
      have h_10 := (mt lgc_gt.mpr h_8)
      simp only [Int64.lt_iff_toInt_lt, Int64.le_iff_toInt_le] at h_10
      refine v_iconst hC dX12_in_13 (v := 1) (by decide) ?_
      refine v_goto hC dX12_in_14 (tgt := 18) (by decide) ?_
      exact hR _ _ _ _ _ _ _ dX12_in_18 rfl (Nat.le_of_ble_eq_true rfl) (Nat.le_of_ble_eq_true rfl) ⟨rfl, rfl, (by decide), (by first | omega | (simp only [Int32.lt_iff_toInt_lt, Int32.le_iff_toInt_le, Int32.reduceToInt, ← Int32.toInt_inj, true_and, and_true, or_true, true_or, false_or, or_false, false_and, and_false, not_true_eq_false, not_false_eq_true] <;> omega))⟩
set_option maxRecDepth 100000 in
set_option maxHeartbeats 1500000 in
theorem p_X12_advance {l : Launch} {E : Ez} {L : List Nat} {f : Nat → va_E} {T : Nat → va_E → Prop} {a_0 : Nat} {q : Nat → Nat} (hW : WT T L f) (k_0 : isM T L E a_0 q) : CV l yX12_advance cX12_advance 2 1 0 0 E [.ref a_0] L f (fun L1 f1 => L = L1 ∧ WT T L f1 ∧ FR [12] f f1 ∧ (fld (f a_0) 8 ≤ fld (f1 a_0) 9 ∧ fld (f1 a_0) 9 ≤ fld (f1 a_0) 8) ∧ (fld (f1 a_0) 10 = 0 ∨ fld (f1 a_0) 9 < fld (f1 a_0) 8) ∧ fld (f1 a_0) 12 = fld (f a_0) 12 ∧ fld (f1 a_0) 20 = fld (f a_0) 20) := by
  refine cv_of (by decide) (Nat.le_of_ble_eq_true rfl) (fun z hz hnm hC hR => ?_)
  have hC : Cx z E cX12_advance RX12 2 1 0 0 := hC
  subst hz
  show V z E 2 0 0 L f 0 [(0, .ref a_0)] []
  obtain ⟨m_1, t_2, nq_21, k_3, k_4, k_5, k_6, k_7, k_8, k_9, k_10, k_11, k_12, k_13, k_14, k_15, k_16, k_17, k_18, k_19, k_20⟩ := id k_0
  obtain ⟨v_23, v_24, v_26, v_28, v_30, v_32, v_34, v_35, v_36, v_37, v_39, e_22, b_25, b_27, b_29, b_31, b_33, b_38, b_40⟩ := hW.at m_1 t_2
  have mz_41 : fld (f a_0) 8 = v_28.toInt := by rw [e_22]; rfl
  have mz_42 : fld (f a_0) 12 = v_35.toInt := by rw [e_22]; rfl
  have mz_43 : fld (f a_0) 20 = v_39.toInt := by rw [e_22]; rfl
  have lp_2816 : ∀ (n_2817 : Nat) (f_2810 : Nat → va_E) (hW_2811 : WT T L f_2810) (hF_2812 : FR [12] f f_2810)  (nv_2813 : v_28.toInt ≤ fld (f_2810 a_0) 8) (nv_2814 : fld (f_2810 a_0) 12 = v_35.toInt) (nv_2815 : fld (f_2810 a_0) 20 = v_39.toInt) (hm_2819 : 600 - fld (f_2810 a_0) 8 < (n_2817 : Int)), V z E 2 0 0 L f_2810 0 [(0, .ref a_0)] [] := by
    intro n_2817
    induction n_2817 with
    | zero =>
      intro f_2810 hW_2811 hF_2812 nv_2813 nv_2814 nv_2815 hm_2819
      obtain ⟨v_2821, v_2822, v_2824, v_2826, v_2828, v_2830, v_2832, v_2833, v_2834, v_2835, v_2837, e_2820, b_2823, b_2825, b_2827, b_2829, b_2831, b_2836, b_2838⟩ := hW_2811.at m_1 t_2
      have fe_2839 : fld (f_2810 a_0) 8 = (v_2826 : Int32).toInt := by rw [e_2820]; rfl
      rw [fe_2839] at nv_2813
      have fe_2840 : fld (f_2810 a_0) 12 = (v_2833 : Int32).toInt := by rw [e_2820]; rfl
      rw [fe_2840] at nv_2814
      have fe_2841 : fld (f_2810 a_0) 20 = (v_2837 : Int32).toInt := by rw [e_2820]; rfl
      rw [fe_2841] at nv_2815
      have h_2842 : fld (f_2810 a_0) 8 = (v_2826 : Int32).toInt := by rw [e_2820]; rfl
      rw [h_2842] at hm_2819
      exfalso; omega
    | succ n_2817 ih_2818 =>
      intro f_2810 hW_2811 hF_2812 nv_2813 nv_2814 nv_2815 hm_2819
      obtain ⟨v_2821, v_2822, v_2824, v_2826, v_2828, v_2830, v_2832, v_2833, v_2834, v_2835, v_2837, e_2820, b_2823, b_2825, b_2827, b_2829, b_2831, b_2836, b_2838⟩ := hW_2811.at m_1 t_2
      have fe_2839 : fld (f_2810 a_0) 8 = (v_2826 : Int32).toInt := by rw [e_2820]; rfl
      rw [fe_2839] at nv_2813
      have fe_2840 : fld (f_2810 a_0) 12 = (v_2833 : Int32).toInt := by rw [e_2820]; rfl
      rw [fe_2840] at nv_2814
      have fe_2841 : fld (f_2810 a_0) 20 = (v_2837 : Int32).toInt := by rw [e_2820]; rfl
      rw [fe_2841] at nv_2815
      have h_2842 : fld (f_2810 a_0) 8 = (v_2826 : Int32).toInt := by rw [e_2820]; rfl
      rw [h_2842] at hm_2819
      refine v_aload_n hC dX12_advance_0 rfl ?_
      refine v_aload_n hC dX12_advance_1 rfl ?_
      refine v_get hC fl_X12_108 m_1 e_2820 rfl dX12_advance_2 ?_
      refine v_vi hC (rest := []) m_1 e_2820 rfl mi_X12_see ms_X12_see (p_X12_see hW_2811 k_0 (by first | omega | (simp only [Int32.lt_iff_toInt_lt, Int32.le_iff_toInt_le, Int32.reduceToInt, ← Int32.toInt_inj, true_and, and_true, or_true, true_or, false_or, or_false, false_and, and_false, not_true_eq_false, not_false_eq_true] <;> omega))) mx_X12_see ml_X12_114 (by decide) rfl (cells1 := 0) (slots1 := 0) (by decide) (by decide) (Nat.le_of_ble_eq_true rfl) (Nat.le_of_ble_eq_true rfl) rfl (Nat.le_of_ble_eq_true rfl) dX12_advance_5 (fun r_2843 L_2844 f_2845 h_2846 => ?_)
      obtain ⟨rfl, rfl, rfl⟩ := h_2846
      have sb_2849 := sv_b (f_2810 a_0) (f_2810 (q 4)) v_2826
      have fe_2850 : fld (f_2810 a_0) 7 = (v_2824 : Int32).toInt := by rw [e_2820]; rfl
      rw [fe_2850] at sb_2849
      refine v_bipush hC dX12_advance_8 (v := 32) (by decide) ?_
      refine v_icmp_eq hC dX12_advance_10 (tgt := 26) (by decide) (fun h_2851 => ?_) (fun h_2851 => ?_)
      · simp only [Int32.lt_iff_toInt_lt, Int32.le_iff_toInt_le, Int32.reduceToInt, ← Int32.toInt_inj] at h_2851
        refine v_aload_n hC dX12_advance_26 rfl ?_
        refine v_dup hC dX12_advance_27 rfl ?_
        refine v_get hC fl_X12_108 m_1 e_2820 rfl dX12_advance_28 ?_
        refine v_iconst hC dX12_advance_31 (v := 1) (by decide) ?_
        obtain ⟨v_2864, h_2865⟩ : ∃ v9 : Int32, v_2826 + 1 = v9 := ⟨_, rfl⟩
        refine v_iadd hC dX12_advance_32 h_2865 ?_
        have h_2866 := add_v h_2865 (by first | omega | (simp only [Int32.lt_iff_toInt_lt, Int32.le_iff_toInt_le, Int32.reduceToInt, ← Int32.toInt_inj, true_and, and_true, or_true, true_or, false_or, or_false, false_and, and_false, not_true_eq_false, not_false_eq_true] <;> omega)) (by first | omega | (simp only [Int32.lt_iff_toInt_lt, Int32.le_iff_toInt_le, Int32.reduceToInt, ← Int32.toInt_inj, true_and, and_true, or_true, true_or, false_or, or_false, false_and, and_false, not_true_eq_false, not_false_eq_true] <;> omega))
        try simp only [Int32.reduceToInt] at h_2866
        refine v_put hC fl_X12_108 m_1 e_2820 rfl rfl (Nat.le_of_ble_eq_true rfl) (fs' := [.int v_2821, .ref (q 1), .ref (q 2), .ref (q 3), .ref (q 4), .int v_2822, .ref (q 6), .int v_2824, .int v_2864, .int v_2828, .int v_2830, .int v_2832, .int v_2833, .int v_2834, .ref (q 14), .ref (q 15), .ref (q 16), .int v_2835, .ref (q 18), .ref (q 19), .int v_2837, .ref (q 21), .ref (q 22), .ref (q 23), .ref (q 24), .ref (q 25), .ref (q 26), .ref (q 27), .ref (q 28)]) rfl dX12_advance_33 (fun f_2867 hf_2868 hk_2869 => ?_)
        have hW_2870 := hW_2811.up hf_2868 hk_2869 t_2 ⟨v_2821, v_2822, v_2824, v_2864, v_2828, v_2830, v_2832, v_2833, v_2834, v_2835, v_2837, rfl, (by first | omega | (simp only [Int32.lt_iff_toInt_lt, Int32.le_iff_toInt_le, Int32.reduceToInt, ← Int32.toInt_inj, true_and, and_true, or_true, true_or, false_or, or_false, false_and, and_false, not_true_eq_false, not_false_eq_true] <;> omega)), (by first | omega | (simp only [Int32.lt_iff_toInt_lt, Int32.le_iff_toInt_le, Int32.reduceToInt, ← Int32.toInt_inj, true_and, and_true, or_true, true_or, false_or, or_false, false_and, and_false, not_true_eq_false, not_false_eq_true] <;> omega)), (by first | omega | (simp only [Int32.lt_iff_toInt_lt, Int32.le_iff_toInt_le, Int32.reduceToInt, ← Int32.toInt_inj, true_and, and_true, or_true, true_or, false_or, or_false, false_and, and_false, not_true_eq_false, not_false_eq_true] <;> omega)), (by first | omega | (simp only [Int32.lt_iff_toInt_lt, Int32.le_iff_toInt_le, Int32.reduceToInt, ← Int32.toInt_inj, true_and, and_true, or_true, true_or, false_or, or_false, false_and, and_false, not_true_eq_false, not_false_eq_true] <;> omega)), (by first | omega | (simp only [Int32.lt_iff_toInt_lt, Int32.le_iff_toInt_le, Int32.reduceToInt, ← Int32.toInt_inj, true_and, and_true, or_true, true_or, false_or, or_false, false_and, and_false, not_true_eq_false, not_false_eq_true] <;> omega)), (by first | omega | (simp only [Int32.lt_iff_toInt_lt, Int32.le_iff_toInt_le, Int32.reduceToInt, ← Int32.toInt_inj, true_and, and_true, or_true, true_or, false_or, or_false, false_and, and_false, not_true_eq_false, not_false_eq_true] <;> omega)), (by first | omega | (simp only [Int32.lt_iff_toInt_lt, Int32.le_iff_toInt_le, Int32.reduceToInt, ← Int32.toInt_inj, true_and, and_true, or_true, true_or, false_or, or_false, false_and, and_false, not_true_eq_false, not_false_eq_true] <;> omega))⟩
        have fr_2871 := FR.w hk_2869 e_2820 (k := 12) rfl
        refine v_goto hC dX12_advance_36 (tgt := 0) (by decide) ?_
        refine v_pick [0] rfl ?_
        have fe_2872 : fld (f_2867 a_0) 8 = (v_2864 : Int32).toInt := by rw [hf_2868]; rfl
        have fe_2873 : fld (f_2867 a_0) 12 = (v_2833 : Int32).toInt := by rw [hf_2868]; rfl
        have fe_2874 : fld (f_2867 a_0) 20 = (v_2837 : Int32).toInt := by rw [hf_2868]; rfl
        have h_2875 : fld (f_2867 a_0) 8 = (v_2864 : Int32).toInt := by rw [hf_2868]; rfl
        exact ih_2818 f_2867 hW_2870 ((hF_2812.tr fr_2871).mono rfl) (by rw [fe_2872] <;> first | omega | (simp only [Int32.lt_iff_toInt_lt, Int32.le_iff_toInt_le, Int32.reduceToInt, ← Int32.toInt_inj, true_and, and_true, or_true, true_or, false_or, or_false, false_and, and_false, not_true_eq_false, not_false_eq_true] <;> omega)) (by rw [fe_2873] <;> first | omega | (simp only [Int32.lt_iff_toInt_lt, Int32.le_iff_toInt_le, Int32.reduceToInt, ← Int32.toInt_inj, true_and, and_true, or_true, true_or, false_or, or_false, false_and, and_false, not_true_eq_false, not_false_eq_true] <;> omega)) (by rw [fe_2874] <;> first | omega | (simp only [Int32.lt_iff_toInt_lt, Int32.le_iff_toInt_le, Int32.reduceToInt, ← Int32.toInt_inj, true_and, and_true, or_true, true_or, false_or, or_false, false_and, and_false, not_true_eq_false, not_false_eq_true] <;> omega)) (by rw [h_2875]; omega)
      · simp only [Int32.lt_iff_toInt_lt, Int32.le_iff_toInt_le, Int32.reduceToInt, ← Int32.toInt_inj] at h_2851
        refine v_aload_n hC dX12_advance_13 rfl ?_
        refine v_aload_n hC dX12_advance_14 rfl ?_
        refine v_get hC fl_X12_108 m_1 e_2820 rfl dX12_advance_15 ?_
        refine v_vi hC (rest := []) m_1 e_2820 rfl mi_X12_see ms_X12_see (p_X12_see hW_2811 k_0 (by first | omega | (simp only [Int32.lt_iff_toInt_lt, Int32.le_iff_toInt_le, Int32.reduceToInt, ← Int32.toInt_inj, true_and, and_true, or_true, true_or, false_or, or_false, false_and, and_false, not_true_eq_false, not_false_eq_true] <;> omega))) mx_X12_see ml_X12_114 (by decide) rfl (cells1 := 0) (slots1 := 0) (by decide) (by decide) (Nat.le_of_ble_eq_true rfl) (Nat.le_of_ble_eq_true rfl) rfl (Nat.le_of_ble_eq_true rfl) dX12_advance_18 (fun r_2876 L_2877 f_2878 h_2879 => ?_)
        obtain ⟨rfl, rfl, rfl⟩ := h_2879
        have sb_2882 := sv_b (f_2810 a_0) (f_2810 (q 4)) v_2826
        have fe_2883 : fld (f_2810 a_0) 7 = (v_2824 : Int32).toInt := by rw [e_2820]; rfl
        rw [fe_2883] at sb_2882
        refine v_bipush hC dX12_advance_21 (v := 10) (by decide) ?_
        refine v_icmp_ne hC dX12_advance_23 (tgt := 39) (by decide) (fun h_2884 => ?_) (fun h_2884 => ?_)
        · simp only [Int32.lt_iff_toInt_lt, Int32.le_iff_toInt_le, Int32.reduceToInt, ← Int32.toInt_inj] at h_2884
          refine v_aload_n hC dX12_advance_39 rfl ?_
          refine v_aload_n hC dX12_advance_40 rfl ?_
          refine v_get hC fl_X12_108 m_1 e_2820 rfl dX12_advance_41 ?_
          refine v_put hC fl_X12_117 m_1 e_2820 rfl rfl (Nat.le_of_ble_eq_true rfl) (fs' := [.int v_2821, .ref (q 1), .ref (q 2), .ref (q 3), .ref (q 4), .int v_2822, .ref (q 6), .int v_2824, .int v_2826, .int v_2826, .int v_2830, .int v_2832, .int v_2833, .int v_2834, .ref (q 14), .ref (q 15), .ref (q 16), .int v_2835, .ref (q 18), .ref (q 19), .int v_2837, .ref (q 21), .ref (q 22), .ref (q 23), .ref (q 24), .ref (q 25), .ref (q 26), .ref (q 27), .ref (q 28)]) rfl dX12_advance_44 (fun f_2897 hf_2898 hk_2899 => ?_)
          have hW_2900 := hW_2811.up hf_2898 hk_2899 t_2 ⟨v_2821, v_2822, v_2824, v_2826, v_2826, v_2830, v_2832, v_2833, v_2834, v_2835, v_2837, rfl, (by first | omega | (simp only [Int32.lt_iff_toInt_lt, Int32.le_iff_toInt_le, Int32.reduceToInt, ← Int32.toInt_inj, true_and, and_true, or_true, true_or, false_or, or_false, false_and, and_false, not_true_eq_false, not_false_eq_true] <;> omega)), (by first | omega | (simp only [Int32.lt_iff_toInt_lt, Int32.le_iff_toInt_le, Int32.reduceToInt, ← Int32.toInt_inj, true_and, and_true, or_true, true_or, false_or, or_false, false_and, and_false, not_true_eq_false, not_false_eq_true] <;> omega)), (by first | omega | (simp only [Int32.lt_iff_toInt_lt, Int32.le_iff_toInt_le, Int32.reduceToInt, ← Int32.toInt_inj, true_and, and_true, or_true, true_or, false_or, or_false, false_and, and_false, not_true_eq_false, not_false_eq_true] <;> omega)), (by first | omega | (simp only [Int32.lt_iff_toInt_lt, Int32.le_iff_toInt_le, Int32.reduceToInt, ← Int32.toInt_inj, true_and, and_true, or_true, true_or, false_or, or_false, false_and, and_false, not_true_eq_false, not_false_eq_true] <;> omega)), (by first | omega | (simp only [Int32.lt_iff_toInt_lt, Int32.le_iff_toInt_le, Int32.reduceToInt, ← Int32.toInt_inj, true_and, and_true, or_true, true_or, false_or, or_false, false_and, and_false, not_true_eq_false, not_false_eq_true] <;> omega)), (by first | omega | (simp only [Int32.lt_iff_toInt_lt, Int32.le_iff_toInt_le, Int32.reduceToInt, ← Int32.toInt_inj, true_and, and_true, or_true, true_or, false_or, or_false, false_and, and_false, not_true_eq_false, not_false_eq_true] <;> omega)), (by first | omega | (simp only [Int32.lt_iff_toInt_lt, Int32.le_iff_toInt_le, Int32.reduceToInt, ← Int32.toInt_inj, true_and, and_true, or_true, true_or, false_or, or_false, false_and, and_false, not_true_eq_false, not_false_eq_true] <;> omega))⟩
          have fr_2901 := FR.w hk_2899 e_2820 (k := 12) rfl
          refine v_aload_n hC dX12_advance_47 rfl ?_
          refine v_aload_n hC dX12_advance_48 rfl ?_
          refine v_get hC fl_X12_108 m_1 hf_2898 rfl dX12_advance_49 ?_
          refine v_vi hC (rest := []) m_1 hf_2898 rfl mi_X12_see ms_X12_see (p_X12_see hW_2900 k_0 (by first | omega | (simp only [Int32.lt_iff_toInt_lt, Int32.le_iff_toInt_le, Int32.reduceToInt, ← Int32.toInt_inj, true_and, and_true, or_true, true_or, false_or, or_false, false_and, and_false, not_true_eq_false, not_false_eq_true] <;> omega))) mx_X12_see ml_X12_114 (by decide) rfl (cells1 := 0) (slots1 := 0) (by decide) (by decide) (Nat.le_of_ble_eq_true rfl) (Nat.le_of_ble_eq_true rfl) rfl (Nat.le_of_ble_eq_true rfl) dX12_advance_52 (fun r_2902 L_2903 f_2904 h_2905 => ?_)
          obtain ⟨rfl, rfl, rfl⟩ := h_2905
          have sb_2908 := sv_b (f_2897 a_0) (f_2897 (q 4)) v_2826
          have fe_2909 : fld (f_2897 a_0) 7 = (v_2824 : Int32).toInt := by rw [hf_2898]; rfl
          rw [fe_2909] at sb_2908
          obtain ⟨m_2910, t_2911⟩ := id k_6
          obtain ⟨g_2913, e_2912, fit_2914⟩ := hW_2900.at m_2910 t_2911
          have fe_2915 : fld (f_2897 a_0) 7 = (v_2824 : Int32).toInt := by rw [hf_2898]; rfl
          refine v_istore_n hC dX12_advance_55 (by decide) (lv' := [(1, .int (sv (f_2897 a_0) (f_2897 (q 4)) v_2826)), (0, .ref a_0)]) rfl ?_
          refine v_iload_n hC dX12_advance_56 rfl ?_
          refine v_iconst hC dX12_advance_57 (v := (-1)) (by decide) ?_
          refine v_icmp_ne hC dX12_advance_58 (tgt := 69) (by decide) (fun h_2916 => ?_) (fun h_2916 => ?_)
          · simp only [Int32.lt_iff_toInt_lt, Int32.le_iff_toInt_le, Int32.reduceToInt, ← Int32.toInt_inj] at h_2916
            refine v_iload_n hC dX12_advance_69 rfl ?_
            obtain ⟨v_2917, h_2918⟩ : ∃ v9 : Int64, (sv (f_2897 a_0) (f_2897 (q 4)) v_2826).toInt64 = v9 := ⟨_, rfl⟩
            refine v_i2l hC dX12_advance_70 h_2918 ?_
            have h_2919 : v_2917.toInt = (sv (f_2897 a_0) (f_2897 (q 4)) v_2826).toInt := by rw [← h_2918]; exact Int32.toInt_toInt64 _
            refine v_ldc2 hC kl_X12_123 dX12_advance_71 ?_
            refine v_ldc2 hC kl_X12_125 dX12_advance_74 ?_
            refine v_si hC (rest := []) mt_X12_in (p_X12_in hW_2900) mx_X12_in ml_X12_79 (by decide) rfl (cells1 := 0) (slots1 := 0) (by decide) (by decide) (Nat.le_of_ble_eq_true rfl) (Nat.le_of_ble_eq_true rfl) rfl (Nat.le_of_ble_eq_true rfl) dX12_advance_77 (fun r_2920 L_2921 f_2922 h_2923 => ?_)
            obtain ⟨rfl, rfl, b_2924, x_2925⟩ := h_2923
            try simp only [Int32.reduceToInt, Int64.reduceToInt] at x_2925
            refine v_if_eq hC dX12_advance_80 (tgt := 125) (by decide) (fun h_2928 => ?_) (fun h_2928 => ?_)
            · simp only [Int32.lt_iff_toInt_lt, Int32.le_iff_toInt_le, Int32.reduceToInt, ← Int32.toInt_inj] at h_2928
              refine v_iload_n hC dX12_advance_125 rfl ?_
              obtain ⟨v_2929, h_2930⟩ : ∃ v9 : Int64, (sv (f_2897 a_0) (f_2897 (q 4)) v_2826).toInt64 = v9 := ⟨_, rfl⟩
              refine v_i2l hC dX12_advance_126 h_2930 ?_
              have h_2931 : v_2929.toInt = (sv (f_2897 a_0) (f_2897 (q 4)) v_2826).toInt := by rw [← h_2930]; exact Int32.toInt_toInt64 _
              refine v_ldc2 hC kl_X12_127 dX12_advance_127 ?_
              refine v_ldc2 hC kl_X12_129 dX12_advance_130 ?_
              refine v_si hC (rest := []) mt_X12_in (p_X12_in hW_2900) mx_X12_in ml_X12_79 (by decide) rfl (cells1 := 0) (slots1 := 0) (by decide) (by decide) (Nat.le_of_ble_eq_true rfl) (Nat.le_of_ble_eq_true rfl) rfl (Nat.le_of_ble_eq_true rfl) dX12_advance_133 (fun r_2932 L_2933 f_2934 h_2935 => ?_)
              obtain ⟨rfl, rfl, b_2936, x_2937⟩ := h_2935
              try simp only [Int32.reduceToInt, Int64.reduceToInt] at x_2937
              refine v_if_eq hC dX12_advance_136 (tgt := 215) (by decide) (fun h_2940 => ?_) (fun h_2940 => ?_)
              · simp only [Int32.lt_iff_toInt_lt, Int32.le_iff_toInt_le, Int32.reduceToInt, ← Int32.toInt_inj] at h_2940
                refine v_aload_n hC dX12_advance_215 rfl ?_
                refine v_iload_n hC dX12_advance_216 rfl ?_
                refine v_bipush hC dX12_advance_217 (v := 59) (by decide) ?_
                refine v_icmp_ne hC dX12_advance_219 (tgt := 226) (by decide) (fun h_2941 => ?_) (fun h_2941 => ?_)
                · simp only [Int32.lt_iff_toInt_lt, Int32.le_iff_toInt_le, Int32.reduceToInt, ← Int32.toInt_inj] at h_2941
                  refine v_iconst hC dX12_advance_226 (v := 4) (by decide) ?_
                  refine v_put hC fl_X12_120 m_1 hf_2898 rfl rfl (Nat.le_of_ble_eq_true rfl) (fs' := [.int v_2821, .ref (q 1), .ref (q 2), .ref (q 3), .ref (q 4), .int v_2822, .ref (q 6), .int v_2824, .int v_2826, .int v_2826, .int 4, .int v_2832, .int v_2833, .int v_2834, .ref (q 14), .ref (q 15), .ref (q 16), .int v_2835, .ref (q 18), .ref (q 19), .int v_2837, .ref (q 21), .ref (q 22), .ref (q 23), .ref (q 24), .ref (q 25), .ref (q 26), .ref (q 27), .ref (q 28)]) rfl dX12_advance_227 (fun f_2942 hf_2943 hk_2944 => ?_)
                  have hW_2945 := hW_2900.up hf_2943 hk_2944 t_2 ⟨v_2821, v_2822, v_2824, v_2826, v_2826, 4, v_2832, v_2833, v_2834, v_2835, v_2837, rfl, (by first | omega | (simp only [Int32.lt_iff_toInt_lt, Int32.le_iff_toInt_le, Int32.reduceToInt, ← Int32.toInt_inj, true_and, and_true, or_true, true_or, false_or, or_false, false_and, and_false, not_true_eq_false, not_false_eq_true] <;> omega)), (by first | omega | (simp only [Int32.lt_iff_toInt_lt, Int32.le_iff_toInt_le, Int32.reduceToInt, ← Int32.toInt_inj, true_and, and_true, or_true, true_or, false_or, or_false, false_and, and_false, not_true_eq_false, not_false_eq_true] <;> omega)), (by first | omega | (simp only [Int32.lt_iff_toInt_lt, Int32.le_iff_toInt_le, Int32.reduceToInt, ← Int32.toInt_inj, true_and, and_true, or_true, true_or, false_or, or_false, false_and, and_false, not_true_eq_false, not_false_eq_true] <;> omega)), (by first | omega | (simp only [Int32.lt_iff_toInt_lt, Int32.le_iff_toInt_le, Int32.reduceToInt, ← Int32.toInt_inj, true_and, and_true, or_true, true_or, false_or, or_false, false_and, and_false, not_true_eq_false, not_false_eq_true] <;> omega)), (by decide), (by first | omega | (simp only [Int32.lt_iff_toInt_lt, Int32.le_iff_toInt_le, Int32.reduceToInt, ← Int32.toInt_inj, true_and, and_true, or_true, true_or, false_or, or_false, false_and, and_false, not_true_eq_false, not_false_eq_true] <;> omega)), (by first | omega | (simp only [Int32.lt_iff_toInt_lt, Int32.le_iff_toInt_le, Int32.reduceToInt, ← Int32.toInt_inj, true_and, and_true, or_true, true_or, false_or, or_false, false_and, and_false, not_true_eq_false, not_false_eq_true] <;> omega))⟩
                  have hf_2946 := (hk_2944 (q 4) (ne_kd e_2912 hf_2898 rfl)).trans e_2912
                  have fr_2947 := FR.w hk_2944 hf_2898 (k := 12) rfl
                  refine v_aload_n hC dX12_advance_230 rfl ?_
                  refine v_dup hC dX12_advance_231 rfl ?_
                  refine v_get hC fl_X12_108 m_1 hf_2943 rfl dX12_advance_232 ?_
                  refine v_iconst hC dX12_advance_235 (v := 1) (by decide) ?_
                  obtain ⟨v_2948, h_2949⟩ : ∃ v9 : Int32, v_2826 + 1 = v9 := ⟨_, rfl⟩
                  refine v_iadd hC dX12_advance_236 h_2949 ?_
                  have h_2950 := add_v h_2949 (by first | omega | (simp only [Int32.lt_iff_toInt_lt, Int32.le_iff_toInt_le, Int32.reduceToInt, ← Int32.toInt_inj, true_and, and_true, or_true, true_or, false_or, or_false, false_and, and_false, not_true_eq_false, not_false_eq_true] <;> omega)) (by first | omega | (simp only [Int32.lt_iff_toInt_lt, Int32.le_iff_toInt_le, Int32.reduceToInt, ← Int32.toInt_inj, true_and, and_true, or_true, true_or, false_or, or_false, false_and, and_false, not_true_eq_false, not_false_eq_true] <;> omega))
                  try simp only [Int32.reduceToInt] at h_2950
                  refine v_put hC fl_X12_108 m_1 hf_2943 rfl rfl (Nat.le_of_ble_eq_true rfl) (fs' := [.int v_2821, .ref (q 1), .ref (q 2), .ref (q 3), .ref (q 4), .int v_2822, .ref (q 6), .int v_2824, .int v_2948, .int v_2826, .int 4, .int v_2832, .int v_2833, .int v_2834, .ref (q 14), .ref (q 15), .ref (q 16), .int v_2835, .ref (q 18), .ref (q 19), .int v_2837, .ref (q 21), .ref (q 22), .ref (q 23), .ref (q 24), .ref (q 25), .ref (q 26), .ref (q 27), .ref (q 28)]) rfl dX12_advance_237 (fun f_2951 hf_2952 hk_2953 => ?_)
                  have hW_2954 := hW_2945.up hf_2952 hk_2953 t_2 ⟨v_2821, v_2822, v_2824, v_2948, v_2826, 4, v_2832, v_2833, v_2834, v_2835, v_2837, rfl, (by first | omega | (simp only [Int32.lt_iff_toInt_lt, Int32.le_iff_toInt_le, Int32.reduceToInt, ← Int32.toInt_inj, true_and, and_true, or_true, true_or, false_or, or_false, false_and, and_false, not_true_eq_false, not_false_eq_true] <;> omega)), (by first | omega | (simp only [Int32.lt_iff_toInt_lt, Int32.le_iff_toInt_le, Int32.reduceToInt, ← Int32.toInt_inj, true_and, and_true, or_true, true_or, false_or, or_false, false_and, and_false, not_true_eq_false, not_false_eq_true] <;> omega)), (by first | omega | (simp only [Int32.lt_iff_toInt_lt, Int32.le_iff_toInt_le, Int32.reduceToInt, ← Int32.toInt_inj, true_and, and_true, or_true, true_or, false_or, or_false, false_and, and_false, not_true_eq_false, not_false_eq_true] <;> omega)), (by first | omega | (simp only [Int32.lt_iff_toInt_lt, Int32.le_iff_toInt_le, Int32.reduceToInt, ← Int32.toInt_inj, true_and, and_true, or_true, true_or, false_or, or_false, false_and, and_false, not_true_eq_false, not_false_eq_true] <;> omega)), (by decide), (by first | omega | (simp only [Int32.lt_iff_toInt_lt, Int32.le_iff_toInt_le, Int32.reduceToInt, ← Int32.toInt_inj, true_and, and_true, or_true, true_or, false_or, or_false, false_and, and_false, not_true_eq_false, not_false_eq_true] <;> omega)), (by first | omega | (simp only [Int32.lt_iff_toInt_lt, Int32.le_iff_toInt_le, Int32.reduceToInt, ← Int32.toInt_inj, true_and, and_true, or_true, true_or, false_or, or_false, false_and, and_false, not_true_eq_false, not_false_eq_true] <;> omega))⟩
                  have hf_2955 := (hk_2953 (q 4) (ne_kd hf_2946 hf_2943 rfl)).trans hf_2946
                  have fr_2956 := FR.w hk_2953 hf_2943 (k := 12) rfl
                  have fe_2957 : fld (f_2951 a_0) 8 = (v_2948 : Int32).toInt := by rw [hf_2952]; rfl
                  have fe_2958 : fld (f_2951 a_0) 9 = (v_2826 : Int32).toInt := by rw [hf_2952]; rfl
                  have fe_2959 : fld (f_2951 a_0) 8 = (v_2948 : Int32).toInt := by rw [hf_2952]; rfl
                  have fe_2960 : fld (f_2951 a_0) 9 = (v_2826 : Int32).toInt := by rw [hf_2952]; rfl
                  have fe_2961 : fld (f_2951 a_0) 10 = (4 : Int32).toInt := by rw [hf_2952]; rfl
                  simp only [Int32.reduceToInt] at fe_2961
                  have fe_2962 : fld (f_2951 a_0) 12 = (v_2833 : Int32).toInt := by rw [hf_2952]; rfl
                  have fe_2963 : fld (f_2951 a_0) 20 = (v_2837 : Int32).toInt := by rw [hf_2952]; rfl
                  exact hR _ _ _ _ _ _ dX12_advance_240 (Nat.le_of_ble_eq_true rfl) (Nat.le_of_ble_eq_true rfl) ⟨rfl, hW_2954, ((((hF_2812.tr fr_2901).tr fr_2947).tr fr_2956).mono rfl), (by simp only [fe_2957, fe_2958, mz_41, true_and, and_true, or_true, true_or, false_or, or_false, false_and, and_false, not_true_eq_false, not_false_eq_true] <;> first | omega | (simp only [Int32.lt_iff_toInt_lt, Int32.le_iff_toInt_le, Int32.reduceToInt, ← Int32.toInt_inj, true_and, and_true, or_true, true_or, false_or, or_false, false_and, and_false, not_true_eq_false, not_false_eq_true] <;> omega)), (by simp only [fe_2959, fe_2960, fe_2961, true_and, and_true, or_true, true_or, false_or, or_false, false_and, and_false, not_true_eq_false, not_false_eq_true] <;> first | omega | (simp only [Int32.lt_iff_toInt_lt, Int32.le_iff_toInt_le, Int32.reduceToInt, ← Int32.toInt_inj, true_and, and_true, or_true, true_or, false_or, or_false, false_and, and_false, not_true_eq_false, not_false_eq_true] <;> omega)), (by simp only [fe_2962, mz_42, true_and, and_true, or_true, true_or, false_or, or_false, false_and, and_false, not_true_eq_false, not_false_eq_true] <;> first | omega | (simp only [Int32.lt_iff_toInt_lt, Int32.le_iff_toInt_le, Int32.reduceToInt, ← Int32.toInt_inj, true_and, and_true, or_true, true_or, false_or, or_false, false_and, and_false, not_true_eq_false, not_false_eq_true] <;> omega)), (by simp only [fe_2963, mz_43, true_and, and_true, or_true, true_or, false_or, or_false, false_and, and_false, not_true_eq_false, not_false_eq_true] <;> first | omega | (simp only [Int32.lt_iff_toInt_lt, Int32.le_iff_toInt_le, Int32.reduceToInt, ← Int32.toInt_inj, true_and, and_true, or_true, true_or, false_or, or_false, false_and, and_false, not_true_eq_false, not_false_eq_true] <;> omega))⟩
                · simp only [Int32.lt_iff_toInt_lt, Int32.le_iff_toInt_le, Int32.reduceToInt, ← Int32.toInt_inj] at h_2941
                  refine v_iconst hC dX12_advance_222 (v := 3) (by decide) ?_
                  refine v_goto hC dX12_advance_223 (tgt := 227) (by decide) ?_
                  refine v_put hC fl_X12_120 m_1 hf_2898 rfl rfl (Nat.le_of_ble_eq_true rfl) (fs' := [.int v_2821, .ref (q 1), .ref (q 2), .ref (q 3), .ref (q 4), .int v_2822, .ref (q 6), .int v_2824, .int v_2826, .int v_2826, .int 3, .int v_2832, .int v_2833, .int v_2834, .ref (q 14), .ref (q 15), .ref (q 16), .int v_2835, .ref (q 18), .ref (q 19), .int v_2837, .ref (q 21), .ref (q 22), .ref (q 23), .ref (q 24), .ref (q 25), .ref (q 26), .ref (q 27), .ref (q 28)]) rfl dX12_advance_227 (fun f_2964 hf_2965 hk_2966 => ?_)
                  have hW_2967 := hW_2900.up hf_2965 hk_2966 t_2 ⟨v_2821, v_2822, v_2824, v_2826, v_2826, 3, v_2832, v_2833, v_2834, v_2835, v_2837, rfl, (by first | omega | (simp only [Int32.lt_iff_toInt_lt, Int32.le_iff_toInt_le, Int32.reduceToInt, ← Int32.toInt_inj, true_and, and_true, or_true, true_or, false_or, or_false, false_and, and_false, not_true_eq_false, not_false_eq_true] <;> omega)), (by first | omega | (simp only [Int32.lt_iff_toInt_lt, Int32.le_iff_toInt_le, Int32.reduceToInt, ← Int32.toInt_inj, true_and, and_true, or_true, true_or, false_or, or_false, false_and, and_false, not_true_eq_false, not_false_eq_true] <;> omega)), (by first | omega | (simp only [Int32.lt_iff_toInt_lt, Int32.le_iff_toInt_le, Int32.reduceToInt, ← Int32.toInt_inj, true_and, and_true, or_true, true_or, false_or, or_false, false_and, and_false, not_true_eq_false, not_false_eq_true] <;> omega)), (by first | omega | (simp only [Int32.lt_iff_toInt_lt, Int32.le_iff_toInt_le, Int32.reduceToInt, ← Int32.toInt_inj, true_and, and_true, or_true, true_or, false_or, or_false, false_and, and_false, not_true_eq_false, not_false_eq_true] <;> omega)), (by decide), (by first | omega | (simp only [Int32.lt_iff_toInt_lt, Int32.le_iff_toInt_le, Int32.reduceToInt, ← Int32.toInt_inj, true_and, and_true, or_true, true_or, false_or, or_false, false_and, and_false, not_true_eq_false, not_false_eq_true] <;> omega)), (by first | omega | (simp only [Int32.lt_iff_toInt_lt, Int32.le_iff_toInt_le, Int32.reduceToInt, ← Int32.toInt_inj, true_and, and_true, or_true, true_or, false_or, or_false, false_and, and_false, not_true_eq_false, not_false_eq_true] <;> omega))⟩
                  have hf_2968 := (hk_2966 (q 4) (ne_kd e_2912 hf_2898 rfl)).trans e_2912
                  have fr_2969 := FR.w hk_2966 hf_2898 (k := 12) rfl
                  refine v_aload_n hC dX12_advance_230 rfl ?_
                  refine v_dup hC dX12_advance_231 rfl ?_
                  refine v_get hC fl_X12_108 m_1 hf_2965 rfl dX12_advance_232 ?_
                  refine v_iconst hC dX12_advance_235 (v := 1) (by decide) ?_
                  obtain ⟨v_2970, h_2971⟩ : ∃ v9 : Int32, v_2826 + 1 = v9 := ⟨_, rfl⟩
                  refine v_iadd hC dX12_advance_236 h_2971 ?_
                  have h_2972 := add_v h_2971 (by first | omega | (simp only [Int32.lt_iff_toInt_lt, Int32.le_iff_toInt_le, Int32.reduceToInt, ← Int32.toInt_inj, true_and, and_true, or_true, true_or, false_or, or_false, false_and, and_false, not_true_eq_false, not_false_eq_true] <;> omega)) (by first | omega | (simp only [Int32.lt_iff_toInt_lt, Int32.le_iff_toInt_le, Int32.reduceToInt, ← Int32.toInt_inj, true_and, and_true, or_true, true_or, false_or, or_false, false_and, and_false, not_true_eq_false, not_false_eq_true] <;> omega))
                  try simp only [Int32.reduceToInt] at h_2972
                  refine v_put hC fl_X12_108 m_1 hf_2965 rfl rfl (Nat.le_of_ble_eq_true rfl) (fs' := [.int v_2821, .ref (q 1), .ref (q 2), .ref (q 3), .ref (q 4), .int v_2822, .ref (q 6), .int v_2824, .int v_2970, .int v_2826, .int 3, .int v_2832, .int v_2833, .int v_2834, .ref (q 14), .ref (q 15), .ref (q 16), .int v_2835, .ref (q 18), .ref (q 19), .int v_2837, .ref (q 21), .ref (q 22), .ref (q 23), .ref (q 24), .ref (q 25), .ref (q 26), .ref (q 27), .ref (q 28)]) rfl dX12_advance_237 (fun f_2973 hf_2974 hk_2975 => ?_)
                  have hW_2976 := hW_2967.up hf_2974 hk_2975 t_2 ⟨v_2821, v_2822, v_2824, v_2970, v_2826, 3, v_2832, v_2833, v_2834, v_2835, v_2837, rfl, (by first | omega | (simp only [Int32.lt_iff_toInt_lt, Int32.le_iff_toInt_le, Int32.reduceToInt, ← Int32.toInt_inj, true_and, and_true, or_true, true_or, false_or, or_false, false_and, and_false, not_true_eq_false, not_false_eq_true] <;> omega)), (by first | omega | (simp only [Int32.lt_iff_toInt_lt, Int32.le_iff_toInt_le, Int32.reduceToInt, ← Int32.toInt_inj, true_and, and_true, or_true, true_or, false_or, or_false, false_and, and_false, not_true_eq_false, not_false_eq_true] <;> omega)), (by first | omega | (simp only [Int32.lt_iff_toInt_lt, Int32.le_iff_toInt_le, Int32.reduceToInt, ← Int32.toInt_inj, true_and, and_true, or_true, true_or, false_or, or_false, false_and, and_false, not_true_eq_false, not_false_eq_true] <;> omega)), (by first | omega | (simp only [Int32.lt_iff_toInt_lt, Int32.le_iff_toInt_le, Int32.reduceToInt, ← Int32.toInt_inj, true_and, and_true, or_true, true_or, false_or, or_false, false_and, and_false, not_true_eq_false, not_false_eq_true] <;> omega)), (by decide), (by first | omega | (simp only [Int32.lt_iff_toInt_lt, Int32.le_iff_toInt_le, Int32.reduceToInt, ← Int32.toInt_inj, true_and, and_true, or_true, true_or, false_or, or_false, false_and, and_false, not_true_eq_false, not_false_eq_true] <;> omega)), (by first | omega | (simp only [Int32.lt_iff_toInt_lt, Int32.le_iff_toInt_le, Int32.reduceToInt, ← Int32.toInt_inj, true_and, and_true, or_true, true_or, false_or, or_false, false_and, and_false, not_true_eq_false, not_false_eq_true] <;> omega))⟩
                  have hf_2977 := (hk_2975 (q 4) (ne_kd hf_2968 hf_2965 rfl)).trans hf_2968
                  have fr_2978 := FR.w hk_2975 hf_2965 (k := 12) rfl
                  have fe_2979 : fld (f_2973 a_0) 8 = (v_2970 : Int32).toInt := by rw [hf_2974]; rfl
                  have fe_2980 : fld (f_2973 a_0) 9 = (v_2826 : Int32).toInt := by rw [hf_2974]; rfl
                  have fe_2981 : fld (f_2973 a_0) 8 = (v_2970 : Int32).toInt := by rw [hf_2974]; rfl
                  have fe_2982 : fld (f_2973 a_0) 9 = (v_2826 : Int32).toInt := by rw [hf_2974]; rfl
                  have fe_2983 : fld (f_2973 a_0) 10 = (3 : Int32).toInt := by rw [hf_2974]; rfl
                  simp only [Int32.reduceToInt] at fe_2983
                  have fe_2984 : fld (f_2973 a_0) 12 = (v_2833 : Int32).toInt := by rw [hf_2974]; rfl
                  have fe_2985 : fld (f_2973 a_0) 20 = (v_2837 : Int32).toInt := by rw [hf_2974]; rfl
                  exact hR _ _ _ _ _ _ dX12_advance_240 (Nat.le_of_ble_eq_true rfl) (Nat.le_of_ble_eq_true rfl) ⟨rfl, hW_2976, ((((hF_2812.tr fr_2901).tr fr_2969).tr fr_2978).mono rfl), (by simp only [fe_2979, fe_2980, mz_41, true_and, and_true, or_true, true_or, false_or, or_false, false_and, and_false, not_true_eq_false, not_false_eq_true] <;> first | omega | (simp only [Int32.lt_iff_toInt_lt, Int32.le_iff_toInt_le, Int32.reduceToInt, ← Int32.toInt_inj, true_and, and_true, or_true, true_or, false_or, or_false, false_and, and_false, not_true_eq_false, not_false_eq_true] <;> omega)), (by simp only [fe_2981, fe_2982, fe_2983, true_and, and_true, or_true, true_or, false_or, or_false, false_and, and_false, not_true_eq_false, not_false_eq_true] <;> first | omega | (simp only [Int32.lt_iff_toInt_lt, Int32.le_iff_toInt_le, Int32.reduceToInt, ← Int32.toInt_inj, true_and, and_true, or_true, true_or, false_or, or_false, false_and, and_false, not_true_eq_false, not_false_eq_true] <;> omega)), (by simp only [fe_2984, mz_42, true_and, and_true, or_true, true_or, false_or, or_false, false_and, and_false, not_true_eq_false, not_false_eq_true] <;> first | omega | (simp only [Int32.lt_iff_toInt_lt, Int32.le_iff_toInt_le, Int32.reduceToInt, ← Int32.toInt_inj, true_and, and_true, or_true, true_or, false_or, or_false, false_and, and_false, not_true_eq_false, not_false_eq_true] <;> omega)), (by simp only [fe_2985, mz_43, true_and, and_true, or_true, true_or, false_or, or_false, false_and, and_false, not_true_eq_false, not_false_eq_true] <;> first | omega | (simp only [Int32.lt_iff_toInt_lt, Int32.le_iff_toInt_le, Int32.reduceToInt, ← Int32.toInt_inj, true_and, and_true, or_true, true_or, false_or, or_false, false_and, and_false, not_true_eq_false, not_false_eq_true] <;> omega))⟩
              · simp only [Int32.lt_iff_toInt_lt, Int32.le_iff_toInt_le, Int32.reduceToInt, ← Int32.toInt_inj] at h_2940
                refine v_aload_n hC dX12_advance_139 rfl ?_
                refine v_iconst hC dX12_advance_140 (v := 0) (by decide) ?_
                refine v_put hC fl_X12_131 m_1 hf_2898 rfl rfl (Nat.le_of_ble_eq_true rfl) (fs' := [.int v_2821, .ref (q 1), .ref (q 2), .ref (q 3), .ref (q 4), .int v_2822, .ref (q 6), .int v_2824, .int v_2826, .int v_2826, .int v_2830, .int 0, .int v_2833, .int v_2834, .ref (q 14), .ref (q 15), .ref (q 16), .int v_2835, .ref (q 18), .ref (q 19), .int v_2837, .ref (q 21), .ref (q 22), .ref (q 23), .ref (q 24), .ref (q 25), .ref (q 26), .ref (q 27), .ref (q 28)]) rfl dX12_advance_141 (fun f_2986 hf_2987 hk_2988 => ?_)
                have hW_2989 := hW_2900.up hf_2987 hk_2988 t_2 ⟨v_2821, v_2822, v_2824, v_2826, v_2826, v_2830, 0, v_2833, v_2834, v_2835, v_2837, rfl, (by first | omega | (simp only [Int32.lt_iff_toInt_lt, Int32.le_iff_toInt_le, Int32.reduceToInt, ← Int32.toInt_inj, true_and, and_true, or_true, true_or, false_or, or_false, false_and, and_false, not_true_eq_false, not_false_eq_true] <;> omega)), (by first | omega | (simp only [Int32.lt_iff_toInt_lt, Int32.le_iff_toInt_le, Int32.reduceToInt, ← Int32.toInt_inj, true_and, and_true, or_true, true_or, false_or, or_false, false_and, and_false, not_true_eq_false, not_false_eq_true] <;> omega)), (by first | omega | (simp only [Int32.lt_iff_toInt_lt, Int32.le_iff_toInt_le, Int32.reduceToInt, ← Int32.toInt_inj, true_and, and_true, or_true, true_or, false_or, or_false, false_and, and_false, not_true_eq_false, not_false_eq_true] <;> omega)), (by first | omega | (simp only [Int32.lt_iff_toInt_lt, Int32.le_iff_toInt_le, Int32.reduceToInt, ← Int32.toInt_inj, true_and, and_true, or_true, true_or, false_or, or_false, false_and, and_false, not_true_eq_false, not_false_eq_true] <;> omega)), (by first | omega | (simp only [Int32.lt_iff_toInt_lt, Int32.le_iff_toInt_le, Int32.reduceToInt, ← Int32.toInt_inj, true_and, and_true, or_true, true_or, false_or, or_false, false_and, and_false, not_true_eq_false, not_false_eq_true] <;> omega)), (by first | omega | (simp only [Int32.lt_iff_toInt_lt, Int32.le_iff_toInt_le, Int32.reduceToInt, ← Int32.toInt_inj, true_and, and_true, or_true, true_or, false_or, or_false, false_and, and_false, not_true_eq_false, not_false_eq_true] <;> omega)), (by first | omega | (simp only [Int32.lt_iff_toInt_lt, Int32.le_iff_toInt_le, Int32.reduceToInt, ← Int32.toInt_inj, true_and, and_true, or_true, true_or, false_or, or_false, false_and, and_false, not_true_eq_false, not_false_eq_true] <;> omega))⟩
                have hf_2990 := (hk_2988 (q 4) (ne_kd e_2912 hf_2898 rfl)).trans e_2912
                have fr_2991 := FR.w hk_2988 hf_2898 (k := 12) rfl
                refine v_aload_n hC dX12_advance_144 rfl ?_
                refine v_aload_n hC dX12_advance_145 rfl ?_
                refine v_get hC fl_X12_108 m_1 hf_2987 rfl dX12_advance_146 ?_
                refine v_vi hC (rest := []) m_1 hf_2987 rfl mi_X12_see ms_X12_see (p_X12_see hW_2989 k_0 (by first | omega | (simp only [Int32.lt_iff_toInt_lt, Int32.le_iff_toInt_le, Int32.reduceToInt, ← Int32.toInt_inj, true_and, and_true, or_true, true_or, false_or, or_false, false_and, and_false, not_true_eq_false, not_false_eq_true] <;> omega))) mx_X12_see ml_X12_114 (by decide) rfl (cells1 := 0) (slots1 := 0) (by decide) (by decide) (Nat.le_of_ble_eq_true rfl) (Nat.le_of_ble_eq_true rfl) rfl (Nat.le_of_ble_eq_true rfl) dX12_advance_149 (fun r_2992 L_2993 f_2994 h_2995 => ?_)
                obtain ⟨rfl, rfl, rfl⟩ := h_2995
                have sb_2998 := sv_b (f_2986 a_0) (f_2986 (q 4)) v_2826
                have fe_2999 : fld (f_2986 a_0) 7 = (v_2824 : Int32).toInt := by rw [hf_2987]; rfl
                rw [fe_2999] at sb_2998
                have fe_3000 : fld (f_2986 a_0) 7 = (v_2824 : Int32).toInt := by rw [hf_2987]; rfl
                have sc_3001 : ((sv (f_2986 a_0) (f_2986 (q 4)) v_2826)).toInt = ((sv (f_2897 a_0) (f_2897 (q 4)) v_2826)).toInt := congrArg Int32.toInt (sv_congr (fe_3000.trans fe_2915.symm) (hf_2990.trans e_2912.symm))
                obtain ⟨v_3002, h_3003⟩ : ∃ v9 : Int64, (sv (f_2986 a_0) (f_2986 (q 4)) v_2826).toInt64 = v9 := ⟨_, rfl⟩
                refine v_i2l hC dX12_advance_152 h_3003 ?_
                have h_3004 : v_3002.toInt = (sv (f_2986 a_0) (f_2986 (q 4)) v_2826).toInt := by rw [← h_3003]; exact Int32.toInt_toInt64 _
                refine v_ldc2 hC kl_X12_127 dX12_advance_153 ?_
                refine v_ldc2 hC kl_X12_129 dX12_advance_156 ?_
                refine v_si hC (rest := []) mt_X12_in (p_X12_in hW_2989) mx_X12_in ml_X12_79 (by decide) rfl (cells1 := 0) (slots1 := 0) (by decide) (by decide) (Nat.le_of_ble_eq_true rfl) (Nat.le_of_ble_eq_true rfl) rfl (Nat.le_of_ble_eq_true rfl) dX12_advance_159 (fun r_3005 L_3006 f_3007 h_3008 => ?_)
                obtain ⟨rfl, rfl, b_3009, x_3010⟩ := h_3008
                try simp only [Int32.reduceToInt, Int64.reduceToInt] at x_3010
                refine v_if_eq_f hC dX12_advance_162 (tgt := 207) (by decide) (by first | omega | (simp only [Int32.lt_iff_toInt_lt, Int32.le_iff_toInt_le, Int32.reduceToInt, ← Int32.toInt_inj, true_and, and_true, or_true, true_or, false_or, or_false, false_and, and_false, not_true_eq_false, not_false_eq_true] <;> omega)) ?_
                refine v_aload_n hC dX12_advance_165 rfl ?_
                refine v_sipush hC dX12_advance_166 (v := 9999) (by decide) ?_
                refine v_bipush hC dX12_advance_169 (v := 10) (by decide) ?_
                refine v_aload_n hC dX12_advance_171 rfl ?_
                refine v_get hC fl_X12_131 m_1 hf_2987 rfl dX12_advance_172 ?_
                refine v_imul hC dX12_advance_175 (v := 0) (by decide) ?_
                refine v_aload_n hC dX12_advance_176 rfl ?_
                refine v_aload_n hC dX12_advance_177 rfl ?_
                refine v_get hC fl_X12_108 m_1 hf_2987 rfl dX12_advance_178 ?_
                refine v_vi hC (rest := [.int 0, .int 9999, .ref a_0]) m_1 hf_2987 rfl mi_X12_see ms_X12_see (p_X12_see hW_2989 k_0 (by first | omega | (simp only [Int32.lt_iff_toInt_lt, Int32.le_iff_toInt_le, Int32.reduceToInt, ← Int32.toInt_inj, true_and, and_true, or_true, true_or, false_or, or_false, false_and, and_false, not_true_eq_false, not_false_eq_true] <;> omega))) mx_X12_see ml_X12_114 (by decide) rfl (cells1 := 0) (slots1 := 0) (by decide) (by decide) (Nat.le_of_ble_eq_true rfl) (Nat.le_of_ble_eq_true rfl) rfl (Nat.le_of_ble_eq_true rfl) dX12_advance_181 (fun r_3013 L_3014 f_3015 h_3016 => ?_)
                obtain ⟨rfl, rfl, rfl⟩ := h_3016
                have sb_3019 := sv_b (f_2986 a_0) (f_2986 (q 4)) v_2826
                have fe_3020 : fld (f_2986 a_0) 7 = (v_2824 : Int32).toInt := by rw [hf_2987]; rfl
                rw [fe_3020] at sb_3019
                obtain ⟨v_3021, h_3022⟩ : ∃ v9 : Int32, (0 : Int32) + (sv (f_2986 a_0) (f_2986 (q 4)) v_2826) = v9 := ⟨_, rfl⟩
                refine v_iadd hC dX12_advance_184 h_3022 ?_
                have h_3023 := add_v h_3022 (by first | omega | (simp only [Int32.lt_iff_toInt_lt, Int32.le_iff_toInt_le, Int32.reduceToInt, ← Int32.toInt_inj, true_and, and_true, or_true, true_or, false_or, or_false, false_and, and_false, not_true_eq_false, not_false_eq_true] <;> omega)) (by first | omega | (simp only [Int32.lt_iff_toInt_lt, Int32.le_iff_toInt_le, Int32.reduceToInt, ← Int32.toInt_inj, true_and, and_true, or_true, true_or, false_or, or_false, false_and, and_false, not_true_eq_false, not_false_eq_true] <;> omega))
                try simp only [Int32.reduceToInt] at h_3023
                refine v_bipush hC dX12_advance_185 (v := 48) (by decide) ?_
                obtain ⟨v_3024, h_3025⟩ : ∃ v9 : Int32, v_3021 - 48 = v9 := ⟨_, rfl⟩
                refine v_isub hC dX12_advance_187 h_3025 ?_
                have h_3026 := sub_v h_3025 (by first | omega | (simp only [Int32.lt_iff_toInt_lt, Int32.le_iff_toInt_le, Int32.reduceToInt, ← Int32.toInt_inj, true_and, and_true, or_true, true_or, false_or, or_false, false_and, and_false, not_true_eq_false, not_false_eq_true] <;> omega)) (by first | omega | (simp only [Int32.lt_iff_toInt_lt, Int32.le_iff_toInt_le, Int32.reduceToInt, ← Int32.toInt_inj, true_and, and_true, or_true, true_or, false_or, or_false, false_and, and_false, not_true_eq_false, not_false_eq_true] <;> omega))
                try simp only [Int32.reduceToInt] at h_3026
                obtain ⟨v_3027, h_3028⟩ : ∃ v9 : Int32, (if v_3024 < (9999 : Int32) then v_3024 else (9999 : Int32)) = v9 := ⟨_, rfl⟩
                refine v_mmin hC mm_X12_134 mm_smin mm_i mm_cmin (by decide) (Nat.le_of_ble_eq_true rfl) (Nat.le_of_ble_eq_true rfl) (Nat.le_of_ble_eq_true rfl) h_3028 dX12_advance_188 ?_
                have b_3029 := min_v h_3028
                try simp only [Int32.reduceToInt] at b_3029
                refine v_put hC fl_X12_131 m_1 hf_2987 rfl rfl (Nat.le_of_ble_eq_true rfl) (fs' := [.int v_2821, .ref (q 1), .ref (q 2), .ref (q 3), .ref (q 4), .int v_2822, .ref (q 6), .int v_2824, .int v_2826, .int v_2826, .int v_2830, .int v_3027, .int v_2833, .int v_2834, .ref (q 14), .ref (q 15), .ref (q 16), .int v_2835, .ref (q 18), .ref (q 19), .int v_2837, .ref (q 21), .ref (q 22), .ref (q 23), .ref (q 24), .ref (q 25), .ref (q 26), .ref (q 27), .ref (q 28)]) rfl dX12_advance_191 (fun f_3030 hf_3031 hk_3032 => ?_)
                have hW_3033 := hW_2989.up hf_3031 hk_3032 t_2 ⟨v_2821, v_2822, v_2824, v_2826, v_2826, v_2830, v_3027, v_2833, v_2834, v_2835, v_2837, rfl, (by first | omega | (simp only [Int32.lt_iff_toInt_lt, Int32.le_iff_toInt_le, Int32.reduceToInt, ← Int32.toInt_inj, true_and, and_true, or_true, true_or, false_or, or_false, false_and, and_false, not_true_eq_false, not_false_eq_true] <;> omega)), (by first | omega | (simp only [Int32.lt_iff_toInt_lt, Int32.le_iff_toInt_le, Int32.reduceToInt, ← Int32.toInt_inj, true_and, and_true, or_true, true_or, false_or, or_false, false_and, and_false, not_true_eq_false, not_false_eq_true] <;> omega)), (by first | omega | (simp only [Int32.lt_iff_toInt_lt, Int32.le_iff_toInt_le, Int32.reduceToInt, ← Int32.toInt_inj, true_and, and_true, or_true, true_or, false_or, or_false, false_and, and_false, not_true_eq_false, not_false_eq_true] <;> omega)), (by first | omega | (simp only [Int32.lt_iff_toInt_lt, Int32.le_iff_toInt_le, Int32.reduceToInt, ← Int32.toInt_inj, true_and, and_true, or_true, true_or, false_or, or_false, false_and, and_false, not_true_eq_false, not_false_eq_true] <;> omega)), (by first | omega | (simp only [Int32.lt_iff_toInt_lt, Int32.le_iff_toInt_le, Int32.reduceToInt, ← Int32.toInt_inj, true_and, and_true, or_true, true_or, false_or, or_false, false_and, and_false, not_true_eq_false, not_false_eq_true] <;> omega)), (by first | omega | (simp only [Int32.lt_iff_toInt_lt, Int32.le_iff_toInt_le, Int32.reduceToInt, ← Int32.toInt_inj, true_and, and_true, or_true, true_or, false_or, or_false, false_and, and_false, not_true_eq_false, not_false_eq_true] <;> omega)), (by first | omega | (simp only [Int32.lt_iff_toInt_lt, Int32.le_iff_toInt_le, Int32.reduceToInt, ← Int32.toInt_inj, true_and, and_true, or_true, true_or, false_or, or_false, false_and, and_false, not_true_eq_false, not_false_eq_true] <;> omega))⟩
                have hf_3034 := (hk_3032 (q 4) (ne_kd hf_2990 hf_2987 rfl)).trans hf_2990
                have fr_3035 := FR.w hk_3032 hf_2987 (k := 12) rfl
                refine v_aload_n hC dX12_advance_194 rfl ?_
                refine v_dup hC dX12_advance_195 rfl ?_
                refine v_get hC fl_X12_108 m_1 hf_3031 rfl dX12_advance_196 ?_
                refine v_iconst hC dX12_advance_199 (v := 1) (by decide) ?_
                obtain ⟨v_3036, h_3037⟩ : ∃ v9 : Int32, v_2826 + 1 = v9 := ⟨_, rfl⟩
                refine v_iadd hC dX12_advance_200 h_3037 ?_
                have h_3038 := add_v h_3037 (by first | omega | (simp only [Int32.lt_iff_toInt_lt, Int32.le_iff_toInt_le, Int32.reduceToInt, ← Int32.toInt_inj, true_and, and_true, or_true, true_or, false_or, or_false, false_and, and_false, not_true_eq_false, not_false_eq_true] <;> omega)) (by first | omega | (simp only [Int32.lt_iff_toInt_lt, Int32.le_iff_toInt_le, Int32.reduceToInt, ← Int32.toInt_inj, true_and, and_true, or_true, true_or, false_or, or_false, false_and, and_false, not_true_eq_false, not_false_eq_true] <;> omega))
                try simp only [Int32.reduceToInt] at h_3038
                refine v_put hC fl_X12_108 m_1 hf_3031 rfl rfl (Nat.le_of_ble_eq_true rfl) (fs' := [.int v_2821, .ref (q 1), .ref (q 2), .ref (q 3), .ref (q 4), .int v_2822, .ref (q 6), .int v_2824, .int v_3036, .int v_2826, .int v_2830, .int v_3027, .int v_2833, .int v_2834, .ref (q 14), .ref (q 15), .ref (q 16), .int v_2835, .ref (q 18), .ref (q 19), .int v_2837, .ref (q 21), .ref (q 22), .ref (q 23), .ref (q 24), .ref (q 25), .ref (q 26), .ref (q 27), .ref (q 28)]) rfl dX12_advance_201 (fun f_3039 hf_3040 hk_3041 => ?_)
                have hW_3042 := hW_3033.up hf_3040 hk_3041 t_2 ⟨v_2821, v_2822, v_2824, v_3036, v_2826, v_2830, v_3027, v_2833, v_2834, v_2835, v_2837, rfl, (by first | omega | (simp only [Int32.lt_iff_toInt_lt, Int32.le_iff_toInt_le, Int32.reduceToInt, ← Int32.toInt_inj, true_and, and_true, or_true, true_or, false_or, or_false, false_and, and_false, not_true_eq_false, not_false_eq_true] <;> omega)), (by first | omega | (simp only [Int32.lt_iff_toInt_lt, Int32.le_iff_toInt_le, Int32.reduceToInt, ← Int32.toInt_inj, true_and, and_true, or_true, true_or, false_or, or_false, false_and, and_false, not_true_eq_false, not_false_eq_true] <;> omega)), (by first | omega | (simp only [Int32.lt_iff_toInt_lt, Int32.le_iff_toInt_le, Int32.reduceToInt, ← Int32.toInt_inj, true_and, and_true, or_true, true_or, false_or, or_false, false_and, and_false, not_true_eq_false, not_false_eq_true] <;> omega)), (by first | omega | (simp only [Int32.lt_iff_toInt_lt, Int32.le_iff_toInt_le, Int32.reduceToInt, ← Int32.toInt_inj, true_and, and_true, or_true, true_or, false_or, or_false, false_and, and_false, not_true_eq_false, not_false_eq_true] <;> omega)), (by first | omega | (simp only [Int32.lt_iff_toInt_lt, Int32.le_iff_toInt_le, Int32.reduceToInt, ← Int32.toInt_inj, true_and, and_true, or_true, true_or, false_or, or_false, false_and, and_false, not_true_eq_false, not_false_eq_true] <;> omega)), (by first | omega | (simp only [Int32.lt_iff_toInt_lt, Int32.le_iff_toInt_le, Int32.reduceToInt, ← Int32.toInt_inj, true_and, and_true, or_true, true_or, false_or, or_false, false_and, and_false, not_true_eq_false, not_false_eq_true] <;> omega)), (by first | omega | (simp only [Int32.lt_iff_toInt_lt, Int32.le_iff_toInt_le, Int32.reduceToInt, ← Int32.toInt_inj, true_and, and_true, or_true, true_or, false_or, or_false, false_and, and_false, not_true_eq_false, not_false_eq_true] <;> omega))⟩
                have hf_3043 := (hk_3041 (q 4) (ne_kd hf_3034 hf_3031 rfl)).trans hf_3034
                have fr_3044 := FR.w hk_3041 hf_3031 (k := 12) rfl
                refine v_goto hC dX12_advance_204 (tgt := 144) (by decide) ?_
                have lp_3320 : ∀ (n_3321 : Nat) (f_3312 : Nat → va_E) (hW_3313 : WT T L f_3312) (hF_3314 : FR [12] f_3039 f_3312)  (nv_3316 : v_28.toInt ≤ fld (f_3312 a_0) 9) (nv_3317 : fld (f_3312 a_0) 9 < fld (f_3312 a_0) 8) (nv_3318 : fld (f_3312 a_0) 12 = v_35.toInt) (nv_3319 : fld (f_3312 a_0) 20 = v_39.toInt) (hm_3323 : 600 - fld (f_3312 a_0) 8 < (n_3321 : Int)), V z E 2 0 0 L f_3312 144 [(0, .ref a_0)] [] := by
                  intro n_3321
                  induction n_3321 with
                  | zero =>
                    intro f_3312 hW_3313 hF_3314 nv_3316 nv_3317 nv_3318 nv_3319 hm_3323
                    have hf_3315 := hF_3314.at hf_3043 rfl
                    obtain ⟨v_3325, v_3326, v_3328, v_3330, v_3332, v_3334, v_3336, v_3337, v_3338, v_3339, v_3341, e_3324, b_3327, b_3329, b_3331, b_3333, b_3335, b_3340, b_3342⟩ := hW_3313.at m_1 t_2
                    have fe_3343 : fld (f_3312 a_0) 9 = (v_3332 : Int32).toInt := by rw [e_3324]; rfl
                    rw [fe_3343] at nv_3316
                    have fe_3344 : fld (f_3312 a_0) 8 = (v_3330 : Int32).toInt := by rw [e_3324]; rfl
                    have fe_3345 : fld (f_3312 a_0) 9 = (v_3332 : Int32).toInt := by rw [e_3324]; rfl
                    rw [fe_3344, fe_3345] at nv_3317
                    have fe_3346 : fld (f_3312 a_0) 12 = (v_3337 : Int32).toInt := by rw [e_3324]; rfl
                    rw [fe_3346] at nv_3318
                    have fe_3347 : fld (f_3312 a_0) 20 = (v_3341 : Int32).toInt := by rw [e_3324]; rfl
                    rw [fe_3347] at nv_3319
                    have h_3348 : fld (f_3312 a_0) 8 = (v_3330 : Int32).toInt := by rw [e_3324]; rfl
                    rw [h_3348] at hm_3323
                    exfalso; omega
                  | succ n_3321 ih_3322 =>
                    intro f_3312 hW_3313 hF_3314 nv_3316 nv_3317 nv_3318 nv_3319 hm_3323
                    have hf_3315 := hF_3314.at hf_3043 rfl
                    obtain ⟨v_3325, v_3326, v_3328, v_3330, v_3332, v_3334, v_3336, v_3337, v_3338, v_3339, v_3341, e_3324, b_3327, b_3329, b_3331, b_3333, b_3335, b_3340, b_3342⟩ := hW_3313.at m_1 t_2
                    have fe_3343 : fld (f_3312 a_0) 9 = (v_3332 : Int32).toInt := by rw [e_3324]; rfl
                    rw [fe_3343] at nv_3316
                    have fe_3344 : fld (f_3312 a_0) 8 = (v_3330 : Int32).toInt := by rw [e_3324]; rfl
                    have fe_3345 : fld (f_3312 a_0) 9 = (v_3332 : Int32).toInt := by rw [e_3324]; rfl
                    rw [fe_3344, fe_3345] at nv_3317
                    have fe_3346 : fld (f_3312 a_0) 12 = (v_3337 : Int32).toInt := by rw [e_3324]; rfl
                    rw [fe_3346] at nv_3318
                    have fe_3347 : fld (f_3312 a_0) 20 = (v_3341 : Int32).toInt := by rw [e_3324]; rfl
                    rw [fe_3347] at nv_3319
                    have h_3348 : fld (f_3312 a_0) 8 = (v_3330 : Int32).toInt := by rw [e_3324]; rfl
                    rw [h_3348] at hm_3323
                    refine v_aload_n hC dX12_advance_144 rfl ?_
                    refine v_aload_n hC dX12_advance_145 rfl ?_
                    refine v_get hC fl_X12_108 m_1 e_3324 rfl dX12_advance_146 ?_
                    refine v_vi hC (rest := []) m_1 e_3324 rfl mi_X12_see ms_X12_see (p_X12_see hW_3313 k_0 (by first | omega | (simp only [Int32.lt_iff_toInt_lt, Int32.le_iff_toInt_le, Int32.reduceToInt, ← Int32.toInt_inj, true_and, and_true, or_true, true_or, false_or, or_false, false_and, and_false, not_true_eq_false, not_false_eq_true] <;> omega))) mx_X12_see ml_X12_114 (by decide) rfl (cells1 := 0) (slots1 := 0) (by decide) (by decide) (Nat.le_of_ble_eq_true rfl) (Nat.le_of_ble_eq_true rfl) rfl (Nat.le_of_ble_eq_true rfl) dX12_advance_149 (fun r_3349 L_3350 f_3351 h_3352 => ?_)
                    obtain ⟨rfl, rfl, rfl⟩ := h_3352
                    have sb_3355 := sv_b (f_3312 a_0) (f_3312 (q 4)) v_3330
                    have fe_3356 : fld (f_3312 a_0) 7 = (v_3328 : Int32).toInt := by rw [e_3324]; rfl
                    rw [fe_3356] at sb_3355
                    obtain ⟨v_3357, h_3358⟩ : ∃ v9 : Int64, (sv (f_3312 a_0) (f_3312 (q 4)) v_3330).toInt64 = v9 := ⟨_, rfl⟩
                    refine v_i2l hC dX12_advance_152 h_3358 ?_
                    have h_3359 : v_3357.toInt = (sv (f_3312 a_0) (f_3312 (q 4)) v_3330).toInt := by rw [← h_3358]; exact Int32.toInt_toInt64 _
                    refine v_ldc2 hC kl_X12_127 dX12_advance_153 ?_
                    refine v_ldc2 hC kl_X12_129 dX12_advance_156 ?_
                    refine v_si hC (rest := []) mt_X12_in (p_X12_in hW_3313) mx_X12_in ml_X12_79 (by decide) rfl (cells1 := 0) (slots1 := 0) (by decide) (by decide) (Nat.le_of_ble_eq_true rfl) (Nat.le_of_ble_eq_true rfl) rfl (Nat.le_of_ble_eq_true rfl) dX12_advance_159 (fun r_3360 L_3361 f_3362 h_3363 => ?_)
                    obtain ⟨rfl, rfl, b_3364, x_3365⟩ := h_3363
                    try simp only [Int32.reduceToInt, Int64.reduceToInt] at x_3365
                    refine v_if_eq hC dX12_advance_162 (tgt := 207) (by decide) (fun h_3368 => ?_) (fun h_3368 => ?_)
                    · simp only [Int32.lt_iff_toInt_lt, Int32.le_iff_toInt_le, Int32.reduceToInt, ← Int32.toInt_inj] at h_3368
                      refine v_aload_n hC dX12_advance_207 rfl ?_
                      refine v_iconst hC dX12_advance_208 (v := 2) (by decide) ?_
                      refine v_put hC fl_X12_120 m_1 e_3324 rfl rfl (Nat.le_of_ble_eq_true rfl) (fs' := [.int v_3325, .ref (q 1), .ref (q 2), .ref (q 3), .ref (q 4), .int v_3326, .ref (q 6), .int v_3328, .int v_3330, .int v_3332, .int 2, .int v_3336, .int v_3337, .int v_3338, .ref (q 14), .ref (q 15), .ref (q 16), .int v_3339, .ref (q 18), .ref (q 19), .int v_3341, .ref (q 21), .ref (q 22), .ref (q 23), .ref (q 24), .ref (q 25), .ref (q 26), .ref (q 27), .ref (q 28)]) rfl dX12_advance_209 (fun f_3369 hf_3370 hk_3371 => ?_)
                      have hW_3372 := hW_3313.up hf_3370 hk_3371 t_2 ⟨v_3325, v_3326, v_3328, v_3330, v_3332, 2, v_3336, v_3337, v_3338, v_3339, v_3341, rfl, (by first | omega | (simp only [Int32.lt_iff_toInt_lt, Int32.le_iff_toInt_le, Int32.reduceToInt, ← Int32.toInt_inj, true_and, and_true, or_true, true_or, false_or, or_false, false_and, and_false, not_true_eq_false, not_false_eq_true] <;> omega)), (by first | omega | (simp only [Int32.lt_iff_toInt_lt, Int32.le_iff_toInt_le, Int32.reduceToInt, ← Int32.toInt_inj, true_and, and_true, or_true, true_or, false_or, or_false, false_and, and_false, not_true_eq_false, not_false_eq_true] <;> omega)), (by first | omega | (simp only [Int32.lt_iff_toInt_lt, Int32.le_iff_toInt_le, Int32.reduceToInt, ← Int32.toInt_inj, true_and, and_true, or_true, true_or, false_or, or_false, false_and, and_false, not_true_eq_false, not_false_eq_true] <;> omega)), (by first | omega | (simp only [Int32.lt_iff_toInt_lt, Int32.le_iff_toInt_le, Int32.reduceToInt, ← Int32.toInt_inj, true_and, and_true, or_true, true_or, false_or, or_false, false_and, and_false, not_true_eq_false, not_false_eq_true] <;> omega)), (by decide), (by first | omega | (simp only [Int32.lt_iff_toInt_lt, Int32.le_iff_toInt_le, Int32.reduceToInt, ← Int32.toInt_inj, true_and, and_true, or_true, true_or, false_or, or_false, false_and, and_false, not_true_eq_false, not_false_eq_true] <;> omega)), (by first | omega | (simp only [Int32.lt_iff_toInt_lt, Int32.le_iff_toInt_le, Int32.reduceToInt, ← Int32.toInt_inj, true_and, and_true, or_true, true_or, false_or, or_false, false_and, and_false, not_true_eq_false, not_false_eq_true] <;> omega))⟩
                      have hf_3373 := (hk_3371 (q 4) (ne_kd hf_3315 e_3324 rfl)).trans hf_3315
                      have fr_3374 := FR.w hk_3371 e_3324 (k := 12) rfl
                      refine v_goto hC dX12_advance_212 (tgt := 240) (by decide) ?_
                      have fe_3375 : fld (f_3369 a_0) 8 = (v_3330 : Int32).toInt := by rw [hf_3370]; rfl
                      have fe_3376 : fld (f_3369 a_0) 9 = (v_3332 : Int32).toInt := by rw [hf_3370]; rfl
                      have fe_3377 : fld (f_3369 a_0) 8 = (v_3330 : Int32).toInt := by rw [hf_3370]; rfl
                      have fe_3378 : fld (f_3369 a_0) 9 = (v_3332 : Int32).toInt := by rw [hf_3370]; rfl
                      have fe_3379 : fld (f_3369 a_0) 10 = (2 : Int32).toInt := by rw [hf_3370]; rfl
                      simp only [Int32.reduceToInt] at fe_3379
                      have fe_3380 : fld (f_3369 a_0) 12 = (v_3337 : Int32).toInt := by rw [hf_3370]; rfl
                      have fe_3381 : fld (f_3369 a_0) 20 = (v_3341 : Int32).toInt := by rw [hf_3370]; rfl
                      exact hR _ _ _ _ _ _ dX12_advance_240 (Nat.le_of_ble_eq_true rfl) (Nat.le_of_ble_eq_true rfl) ⟨rfl, hW_3372, (((((((hF_2812.tr fr_2901).tr fr_2991).tr fr_3035).tr fr_3044).tr hF_3314).tr fr_3374).mono rfl), (by simp only [fe_3375, fe_3376, mz_41, true_and, and_true, or_true, true_or, false_or, or_false, false_and, and_false, not_true_eq_false, not_false_eq_true] <;> first | omega | (simp only [Int32.lt_iff_toInt_lt, Int32.le_iff_toInt_le, Int32.reduceToInt, ← Int32.toInt_inj, true_and, and_true, or_true, true_or, false_or, or_false, false_and, and_false, not_true_eq_false, not_false_eq_true] <;> omega)), (by simp only [fe_3377, fe_3378, fe_3379, true_and, and_true, or_true, true_or, false_or, or_false, false_and, and_false, not_true_eq_false, not_false_eq_true] <;> first | omega | (simp only [Int32.lt_iff_toInt_lt, Int32.le_iff_toInt_le, Int32.reduceToInt, ← Int32.toInt_inj, true_and, and_true, or_true, true_or, false_or, or_false, false_and, and_false, not_true_eq_false, not_false_eq_true] <;> omega)), (by simp only [fe_3380, mz_42, true_and, and_true, or_true, true_or, false_or, or_false, false_and, and_false, not_true_eq_false, not_false_eq_true] <;> first | omega | (simp only [Int32.lt_iff_toInt_lt, Int32.le_iff_toInt_le, Int32.reduceToInt, ← Int32.toInt_inj, true_and, and_true, or_true, true_or, false_or, or_false, false_and, and_false, not_true_eq_false, not_false_eq_true] <;> omega)), (by simp only [fe_3381, mz_43, true_and, and_true, or_true, true_or, false_or, or_false, false_and, and_false, not_true_eq_false, not_false_eq_true] <;> first | omega | (simp only [Int32.lt_iff_toInt_lt, Int32.le_iff_toInt_le, Int32.reduceToInt, ← Int32.toInt_inj, true_and, and_true, or_true, true_or, false_or, or_false, false_and, and_false, not_true_eq_false, not_false_eq_true] <;> omega))⟩
                    · simp only [Int32.lt_iff_toInt_lt, Int32.le_iff_toInt_le, Int32.reduceToInt, ← Int32.toInt_inj] at h_3368
                      refine v_aload_n hC dX12_advance_165 rfl ?_
                      refine v_sipush hC dX12_advance_166 (v := 9999) (by decide) ?_
                      refine v_bipush hC dX12_advance_169 (v := 10) (by decide) ?_
                      refine v_aload_n hC dX12_advance_171 rfl ?_
                      refine v_get hC fl_X12_131 m_1 e_3324 rfl dX12_advance_172 ?_
                      obtain ⟨v_3382, h_3383⟩ : ∃ v9 : Int32, (10 : Int32) * v_3336 = v9 := ⟨_, rfl⟩
                      refine v_imul hC dX12_advance_175 h_3383 ?_
                      refine v_aload_n hC dX12_advance_176 rfl ?_
                      refine v_aload_n hC dX12_advance_177 rfl ?_
                      refine v_get hC fl_X12_108 m_1 e_3324 rfl dX12_advance_178 ?_
                      refine v_vi hC (rest := [.int v_3382, .int 9999, .ref a_0]) m_1 e_3324 rfl mi_X12_see ms_X12_see (p_X12_see hW_3313 k_0 (by first | omega | (simp only [Int32.lt_iff_toInt_lt, Int32.le_iff_toInt_le, Int32.reduceToInt, ← Int32.toInt_inj, true_and, and_true, or_true, true_or, false_or, or_false, false_and, and_false, not_true_eq_false, not_false_eq_true] <;> omega))) mx_X12_see ml_X12_114 (by decide) rfl (cells1 := 0) (slots1 := 0) (by decide) (by decide) (Nat.le_of_ble_eq_true rfl) (Nat.le_of_ble_eq_true rfl) rfl (Nat.le_of_ble_eq_true rfl) dX12_advance_181 (fun r_3385 L_3386 f_3387 h_3388 => ?_)
                      obtain ⟨rfl, rfl, rfl⟩ := h_3388
                      have sb_3391 := sv_b (f_3312 a_0) (f_3312 (q 4)) v_3330
                      have fe_3392 : fld (f_3312 a_0) 7 = (v_3328 : Int32).toInt := by rw [e_3324]; rfl
                      rw [fe_3392] at sb_3391
                      obtain ⟨v_3393, h_3394⟩ : ∃ v9 : Int32, v_3382 + (sv (f_3312 a_0) (f_3312 (q 4)) v_3330) = v9 := ⟨_, rfl⟩
                      refine v_iadd hC dX12_advance_184 h_3394 ?_
                      refine v_bipush hC dX12_advance_185 (v := 48) (by decide) ?_
                      obtain ⟨v_3396, h_3397⟩ : ∃ v9 : Int32, v_3393 - 48 = v9 := ⟨_, rfl⟩
                      refine v_isub hC dX12_advance_187 h_3397 ?_
                      obtain ⟨v_3399, h_3400⟩ : ∃ v9 : Int32, (if v_3396 < (9999 : Int32) then v_3396 else (9999 : Int32)) = v9 := ⟨_, rfl⟩
                      refine v_mmin hC mm_X12_134 mm_smin mm_i mm_cmin (by decide) (Nat.le_of_ble_eq_true rfl) (Nat.le_of_ble_eq_true rfl) (Nat.le_of_ble_eq_true rfl) h_3400 dX12_advance_188 ?_
                      have b_3401 := min_v h_3400
                      try simp only [Int32.reduceToInt] at b_3401
                      refine v_put hC fl_X12_131 m_1 e_3324 rfl rfl (Nat.le_of_ble_eq_true rfl) (fs' := [.int v_3325, .ref (q 1), .ref (q 2), .ref (q 3), .ref (q 4), .int v_3326, .ref (q 6), .int v_3328, .int v_3330, .int v_3332, .int v_3334, .int v_3399, .int v_3337, .int v_3338, .ref (q 14), .ref (q 15), .ref (q 16), .int v_3339, .ref (q 18), .ref (q 19), .int v_3341, .ref (q 21), .ref (q 22), .ref (q 23), .ref (q 24), .ref (q 25), .ref (q 26), .ref (q 27), .ref (q 28)]) rfl dX12_advance_191 (fun f_3402 hf_3403 hk_3404 => ?_)
                      have hW_3405 := hW_3313.up hf_3403 hk_3404 t_2 ⟨v_3325, v_3326, v_3328, v_3330, v_3332, v_3334, v_3399, v_3337, v_3338, v_3339, v_3341, rfl, (by first | omega | (simp only [Int32.lt_iff_toInt_lt, Int32.le_iff_toInt_le, Int32.reduceToInt, ← Int32.toInt_inj, true_and, and_true, or_true, true_or, false_or, or_false, false_and, and_false, not_true_eq_false, not_false_eq_true] <;> omega)), (by first | omega | (simp only [Int32.lt_iff_toInt_lt, Int32.le_iff_toInt_le, Int32.reduceToInt, ← Int32.toInt_inj, true_and, and_true, or_true, true_or, false_or, or_false, false_and, and_false, not_true_eq_false, not_false_eq_true] <;> omega)), (by first | omega | (simp only [Int32.lt_iff_toInt_lt, Int32.le_iff_toInt_le, Int32.reduceToInt, ← Int32.toInt_inj, true_and, and_true, or_true, true_or, false_or, or_false, false_and, and_false, not_true_eq_false, not_false_eq_true] <;> omega)), (by first | omega | (simp only [Int32.lt_iff_toInt_lt, Int32.le_iff_toInt_le, Int32.reduceToInt, ← Int32.toInt_inj, true_and, and_true, or_true, true_or, false_or, or_false, false_and, and_false, not_true_eq_false, not_false_eq_true] <;> omega)), (by first | omega | (simp only [Int32.lt_iff_toInt_lt, Int32.le_iff_toInt_le, Int32.reduceToInt, ← Int32.toInt_inj, true_and, and_true, or_true, true_or, false_or, or_false, false_and, and_false, not_true_eq_false, not_false_eq_true] <;> omega)), (by first | omega | (simp only [Int32.lt_iff_toInt_lt, Int32.le_iff_toInt_le, Int32.reduceToInt, ← Int32.toInt_inj, true_and, and_true, or_true, true_or, false_or, or_false, false_and, and_false, not_true_eq_false, not_false_eq_true] <;> omega)), (by first | omega | (simp only [Int32.lt_iff_toInt_lt, Int32.le_iff_toInt_le, Int32.reduceToInt, ← Int32.toInt_inj, true_and, and_true, or_true, true_or, false_or, or_false, false_and, and_false, not_true_eq_false, not_false_eq_true] <;> omega))⟩
                      have hf_3406 := (hk_3404 (q 4) (ne_kd hf_3315 e_3324 rfl)).trans hf_3315
                      have fr_3407 := FR.w hk_3404 e_3324 (k := 12) rfl
                      refine v_aload_n hC dX12_advance_194 rfl ?_
                      refine v_dup hC dX12_advance_195 rfl ?_
                      refine v_get hC fl_X12_108 m_1 hf_3403 rfl dX12_advance_196 ?_
                      refine v_iconst hC dX12_advance_199 (v := 1) (by decide) ?_
                      obtain ⟨v_3408, h_3409⟩ : ∃ v9 : Int32, v_3330 + 1 = v9 := ⟨_, rfl⟩
                      refine v_iadd hC dX12_advance_200 h_3409 ?_
                      have h_3410 := add_v h_3409 (by first | omega | (simp only [Int32.lt_iff_toInt_lt, Int32.le_iff_toInt_le, Int32.reduceToInt, ← Int32.toInt_inj, true_and, and_true, or_true, true_or, false_or, or_false, false_and, and_false, not_true_eq_false, not_false_eq_true] <;> omega)) (by first | omega | (simp only [Int32.lt_iff_toInt_lt, Int32.le_iff_toInt_le, Int32.reduceToInt, ← Int32.toInt_inj, true_and, and_true, or_true, true_or, false_or, or_false, false_and, and_false, not_true_eq_false, not_false_eq_true] <;> omega))
                      try simp only [Int32.reduceToInt] at h_3410
                      refine v_put hC fl_X12_108 m_1 hf_3403 rfl rfl (Nat.le_of_ble_eq_true rfl) (fs' := [.int v_3325, .ref (q 1), .ref (q 2), .ref (q 3), .ref (q 4), .int v_3326, .ref (q 6), .int v_3328, .int v_3408, .int v_3332, .int v_3334, .int v_3399, .int v_3337, .int v_3338, .ref (q 14), .ref (q 15), .ref (q 16), .int v_3339, .ref (q 18), .ref (q 19), .int v_3341, .ref (q 21), .ref (q 22), .ref (q 23), .ref (q 24), .ref (q 25), .ref (q 26), .ref (q 27), .ref (q 28)]) rfl dX12_advance_201 (fun f_3411 hf_3412 hk_3413 => ?_)
                      have hW_3414 := hW_3405.up hf_3412 hk_3413 t_2 ⟨v_3325, v_3326, v_3328, v_3408, v_3332, v_3334, v_3399, v_3337, v_3338, v_3339, v_3341, rfl, (by first | omega | (simp only [Int32.lt_iff_toInt_lt, Int32.le_iff_toInt_le, Int32.reduceToInt, ← Int32.toInt_inj, true_and, and_true, or_true, true_or, false_or, or_false, false_and, and_false, not_true_eq_false, not_false_eq_true] <;> omega)), (by first | omega | (simp only [Int32.lt_iff_toInt_lt, Int32.le_iff_toInt_le, Int32.reduceToInt, ← Int32.toInt_inj, true_and, and_true, or_true, true_or, false_or, or_false, false_and, and_false, not_true_eq_false, not_false_eq_true] <;> omega)), (by first | omega | (simp only [Int32.lt_iff_toInt_lt, Int32.le_iff_toInt_le, Int32.reduceToInt, ← Int32.toInt_inj, true_and, and_true, or_true, true_or, false_or, or_false, false_and, and_false, not_true_eq_false, not_false_eq_true] <;> omega)), (by first | omega | (simp only [Int32.lt_iff_toInt_lt, Int32.le_iff_toInt_le, Int32.reduceToInt, ← Int32.toInt_inj, true_and, and_true, or_true, true_or, false_or, or_false, false_and, and_false, not_true_eq_false, not_false_eq_true] <;> omega)), (by first | omega | (simp only [Int32.lt_iff_toInt_lt, Int32.le_iff_toInt_le, Int32.reduceToInt, ← Int32.toInt_inj, true_and, and_true, or_true, true_or, false_or, or_false, false_and, and_false, not_true_eq_false, not_false_eq_true] <;> omega)), (by first | omega | (simp only [Int32.lt_iff_toInt_lt, Int32.le_iff_toInt_le, Int32.reduceToInt, ← Int32.toInt_inj, true_and, and_true, or_true, true_or, false_or, or_false, false_and, and_false, not_true_eq_false, not_false_eq_true] <;> omega)), (by first | omega | (simp only [Int32.lt_iff_toInt_lt, Int32.le_iff_toInt_le, Int32.reduceToInt, ← Int32.toInt_inj, true_and, and_true, or_true, true_or, false_or, or_false, false_and, and_false, not_true_eq_false, not_false_eq_true] <;> omega))⟩
                      have hf_3415 := (hk_3413 (q 4) (ne_kd hf_3406 hf_3403 rfl)).trans hf_3406
                      have fr_3416 := FR.w hk_3413 hf_3403 (k := 12) rfl
                      refine v_goto hC dX12_advance_204 (tgt := 144) (by decide) ?_
                      refine v_pick [0] rfl ?_
                      have fe_3417 : fld (f_3411 a_0) 9 = (v_3332 : Int32).toInt := by rw [hf_3412]; rfl
                      have fe_3418 : fld (f_3411 a_0) 8 = (v_3408 : Int32).toInt := by rw [hf_3412]; rfl
                      have fe_3419 : fld (f_3411 a_0) 9 = (v_3332 : Int32).toInt := by rw [hf_3412]; rfl
                      have fe_3420 : fld (f_3411 a_0) 12 = (v_3337 : Int32).toInt := by rw [hf_3412]; rfl
                      have fe_3421 : fld (f_3411 a_0) 20 = (v_3341 : Int32).toInt := by rw [hf_3412]; rfl
                      have h_3422 : fld (f_3411 a_0) 8 = (v_3408 : Int32).toInt := by rw [hf_3412]; rfl
                      exact ih_3322 f_3411 hW_3414 (((hF_3314.tr fr_3407).tr fr_3416).mono rfl) (by rw [fe_3417] <;> first | omega | (simp only [Int32.lt_iff_toInt_lt, Int32.le_iff_toInt_le, Int32.reduceToInt, ← Int32.toInt_inj, true_and, and_true, or_true, true_or, false_or, or_false, false_and, and_false, not_true_eq_false, not_false_eq_true] <;> omega)) (by rw [fe_3418, fe_3419] <;> first | omega | (simp only [Int32.lt_iff_toInt_lt, Int32.le_iff_toInt_le, Int32.reduceToInt, ← Int32.toInt_inj, true_and, and_true, or_true, true_or, false_or, or_false, false_and, and_false, not_true_eq_false, not_false_eq_true] <;> omega)) (by rw [fe_3420] <;> first | omega | (simp only [Int32.lt_iff_toInt_lt, Int32.le_iff_toInt_le, Int32.reduceToInt, ← Int32.toInt_inj, true_and, and_true, or_true, true_or, false_or, or_false, false_and, and_false, not_true_eq_false, not_false_eq_true] <;> omega)) (by rw [fe_3421] <;> first | omega | (simp only [Int32.lt_iff_toInt_lt, Int32.le_iff_toInt_le, Int32.reduceToInt, ← Int32.toInt_inj, true_and, and_true, or_true, true_or, false_or, or_false, false_and, and_false, not_true_eq_false, not_false_eq_true] <;> omega)) (by rw [h_3422]; omega)
                refine v_pick [1] rfl ?_
                have fe_3423 : fld (f_3039 a_0) 9 = (v_2826 : Int32).toInt := by rw [hf_3040]; rfl
                have fe_3424 : fld (f_3039 a_0) 8 = (v_3036 : Int32).toInt := by rw [hf_3040]; rfl
                have fe_3425 : fld (f_3039 a_0) 9 = (v_2826 : Int32).toInt := by rw [hf_3040]; rfl
                have fe_3426 : fld (f_3039 a_0) 12 = (v_2833 : Int32).toInt := by rw [hf_3040]; rfl
                have fe_3427 : fld (f_3039 a_0) 20 = (v_2837 : Int32).toInt := by rw [hf_3040]; rfl
                have h_3428 : fld (f_3039 a_0) 8 = (v_3036 : Int32).toInt := by rw [hf_3040]; rfl
                exact lp_3320 602 f_3039 hW_3042 FR.rf (by rw [fe_3423] <;> first | omega | (simp only [Int32.lt_iff_toInt_lt, Int32.le_iff_toInt_le, Int32.reduceToInt, ← Int32.toInt_inj, true_and, and_true, or_true, true_or, false_or, or_false, false_and, and_false, not_true_eq_false, not_false_eq_true] <;> omega)) (by rw [fe_3424, fe_3425] <;> first | omega | (simp only [Int32.lt_iff_toInt_lt, Int32.le_iff_toInt_le, Int32.reduceToInt, ← Int32.toInt_inj, true_and, and_true, or_true, true_or, false_or, or_false, false_and, and_false, not_true_eq_false, not_false_eq_true] <;> omega)) (by rw [fe_3426] <;> first | omega | (simp only [Int32.lt_iff_toInt_lt, Int32.le_iff_toInt_le, Int32.reduceToInt, ← Int32.toInt_inj, true_and, and_true, or_true, true_or, false_or, or_false, false_and, and_false, not_true_eq_false, not_false_eq_true] <;> omega)) (by rw [fe_3427] <;> first | omega | (simp only [Int32.lt_iff_toInt_lt, Int32.le_iff_toInt_le, Int32.reduceToInt, ← Int32.toInt_inj, true_and, and_true, or_true, true_or, false_or, or_false, false_and, and_false, not_true_eq_false, not_false_eq_true] <;> omega)) (by rw [h_3428]; omega)
            · simp only [Int32.lt_iff_toInt_lt, Int32.le_iff_toInt_le, Int32.reduceToInt, ← Int32.toInt_inj] at h_2928
              refine v_aload_n hC dX12_advance_83 rfl ?_
              refine v_aload_n hC dX12_advance_84 rfl ?_
              refine v_get hC fl_X12_108 m_1 hf_2898 rfl dX12_advance_85 ?_
              refine v_vi hC (rest := []) m_1 hf_2898 rfl mi_X12_see ms_X12_see (p_X12_see hW_2900 k_0 (by first | omega | (simp only [Int32.lt_iff_toInt_lt, Int32.le_iff_toInt_le, Int32.reduceToInt, ← Int32.toInt_inj, true_and, and_true, or_true, true_or, false_or, or_false, false_and, and_false, not_true_eq_false, not_false_eq_true] <;> omega))) mx_X12_see ml_X12_114 (by decide) rfl (cells1 := 0) (slots1 := 0) (by decide) (by decide) (Nat.le_of_ble_eq_true rfl) (Nat.le_of_ble_eq_true rfl) rfl (Nat.le_of_ble_eq_true rfl) dX12_advance_88 (fun r_3429 L_3430 f_3431 h_3432 => ?_)
              obtain ⟨rfl, rfl, rfl⟩ := h_3432
              have sb_3435 := sv_b (f_2897 a_0) (f_2897 (q 4)) v_2826
              have fe_3436 : fld (f_2897 a_0) 7 = (v_2824 : Int32).toInt := by rw [hf_2898]; rfl
              rw [fe_3436] at sb_3435
              obtain ⟨v_3437, h_3438⟩ : ∃ v9 : Int64, (sv (f_2897 a_0) (f_2897 (q 4)) v_2826).toInt64 = v9 := ⟨_, rfl⟩
              refine v_i2l hC dX12_advance_91 h_3438 ?_
              have h_3439 : v_3437.toInt = (sv (f_2897 a_0) (f_2897 (q 4)) v_2826).toInt := by rw [← h_3438]; exact Int32.toInt_toInt64 _
              refine v_ldc2 hC kl_X12_123 dX12_advance_92 ?_
              refine v_ldc2 hC kl_X12_125 dX12_advance_95 ?_
              refine v_si hC (rest := []) mt_X12_in (p_X12_in hW_2900) mx_X12_in ml_X12_79 (by decide) rfl (cells1 := 0) (slots1 := 0) (by decide) (by decide) (Nat.le_of_ble_eq_true rfl) (Nat.le_of_ble_eq_true rfl) rfl (Nat.le_of_ble_eq_true rfl) dX12_advance_98 (fun r_3440 L_3441 f_3442 h_3443 => ?_)
              obtain ⟨rfl, rfl, b_3444, x_3445⟩ := h_3443
              try simp only [Int32.reduceToInt, Int64.reduceToInt] at x_3445
              refine v_if_eq_f hC dX12_advance_101 (tgt := 117) (by decide) (by first | omega | (simp only [Int32.lt_iff_toInt_lt, Int32.le_iff_toInt_le, Int32.reduceToInt, ← Int32.toInt_inj, true_and, and_true, or_true, true_or, false_or, or_false, false_and, and_false, not_true_eq_false, not_false_eq_true] <;> omega)) ?_
              refine v_aload_n hC dX12_advance_104 rfl ?_
              refine v_dup hC dX12_advance_105 rfl ?_
              refine v_get hC fl_X12_108 m_1 hf_2898 rfl dX12_advance_106 ?_
              refine v_iconst hC dX12_advance_109 (v := 1) (by decide) ?_
              obtain ⟨v_3448, h_3449⟩ : ∃ v9 : Int32, v_2826 + 1 = v9 := ⟨_, rfl⟩
              refine v_iadd hC dX12_advance_110 h_3449 ?_
              have h_3450 := add_v h_3449 (by first | omega | (simp only [Int32.lt_iff_toInt_lt, Int32.le_iff_toInt_le, Int32.reduceToInt, ← Int32.toInt_inj, true_and, and_true, or_true, true_or, false_or, or_false, false_and, and_false, not_true_eq_false, not_false_eq_true] <;> omega)) (by first | omega | (simp only [Int32.lt_iff_toInt_lt, Int32.le_iff_toInt_le, Int32.reduceToInt, ← Int32.toInt_inj, true_and, and_true, or_true, true_or, false_or, or_false, false_and, and_false, not_true_eq_false, not_false_eq_true] <;> omega))
              try simp only [Int32.reduceToInt] at h_3450
              refine v_put hC fl_X12_108 m_1 hf_2898 rfl rfl (Nat.le_of_ble_eq_true rfl) (fs' := [.int v_2821, .ref (q 1), .ref (q 2), .ref (q 3), .ref (q 4), .int v_2822, .ref (q 6), .int v_2824, .int v_3448, .int v_2826, .int v_2830, .int v_2832, .int v_2833, .int v_2834, .ref (q 14), .ref (q 15), .ref (q 16), .int v_2835, .ref (q 18), .ref (q 19), .int v_2837, .ref (q 21), .ref (q 22), .ref (q 23), .ref (q 24), .ref (q 25), .ref (q 26), .ref (q 27), .ref (q 28)]) rfl dX12_advance_111 (fun f_3451 hf_3452 hk_3453 => ?_)
              have hW_3454 := hW_2900.up hf_3452 hk_3453 t_2 ⟨v_2821, v_2822, v_2824, v_3448, v_2826, v_2830, v_2832, v_2833, v_2834, v_2835, v_2837, rfl, (by first | omega | (simp only [Int32.lt_iff_toInt_lt, Int32.le_iff_toInt_le, Int32.reduceToInt, ← Int32.toInt_inj, true_and, and_true, or_true, true_or, false_or, or_false, false_and, and_false, not_true_eq_false, not_false_eq_true] <;> omega)), (by first | omega | (simp only [Int32.lt_iff_toInt_lt, Int32.le_iff_toInt_le, Int32.reduceToInt, ← Int32.toInt_inj, true_and, and_true, or_true, true_or, false_or, or_false, false_and, and_false, not_true_eq_false, not_false_eq_true] <;> omega)), (by first | omega | (simp only [Int32.lt_iff_toInt_lt, Int32.le_iff_toInt_le, Int32.reduceToInt, ← Int32.toInt_inj, true_and, and_true, or_true, true_or, false_or, or_false, false_and, and_false, not_true_eq_false, not_false_eq_true] <;> omega)), (by first | omega | (simp only [Int32.lt_iff_toInt_lt, Int32.le_iff_toInt_le, Int32.reduceToInt, ← Int32.toInt_inj, true_and, and_true, or_true, true_or, false_or, or_false, false_and, and_false, not_true_eq_false, not_false_eq_true] <;> omega)), (by first | omega | (simp only [Int32.lt_iff_toInt_lt, Int32.le_iff_toInt_le, Int32.reduceToInt, ← Int32.toInt_inj, true_and, and_true, or_true, true_or, false_or, or_false, false_and, and_false, not_true_eq_false, not_false_eq_true] <;> omega)), (by first | omega | (simp only [Int32.lt_iff_toInt_lt, Int32.le_iff_toInt_le, Int32.reduceToInt, ← Int32.toInt_inj, true_and, and_true, or_true, true_or, false_or, or_false, false_and, and_false, not_true_eq_false, not_false_eq_true] <;> omega)), (by first | omega | (simp only [Int32.lt_iff_toInt_lt, Int32.le_iff_toInt_le, Int32.reduceToInt, ← Int32.toInt_inj, true_and, and_true, or_true, true_or, false_or, or_false, false_and, and_false, not_true_eq_false, not_false_eq_true] <;> omega))⟩
              have hf_3455 := (hk_3453 (q 4) (ne_kd e_2912 hf_2898 rfl)).trans e_2912
              have fr_3456 := FR.w hk_3453 hf_2898 (k := 12) rfl
              refine v_goto hC dX12_advance_114 (tgt := 83) (by decide) ?_
              have lp_3654 : ∀ (n_3655 : Nat) (f_3646 : Nat → va_E) (hW_3647 : WT T L f_3646) (hF_3648 : FR [12] f_3451 f_3646)  (nv_3650 : v_28.toInt ≤ fld (f_3646 a_0) 9) (nv_3651 : fld (f_3646 a_0) 9 < fld (f_3646 a_0) 8) (nv_3652 : fld (f_3646 a_0) 12 = v_35.toInt) (nv_3653 : fld (f_3646 a_0) 20 = v_39.toInt) (hm_3657 : 600 - fld (f_3646 a_0) 8 < (n_3655 : Int)), V z E 2 0 0 L f_3646 83 [(0, .ref a_0)] [] := by
                intro n_3655
                induction n_3655 with
                | zero =>
                  intro f_3646 hW_3647 hF_3648 nv_3650 nv_3651 nv_3652 nv_3653 hm_3657
                  have hf_3649 := hF_3648.at hf_3455 rfl
                  obtain ⟨v_3659, v_3660, v_3662, v_3664, v_3666, v_3668, v_3670, v_3671, v_3672, v_3673, v_3675, e_3658, b_3661, b_3663, b_3665, b_3667, b_3669, b_3674, b_3676⟩ := hW_3647.at m_1 t_2
                  have fe_3677 : fld (f_3646 a_0) 9 = (v_3666 : Int32).toInt := by rw [e_3658]; rfl
                  rw [fe_3677] at nv_3650
                  have fe_3678 : fld (f_3646 a_0) 8 = (v_3664 : Int32).toInt := by rw [e_3658]; rfl
                  have fe_3679 : fld (f_3646 a_0) 9 = (v_3666 : Int32).toInt := by rw [e_3658]; rfl
                  rw [fe_3678, fe_3679] at nv_3651
                  have fe_3680 : fld (f_3646 a_0) 12 = (v_3671 : Int32).toInt := by rw [e_3658]; rfl
                  rw [fe_3680] at nv_3652
                  have fe_3681 : fld (f_3646 a_0) 20 = (v_3675 : Int32).toInt := by rw [e_3658]; rfl
                  rw [fe_3681] at nv_3653
                  have h_3682 : fld (f_3646 a_0) 8 = (v_3664 : Int32).toInt := by rw [e_3658]; rfl
                  rw [h_3682] at hm_3657
                  exfalso; omega
                | succ n_3655 ih_3656 =>
                  intro f_3646 hW_3647 hF_3648 nv_3650 nv_3651 nv_3652 nv_3653 hm_3657
                  have hf_3649 := hF_3648.at hf_3455 rfl
                  obtain ⟨v_3659, v_3660, v_3662, v_3664, v_3666, v_3668, v_3670, v_3671, v_3672, v_3673, v_3675, e_3658, b_3661, b_3663, b_3665, b_3667, b_3669, b_3674, b_3676⟩ := hW_3647.at m_1 t_2
                  have fe_3677 : fld (f_3646 a_0) 9 = (v_3666 : Int32).toInt := by rw [e_3658]; rfl
                  rw [fe_3677] at nv_3650
                  have fe_3678 : fld (f_3646 a_0) 8 = (v_3664 : Int32).toInt := by rw [e_3658]; rfl
                  have fe_3679 : fld (f_3646 a_0) 9 = (v_3666 : Int32).toInt := by rw [e_3658]; rfl
                  rw [fe_3678, fe_3679] at nv_3651
                  have fe_3680 : fld (f_3646 a_0) 12 = (v_3671 : Int32).toInt := by rw [e_3658]; rfl
                  rw [fe_3680] at nv_3652
                  have fe_3681 : fld (f_3646 a_0) 20 = (v_3675 : Int32).toInt := by rw [e_3658]; rfl
                  rw [fe_3681] at nv_3653
                  have h_3682 : fld (f_3646 a_0) 8 = (v_3664 : Int32).toInt := by rw [e_3658]; rfl
                  rw [h_3682] at hm_3657
                  refine v_aload_n hC dX12_advance_83 rfl ?_
                  refine v_aload_n hC dX12_advance_84 rfl ?_
                  refine v_get hC fl_X12_108 m_1 e_3658 rfl dX12_advance_85 ?_
                  refine v_vi hC (rest := []) m_1 e_3658 rfl mi_X12_see ms_X12_see (p_X12_see hW_3647 k_0 (by first | omega | (simp only [Int32.lt_iff_toInt_lt, Int32.le_iff_toInt_le, Int32.reduceToInt, ← Int32.toInt_inj, true_and, and_true, or_true, true_or, false_or, or_false, false_and, and_false, not_true_eq_false, not_false_eq_true] <;> omega))) mx_X12_see ml_X12_114 (by decide) rfl (cells1 := 0) (slots1 := 0) (by decide) (by decide) (Nat.le_of_ble_eq_true rfl) (Nat.le_of_ble_eq_true rfl) rfl (Nat.le_of_ble_eq_true rfl) dX12_advance_88 (fun r_3683 L_3684 f_3685 h_3686 => ?_)
                  obtain ⟨rfl, rfl, rfl⟩ := h_3686
                  have sb_3689 := sv_b (f_3646 a_0) (f_3646 (q 4)) v_3664
                  have fe_3690 : fld (f_3646 a_0) 7 = (v_3662 : Int32).toInt := by rw [e_3658]; rfl
                  rw [fe_3690] at sb_3689
                  obtain ⟨v_3691, h_3692⟩ : ∃ v9 : Int64, (sv (f_3646 a_0) (f_3646 (q 4)) v_3664).toInt64 = v9 := ⟨_, rfl⟩
                  refine v_i2l hC dX12_advance_91 h_3692 ?_
                  have h_3693 : v_3691.toInt = (sv (f_3646 a_0) (f_3646 (q 4)) v_3664).toInt := by rw [← h_3692]; exact Int32.toInt_toInt64 _
                  refine v_ldc2 hC kl_X12_123 dX12_advance_92 ?_
                  refine v_ldc2 hC kl_X12_125 dX12_advance_95 ?_
                  refine v_si hC (rest := []) mt_X12_in (p_X12_in hW_3647) mx_X12_in ml_X12_79 (by decide) rfl (cells1 := 0) (slots1 := 0) (by decide) (by decide) (Nat.le_of_ble_eq_true rfl) (Nat.le_of_ble_eq_true rfl) rfl (Nat.le_of_ble_eq_true rfl) dX12_advance_98 (fun r_3694 L_3695 f_3696 h_3697 => ?_)
                  obtain ⟨rfl, rfl, b_3698, x_3699⟩ := h_3697
                  try simp only [Int32.reduceToInt, Int64.reduceToInt] at x_3699
                  refine v_if_eq hC dX12_advance_101 (tgt := 117) (by decide) (fun h_3702 => ?_) (fun h_3702 => ?_)
                  · simp only [Int32.lt_iff_toInt_lt, Int32.le_iff_toInt_le, Int32.reduceToInt, ← Int32.toInt_inj] at h_3702
                    refine v_aload_n hC dX12_advance_117 rfl ?_
                    refine v_iconst hC dX12_advance_118 (v := 1) (by decide) ?_
                    refine v_put hC fl_X12_120 m_1 e_3658 rfl rfl (Nat.le_of_ble_eq_true rfl) (fs' := [.int v_3659, .ref (q 1), .ref (q 2), .ref (q 3), .ref (q 4), .int v_3660, .ref (q 6), .int v_3662, .int v_3664, .int v_3666, .int 1, .int v_3670, .int v_3671, .int v_3672, .ref (q 14), .ref (q 15), .ref (q 16), .int v_3673, .ref (q 18), .ref (q 19), .int v_3675, .ref (q 21), .ref (q 22), .ref (q 23), .ref (q 24), .ref (q 25), .ref (q 26), .ref (q 27), .ref (q 28)]) rfl dX12_advance_119 (fun f_3703 hf_3704 hk_3705 => ?_)
                    have hW_3706 := hW_3647.up hf_3704 hk_3705 t_2 ⟨v_3659, v_3660, v_3662, v_3664, v_3666, 1, v_3670, v_3671, v_3672, v_3673, v_3675, rfl, (by first | omega | (simp only [Int32.lt_iff_toInt_lt, Int32.le_iff_toInt_le, Int32.reduceToInt, ← Int32.toInt_inj, true_and, and_true, or_true, true_or, false_or, or_false, false_and, and_false, not_true_eq_false, not_false_eq_true] <;> omega)), (by first | omega | (simp only [Int32.lt_iff_toInt_lt, Int32.le_iff_toInt_le, Int32.reduceToInt, ← Int32.toInt_inj, true_and, and_true, or_true, true_or, false_or, or_false, false_and, and_false, not_true_eq_false, not_false_eq_true] <;> omega)), (by first | omega | (simp only [Int32.lt_iff_toInt_lt, Int32.le_iff_toInt_le, Int32.reduceToInt, ← Int32.toInt_inj, true_and, and_true, or_true, true_or, false_or, or_false, false_and, and_false, not_true_eq_false, not_false_eq_true] <;> omega)), (by first | omega | (simp only [Int32.lt_iff_toInt_lt, Int32.le_iff_toInt_le, Int32.reduceToInt, ← Int32.toInt_inj, true_and, and_true, or_true, true_or, false_or, or_false, false_and, and_false, not_true_eq_false, not_false_eq_true] <;> omega)), (by decide), (by first | omega | (simp only [Int32.lt_iff_toInt_lt, Int32.le_iff_toInt_le, Int32.reduceToInt, ← Int32.toInt_inj, true_and, and_true, or_true, true_or, false_or, or_false, false_and, and_false, not_true_eq_false, not_false_eq_true] <;> omega)), (by first | omega | (simp only [Int32.lt_iff_toInt_lt, Int32.le_iff_toInt_le, Int32.reduceToInt, ← Int32.toInt_inj, true_and, and_true, or_true, true_or, false_or, or_false, false_and, and_false, not_true_eq_false, not_false_eq_true] <;> omega))⟩
                    have hf_3707 := (hk_3705 (q 4) (ne_kd hf_3649 e_3658 rfl)).trans hf_3649
                    have fr_3708 := FR.w hk_3705 e_3658 (k := 12) rfl
                    refine v_goto hC dX12_advance_122 (tgt := 240) (by decide) ?_
                    have fe_3709 : fld (f_3703 a_0) 8 = (v_3664 : Int32).toInt := by rw [hf_3704]; rfl
                    have fe_3710 : fld (f_3703 a_0) 9 = (v_3666 : Int32).toInt := by rw [hf_3704]; rfl
                    have fe_3711 : fld (f_3703 a_0) 8 = (v_3664 : Int32).toInt := by rw [hf_3704]; rfl
                    have fe_3712 : fld (f_3703 a_0) 9 = (v_3666 : Int32).toInt := by rw [hf_3704]; rfl
                    have fe_3713 : fld (f_3703 a_0) 10 = (1 : Int32).toInt := by rw [hf_3704]; rfl
                    simp only [Int32.reduceToInt] at fe_3713
                    have fe_3714 : fld (f_3703 a_0) 12 = (v_3671 : Int32).toInt := by rw [hf_3704]; rfl
                    have fe_3715 : fld (f_3703 a_0) 20 = (v_3675 : Int32).toInt := by rw [hf_3704]; rfl
                    exact hR _ _ _ _ _ _ dX12_advance_240 (Nat.le_of_ble_eq_true rfl) (Nat.le_of_ble_eq_true rfl) ⟨rfl, hW_3706, (((((hF_2812.tr fr_2901).tr fr_3456).tr hF_3648).tr fr_3708).mono rfl), (by simp only [fe_3709, fe_3710, mz_41, true_and, and_true, or_true, true_or, false_or, or_false, false_and, and_false, not_true_eq_false, not_false_eq_true] <;> first | omega | (simp only [Int32.lt_iff_toInt_lt, Int32.le_iff_toInt_le, Int32.reduceToInt, ← Int32.toInt_inj, true_and, and_true, or_true, true_or, false_or, or_false, false_and, and_false, not_true_eq_false, not_false_eq_true] <;> omega)), (by simp only [fe_3711, fe_3712, fe_3713, true_and, and_true, or_true, true_or, false_or, or_false, false_and, and_false, not_true_eq_false, not_false_eq_true] <;> first | omega | (simp only [Int32.lt_iff_toInt_lt, Int32.le_iff_toInt_le, Int32.reduceToInt, ← Int32.toInt_inj, true_and, and_true, or_true, true_or, false_or, or_false, false_and, and_false, not_true_eq_false, not_false_eq_true] <;> omega)), (by simp only [fe_3714, mz_42, true_and, and_true, or_true, true_or, false_or, or_false, false_and, and_false, not_true_eq_false, not_false_eq_true] <;> first | omega | (simp only [Int32.lt_iff_toInt_lt, Int32.le_iff_toInt_le, Int32.reduceToInt, ← Int32.toInt_inj, true_and, and_true, or_true, true_or, false_or, or_false, false_and, and_false, not_true_eq_false, not_false_eq_true] <;> omega)), (by simp only [fe_3715, mz_43, true_and, and_true, or_true, true_or, false_or, or_false, false_and, and_false, not_true_eq_false, not_false_eq_true] <;> first | omega | (simp only [Int32.lt_iff_toInt_lt, Int32.le_iff_toInt_le, Int32.reduceToInt, ← Int32.toInt_inj, true_and, and_true, or_true, true_or, false_or, or_false, false_and, and_false, not_true_eq_false, not_false_eq_true] <;> omega))⟩
                  · simp only [Int32.lt_iff_toInt_lt, Int32.le_iff_toInt_le, Int32.reduceToInt, ← Int32.toInt_inj] at h_3702
                    refine v_aload_n hC dX12_advance_104 rfl ?_
                    refine v_dup hC dX12_advance_105 rfl ?_
                    refine v_get hC fl_X12_108 m_1 e_3658 rfl dX12_advance_106 ?_
                    refine v_iconst hC dX12_advance_109 (v := 1) (by decide) ?_
                    obtain ⟨v_3716, h_3717⟩ : ∃ v9 : Int32, v_3664 + 1 = v9 := ⟨_, rfl⟩
                    refine v_iadd hC dX12_advance_110 h_3717 ?_
                    have h_3718 := add_v h_3717 (by first | omega | (simp only [Int32.lt_iff_toInt_lt, Int32.le_iff_toInt_le, Int32.reduceToInt, ← Int32.toInt_inj, true_and, and_true, or_true, true_or, false_or, or_false, false_and, and_false, not_true_eq_false, not_false_eq_true] <;> omega)) (by first | omega | (simp only [Int32.lt_iff_toInt_lt, Int32.le_iff_toInt_le, Int32.reduceToInt, ← Int32.toInt_inj, true_and, and_true, or_true, true_or, false_or, or_false, false_and, and_false, not_true_eq_false, not_false_eq_true] <;> omega))
                    try simp only [Int32.reduceToInt] at h_3718
                    refine v_put hC fl_X12_108 m_1 e_3658 rfl rfl (Nat.le_of_ble_eq_true rfl) (fs' := [.int v_3659, .ref (q 1), .ref (q 2), .ref (q 3), .ref (q 4), .int v_3660, .ref (q 6), .int v_3662, .int v_3716, .int v_3666, .int v_3668, .int v_3670, .int v_3671, .int v_3672, .ref (q 14), .ref (q 15), .ref (q 16), .int v_3673, .ref (q 18), .ref (q 19), .int v_3675, .ref (q 21), .ref (q 22), .ref (q 23), .ref (q 24), .ref (q 25), .ref (q 26), .ref (q 27), .ref (q 28)]) rfl dX12_advance_111 (fun f_3719 hf_3720 hk_3721 => ?_)
                    have hW_3722 := hW_3647.up hf_3720 hk_3721 t_2 ⟨v_3659, v_3660, v_3662, v_3716, v_3666, v_3668, v_3670, v_3671, v_3672, v_3673, v_3675, rfl, (by first | omega | (simp only [Int32.lt_iff_toInt_lt, Int32.le_iff_toInt_le, Int32.reduceToInt, ← Int32.toInt_inj, true_and, and_true, or_true, true_or, false_or, or_false, false_and, and_false, not_true_eq_false, not_false_eq_true] <;> omega)), (by first | omega | (simp only [Int32.lt_iff_toInt_lt, Int32.le_iff_toInt_le, Int32.reduceToInt, ← Int32.toInt_inj, true_and, and_true, or_true, true_or, false_or, or_false, false_and, and_false, not_true_eq_false, not_false_eq_true] <;> omega)), (by first | omega | (simp only [Int32.lt_iff_toInt_lt, Int32.le_iff_toInt_le, Int32.reduceToInt, ← Int32.toInt_inj, true_and, and_true, or_true, true_or, false_or, or_false, false_and, and_false, not_true_eq_false, not_false_eq_true] <;> omega)), (by first | omega | (simp only [Int32.lt_iff_toInt_lt, Int32.le_iff_toInt_le, Int32.reduceToInt, ← Int32.toInt_inj, true_and, and_true, or_true, true_or, false_or, or_false, false_and, and_false, not_true_eq_false, not_false_eq_true] <;> omega)), (by first | omega | (simp only [Int32.lt_iff_toInt_lt, Int32.le_iff_toInt_le, Int32.reduceToInt, ← Int32.toInt_inj, true_and, and_true, or_true, true_or, false_or, or_false, false_and, and_false, not_true_eq_false, not_false_eq_true] <;> omega)), (by first | omega | (simp only [Int32.lt_iff_toInt_lt, Int32.le_iff_toInt_le, Int32.reduceToInt, ← Int32.toInt_inj, true_and, and_true, or_true, true_or, false_or, or_false, false_and, and_false, not_true_eq_false, not_false_eq_true] <;> omega)), (by first | omega | (simp only [Int32.lt_iff_toInt_lt, Int32.le_iff_toInt_le, Int32.reduceToInt, ← Int32.toInt_inj, true_and, and_true, or_true, true_or, false_or, or_false, false_and, and_false, not_true_eq_false, not_false_eq_true] <;> omega))⟩
                    have hf_3723 := (hk_3721 (q 4) (ne_kd hf_3649 e_3658 rfl)).trans hf_3649
                    have fr_3724 := FR.w hk_3721 e_3658 (k := 12) rfl
                    refine v_goto hC dX12_advance_114 (tgt := 83) (by decide) ?_
                    refine v_pick [0] rfl ?_
                    have fe_3725 : fld (f_3719 a_0) 9 = (v_3666 : Int32).toInt := by rw [hf_3720]; rfl
                    have fe_3726 : fld (f_3719 a_0) 8 = (v_3716 : Int32).toInt := by rw [hf_3720]; rfl
                    have fe_3727 : fld (f_3719 a_0) 9 = (v_3666 : Int32).toInt := by rw [hf_3720]; rfl
                    have fe_3728 : fld (f_3719 a_0) 12 = (v_3671 : Int32).toInt := by rw [hf_3720]; rfl
                    have fe_3729 : fld (f_3719 a_0) 20 = (v_3675 : Int32).toInt := by rw [hf_3720]; rfl
                    have h_3730 : fld (f_3719 a_0) 8 = (v_3716 : Int32).toInt := by rw [hf_3720]; rfl
                    exact ih_3656 f_3719 hW_3722 ((hF_3648.tr fr_3724).mono rfl) (by rw [fe_3725] <;> first | omega | (simp only [Int32.lt_iff_toInt_lt, Int32.le_iff_toInt_le, Int32.reduceToInt, ← Int32.toInt_inj, true_and, and_true, or_true, true_or, false_or, or_false, false_and, and_false, not_true_eq_false, not_false_eq_true] <;> omega)) (by rw [fe_3726, fe_3727] <;> first | omega | (simp only [Int32.lt_iff_toInt_lt, Int32.le_iff_toInt_le, Int32.reduceToInt, ← Int32.toInt_inj, true_and, and_true, or_true, true_or, false_or, or_false, false_and, and_false, not_true_eq_false, not_false_eq_true] <;> omega)) (by rw [fe_3728] <;> first | omega | (simp only [Int32.lt_iff_toInt_lt, Int32.le_iff_toInt_le, Int32.reduceToInt, ← Int32.toInt_inj, true_and, and_true, or_true, true_or, false_or, or_false, false_and, and_false, not_true_eq_false, not_false_eq_true] <;> omega)) (by rw [fe_3729] <;> first | omega | (simp only [Int32.lt_iff_toInt_lt, Int32.le_iff_toInt_le, Int32.reduceToInt, ← Int32.toInt_inj, true_and, and_true, or_true, true_or, false_or, or_false, false_and, and_false, not_true_eq_false, not_false_eq_true] <;> omega)) (by rw [h_3730]; omega)
              refine v_pick [1] rfl ?_
              have fe_3731 : fld (f_3451 a_0) 9 = (v_2826 : Int32).toInt := by rw [hf_3452]; rfl
              have fe_3732 : fld (f_3451 a_0) 8 = (v_3448 : Int32).toInt := by rw [hf_3452]; rfl
              have fe_3733 : fld (f_3451 a_0) 9 = (v_2826 : Int32).toInt := by rw [hf_3452]; rfl
              have fe_3734 : fld (f_3451 a_0) 12 = (v_2833 : Int32).toInt := by rw [hf_3452]; rfl
              have fe_3735 : fld (f_3451 a_0) 20 = (v_2837 : Int32).toInt := by rw [hf_3452]; rfl
              have h_3736 : fld (f_3451 a_0) 8 = (v_3448 : Int32).toInt := by rw [hf_3452]; rfl
              exact lp_3654 602 f_3451 hW_3454 FR.rf (by rw [fe_3731] <;> first | omega | (simp only [Int32.lt_iff_toInt_lt, Int32.le_iff_toInt_le, Int32.reduceToInt, ← Int32.toInt_inj, true_and, and_true, or_true, true_or, false_or, or_false, false_and, and_false, not_true_eq_false, not_false_eq_true] <;> omega)) (by rw [fe_3732, fe_3733] <;> first | omega | (simp only [Int32.lt_iff_toInt_lt, Int32.le_iff_toInt_le, Int32.reduceToInt, ← Int32.toInt_inj, true_and, and_true, or_true, true_or, false_or, or_false, false_and, and_false, not_true_eq_false, not_false_eq_true] <;> omega)) (by rw [fe_3734] <;> first | omega | (simp only [Int32.lt_iff_toInt_lt, Int32.le_iff_toInt_le, Int32.reduceToInt, ← Int32.toInt_inj, true_and, and_true, or_true, true_or, false_or, or_false, false_and, and_false, not_true_eq_false, not_false_eq_true] <;> omega)) (by rw [fe_3735] <;> first | omega | (simp only [Int32.lt_iff_toInt_lt, Int32.le_iff_toInt_le, Int32.reduceToInt, ← Int32.toInt_inj, true_and, and_true, or_true, true_or, false_or, or_false, false_and, and_false, not_true_eq_false, not_false_eq_true] <;> omega)) (by rw [h_3736]; omega)
          · simp only [Int32.lt_iff_toInt_lt, Int32.le_iff_toInt_le, Int32.reduceToInt, ← Int32.toInt_inj] at h_2916
            refine v_aload_n hC dX12_advance_61 rfl ?_
            refine v_iconst hC dX12_advance_62 (v := 0) (by decide) ?_
            refine v_put hC fl_X12_120 m_1 hf_2898 rfl rfl (Nat.le_of_ble_eq_true rfl) (fs' := [.int v_2821, .ref (q 1), .ref (q 2), .ref (q 3), .ref (q 4), .int v_2822, .ref (q 6), .int v_2824, .int v_2826, .int v_2826, .int 0, .int v_2832, .int v_2833, .int v_2834, .ref (q 14), .ref (q 15), .ref (q 16), .int v_2835, .ref (q 18), .ref (q 19), .int v_2837, .ref (q 21), .ref (q 22), .ref (q 23), .ref (q 24), .ref (q 25), .ref (q 26), .ref (q 27), .ref (q 28)]) rfl dX12_advance_63 (fun f_3737 hf_3738 hk_3739 => ?_)
            have hW_3740 := hW_2900.up hf_3738 hk_3739 t_2 ⟨v_2821, v_2822, v_2824, v_2826, v_2826, 0, v_2832, v_2833, v_2834, v_2835, v_2837, rfl, (by first | omega | (simp only [Int32.lt_iff_toInt_lt, Int32.le_iff_toInt_le, Int32.reduceToInt, ← Int32.toInt_inj, true_and, and_true, or_true, true_or, false_or, or_false, false_and, and_false, not_true_eq_false, not_false_eq_true] <;> omega)), (by first | omega | (simp only [Int32.lt_iff_toInt_lt, Int32.le_iff_toInt_le, Int32.reduceToInt, ← Int32.toInt_inj, true_and, and_true, or_true, true_or, false_or, or_false, false_and, and_false, not_true_eq_false, not_false_eq_true] <;> omega)), (by first | omega | (simp only [Int32.lt_iff_toInt_lt, Int32.le_iff_toInt_le, Int32.reduceToInt, ← Int32.toInt_inj, true_and, and_true, or_true, true_or, false_or, or_false, false_and, and_false, not_true_eq_false, not_false_eq_true] <;> omega)), (by first | omega | (simp only [Int32.lt_iff_toInt_lt, Int32.le_iff_toInt_le, Int32.reduceToInt, ← Int32.toInt_inj, true_and, and_true, or_true, true_or, false_or, or_false, false_and, and_false, not_true_eq_false, not_false_eq_true] <;> omega)), (by decide), (by first | omega | (simp only [Int32.lt_iff_toInt_lt, Int32.le_iff_toInt_le, Int32.reduceToInt, ← Int32.toInt_inj, true_and, and_true, or_true, true_or, false_or, or_false, false_and, and_false, not_true_eq_false, not_false_eq_true] <;> omega)), (by first | omega | (simp only [Int32.lt_iff_toInt_lt, Int32.le_iff_toInt_le, Int32.reduceToInt, ← Int32.toInt_inj, true_and, and_true, or_true, true_or, false_or, or_false, false_and, and_false, not_true_eq_false, not_false_eq_true] <;> omega))⟩
            have hf_3741 := (hk_3739 (q 4) (ne_kd e_2912 hf_2898 rfl)).trans e_2912
            have fr_3742 := FR.w hk_3739 hf_2898 (k := 12) rfl
            refine v_goto hC dX12_advance_66 (tgt := 240) (by decide) ?_
            have fe_3743 : fld (f_3737 a_0) 8 = (v_2826 : Int32).toInt := by rw [hf_3738]; rfl
            have fe_3744 : fld (f_3737 a_0) 9 = (v_2826 : Int32).toInt := by rw [hf_3738]; rfl
            have fe_3745 : fld (f_3737 a_0) 8 = (v_2826 : Int32).toInt := by rw [hf_3738]; rfl
            have fe_3746 : fld (f_3737 a_0) 9 = (v_2826 : Int32).toInt := by rw [hf_3738]; rfl
            have fe_3747 : fld (f_3737 a_0) 10 = (0 : Int32).toInt := by rw [hf_3738]; rfl
            simp only [Int32.reduceToInt] at fe_3747
            have fe_3748 : fld (f_3737 a_0) 12 = (v_2833 : Int32).toInt := by rw [hf_3738]; rfl
            have fe_3749 : fld (f_3737 a_0) 20 = (v_2837 : Int32).toInt := by rw [hf_3738]; rfl
            exact hR _ _ _ _ _ _ dX12_advance_240 (Nat.le_of_ble_eq_true rfl) (Nat.le_of_ble_eq_true rfl) ⟨rfl, hW_3740, (((hF_2812.tr fr_2901).tr fr_3742).mono rfl), (by simp only [fe_3743, fe_3744, mz_41, true_and, and_true, or_true, true_or, false_or, or_false, false_and, and_false, not_true_eq_false, not_false_eq_true] <;> first | omega | (simp only [Int32.lt_iff_toInt_lt, Int32.le_iff_toInt_le, Int32.reduceToInt, ← Int32.toInt_inj, true_and, and_true, or_true, true_or, false_or, or_false, false_and, and_false, not_true_eq_false, not_false_eq_true] <;> omega)), (by simp only [fe_3745, fe_3746, fe_3747, true_and, and_true, or_true, true_or, false_or, or_false, false_and, and_false, not_true_eq_false, not_false_eq_true] <;> first | omega | (simp only [Int32.lt_iff_toInt_lt, Int32.le_iff_toInt_le, Int32.reduceToInt, ← Int32.toInt_inj, true_and, and_true, or_true, true_or, false_or, or_false, false_and, and_false, not_true_eq_false, not_false_eq_true] <;> omega)), (by simp only [fe_3748, mz_42, true_and, and_true, or_true, true_or, false_or, or_false, false_and, and_false, not_true_eq_false, not_false_eq_true] <;> first | omega | (simp only [Int32.lt_iff_toInt_lt, Int32.le_iff_toInt_le, Int32.reduceToInt, ← Int32.toInt_inj, true_and, and_true, or_true, true_or, false_or, or_false, false_and, and_false, not_true_eq_false, not_false_eq_true] <;> omega)), (by simp only [fe_3749, mz_43, true_and, and_true, or_true, true_or, false_or, or_false, false_and, and_false, not_true_eq_false, not_false_eq_true] <;> first | omega | (simp only [Int32.lt_iff_toInt_lt, Int32.le_iff_toInt_le, Int32.reduceToInt, ← Int32.toInt_inj, true_and, and_true, or_true, true_or, false_or, or_false, false_and, and_false, not_true_eq_false, not_false_eq_true] <;> omega))⟩
        · simp only [Int32.lt_iff_toInt_lt, Int32.le_iff_toInt_le, Int32.reduceToInt, ← Int32.toInt_inj] at h_2884
          refine v_aload_n hC dX12_advance_26 rfl ?_
          refine v_dup hC dX12_advance_27 rfl ?_
          refine v_get hC fl_X12_108 m_1 e_2820 rfl dX12_advance_28 ?_
          refine v_iconst hC dX12_advance_31 (v := 1) (by decide) ?_
          obtain ⟨v_3750, h_3751⟩ : ∃ v9 : Int32, v_2826 + 1 = v9 := ⟨_, rfl⟩
          refine v_iadd hC dX12_advance_32 h_3751 ?_
          have h_3752 := add_v h_3751 (by first | omega | (simp only [Int32.lt_iff_toInt_lt, Int32.le_iff_toInt_le, Int32.reduceToInt, ← Int32.toInt_inj, true_and, and_true, or_true, true_or, false_or, or_false, false_and, and_false, not_true_eq_false, not_false_eq_true] <;> omega)) (by first | omega | (simp only [Int32.lt_iff_toInt_lt, Int32.le_iff_toInt_le, Int32.reduceToInt, ← Int32.toInt_inj, true_and, and_true, or_true, true_or, false_or, or_false, false_and, and_false, not_true_eq_false, not_false_eq_true] <;> omega))
          try simp only [Int32.reduceToInt] at h_3752
          refine v_put hC fl_X12_108 m_1 e_2820 rfl rfl (Nat.le_of_ble_eq_true rfl) (fs' := [.int v_2821, .ref (q 1), .ref (q 2), .ref (q 3), .ref (q 4), .int v_2822, .ref (q 6), .int v_2824, .int v_3750, .int v_2828, .int v_2830, .int v_2832, .int v_2833, .int v_2834, .ref (q 14), .ref (q 15), .ref (q 16), .int v_2835, .ref (q 18), .ref (q 19), .int v_2837, .ref (q 21), .ref (q 22), .ref (q 23), .ref (q 24), .ref (q 25), .ref (q 26), .ref (q 27), .ref (q 28)]) rfl dX12_advance_33 (fun f_3753 hf_3754 hk_3755 => ?_)
          have hW_3756 := hW_2811.up hf_3754 hk_3755 t_2 ⟨v_2821, v_2822, v_2824, v_3750, v_2828, v_2830, v_2832, v_2833, v_2834, v_2835, v_2837, rfl, (by first | omega | (simp only [Int32.lt_iff_toInt_lt, Int32.le_iff_toInt_le, Int32.reduceToInt, ← Int32.toInt_inj, true_and, and_true, or_true, true_or, false_or, or_false, false_and, and_false, not_true_eq_false, not_false_eq_true] <;> omega)), (by first | omega | (simp only [Int32.lt_iff_toInt_lt, Int32.le_iff_toInt_le, Int32.reduceToInt, ← Int32.toInt_inj, true_and, and_true, or_true, true_or, false_or, or_false, false_and, and_false, not_true_eq_false, not_false_eq_true] <;> omega)), (by first | omega | (simp only [Int32.lt_iff_toInt_lt, Int32.le_iff_toInt_le, Int32.reduceToInt, ← Int32.toInt_inj, true_and, and_true, or_true, true_or, false_or, or_false, false_and, and_false, not_true_eq_false, not_false_eq_true] <;> omega)), (by first | omega | (simp only [Int32.lt_iff_toInt_lt, Int32.le_iff_toInt_le, Int32.reduceToInt, ← Int32.toInt_inj, true_and, and_true, or_true, true_or, false_or, or_false, false_and, and_false, not_true_eq_false, not_false_eq_true] <;> omega)), (by first | omega | (simp only [Int32.lt_iff_toInt_lt, Int32.le_iff_toInt_le, Int32.reduceToInt, ← Int32.toInt_inj, true_and, and_true, or_true, true_or, false_or, or_false, false_and, and_false, not_true_eq_false, not_false_eq_true] <;> omega)), (by first | omega | (simp only [Int32.lt_iff_toInt_lt, Int32.le_iff_toInt_le, Int32.reduceToInt, ← Int32.toInt_inj, true_and, and_true, or_true, true_or, false_or, or_false, false_and, and_false, not_true_eq_false, not_false_eq_true] <;> omega)), (by first | omega | (simp only [Int32.lt_iff_toInt_lt, Int32.le_iff_toInt_le, Int32.reduceToInt, ← Int32.toInt_inj, true_and, and_true, or_true, true_or, false_or, or_false, false_and, and_false, not_true_eq_false, not_false_eq_true] <;> omega))⟩
          have fr_3757 := FR.w hk_3755 e_2820 (k := 12) rfl
          refine v_goto hC dX12_advance_36 (tgt := 0) (by decide) ?_
          refine v_pick [0] rfl ?_
          have fe_3758 : fld (f_3753 a_0) 8 = (v_3750 : Int32).toInt := by rw [hf_3754]; rfl
          have fe_3759 : fld (f_3753 a_0) 12 = (v_2833 : Int32).toInt := by rw [hf_3754]; rfl
          have fe_3760 : fld (f_3753 a_0) 20 = (v_2837 : Int32).toInt := by rw [hf_3754]; rfl
          have h_3761 : fld (f_3753 a_0) 8 = (v_3750 : Int32).toInt := by rw [hf_3754]; rfl
          exact ih_2818 f_3753 hW_3756 ((hF_2812.tr fr_3757).mono rfl) (by rw [fe_3758] <;> first | omega | (simp only [Int32.lt_iff_toInt_lt, Int32.le_iff_toInt_le, Int32.reduceToInt, ← Int32.toInt_inj, true_and, and_true, or_true, true_or, false_or, or_false, false_and, and_false, not_true_eq_false, not_false_eq_true] <;> omega)) (by rw [fe_3759] <;> first | omega | (simp only [Int32.lt_iff_toInt_lt, Int32.le_iff_toInt_le, Int32.reduceToInt, ← Int32.toInt_inj, true_and, and_true, or_true, true_or, false_or, or_false, false_and, and_false, not_true_eq_false, not_false_eq_true] <;> omega)) (by rw [fe_3760] <;> first | omega | (simp only [Int32.lt_iff_toInt_lt, Int32.le_iff_toInt_le, Int32.reduceToInt, ← Int32.toInt_inj, true_and, and_true, or_true, true_or, false_or, or_false, false_and, and_false, not_true_eq_false, not_false_eq_true] <;> omega)) (by rw [h_3761]; omega)
  refine v_pick [0] rfl ?_
  have fe_3762 : fld (f a_0) 8 = (v_28 : Int32).toInt := by rw [e_22]; rfl
  have fe_3763 : fld (f a_0) 12 = (v_35 : Int32).toInt := by rw [e_22]; rfl
  have fe_3764 : fld (f a_0) 20 = (v_39 : Int32).toInt := by rw [e_22]; rfl
  have h_3765 : fld (f a_0) 8 = (v_28 : Int32).toInt := by rw [e_22]; rfl
  exact lp_2816 602 f hW FR.rf (by rw [fe_3762] <;> first | omega | (simp only [Int32.lt_iff_toInt_lt, Int32.le_iff_toInt_le, Int32.reduceToInt, ← Int32.toInt_inj, true_and, and_true, or_true, true_or, false_or, or_false, false_and, and_false, not_true_eq_false, not_false_eq_true] <;> omega)) (by rw [fe_3763] <;> first | omega | (simp only [Int32.lt_iff_toInt_lt, Int32.le_iff_toInt_le, Int32.reduceToInt, ← Int32.toInt_inj, true_and, and_true, or_true, true_or, false_or, or_false, false_and, and_false, not_true_eq_false, not_false_eq_true] <;> omega)) (by rw [fe_3764] <;> first | omega | (simp only [Int32.lt_iff_toInt_lt, Int32.le_iff_toInt_le, Int32.reduceToInt, ← Int32.toInt_inj, true_and, and_true, or_true, true_or, false_or, or_false, false_and, and_false, not_true_eq_false, not_false_eq_true] <;> omega)) (by rw [h_3765]; omega)
set_option maxRecDepth 100000 in
set_option maxHeartbeats 1500000 in
theorem p_X12_takes {l : Launch} {E : Ez} {L : List Nat} {f : Nat → va_E} {T : Nat → va_E → Prop} {a_0 : Nat} {a_1 : Nat} {q : Nat → Nat} (hW : WT T L f) (k_0 : isM T L E a_0 q) (ha_1 : a_1 < 77) : CI l yX12_takes cX12_takes 3 .boolean 5 0 0 E [.ref a_0, .ref (eK E a_1)] L f (fun r L1 f1 => L = L1 ∧ WT T L f1 ∧ FR [12] f f1 ∧ r = (iw (f a_0) (f (q 4)) a_1) ∧ ((iw (f a_0) (f (q 4)) a_1).toInt = 0 ∨ ((fld (f a_0) 8 ≤ fld (f1 a_0) 9 ∧ fld (f1 a_0) 9 ≤ fld (f1 a_0) 8) ∧ (fld (f1 a_0) 10 = 0 ∨ fld (f1 a_0) 9 < fld (f1 a_0) 8))) ∧ (¬ (iw (f a_0) (f (q 4)) a_1).toInt = 0 ∨ (fld (f1 a_0) 8 = fld (f a_0) 8 ∧ fld (f1 a_0) 9 = fld (f a_0) 9 ∧ fld (f1 a_0) 10 = fld (f a_0) 10)) ∧ fld (f1 a_0) 12 = fld (f a_0) 12 ∧ fld (f1 a_0) 20 = fld (f a_0) 20) := by
  refine ci_of (by decide) (Nat.le_of_ble_eq_true rfl) (fun z hz hnm hC hR => ?_)
  have hC : Cx z E cX12_takes RX12 3 5 0 0 := hC
  subst hz
  show V z E 3 0 0 L f 0 [(0, .ref a_0), (1, .ref (eK E a_1))] []
  obtain ⟨m_1, t_2, nq_21, k_3, k_4, k_5, k_6, k_7, k_8, k_9, k_10, k_11, k_12, k_13, k_14, k_15, k_16, k_17, k_18, k_19, k_20⟩ := id k_0
  obtain ⟨v_23, v_24, v_26, v_28, v_30, v_32, v_34, v_35, v_36, v_37, v_39, e_22, b_25, b_27, b_29, b_31, b_33, b_38, b_40⟩ := hW.at m_1 t_2
  have mz_41 : fld (f a_0) 8 = v_28.toInt := by rw [e_22]; rfl
  have mz_42 : fld (f a_0) 9 = v_30.toInt := by rw [e_22]; rfl
  have mz_43 : fld (f a_0) 10 = v_32.toInt := by rw [e_22]; rfl
  have mz_44 : fld (f a_0) 12 = v_35.toInt := by rw [e_22]; rfl
  have mz_45 : fld (f a_0) 20 = v_39.toInt := by rw [e_22]; rfl
  refine v_aload_n hC dX12_takes_0 rfl ?_
  refine v_aload_n hC dX12_takes_1 rfl ?_
  refine v_vi hC (rest := []) m_1 e_22 rfl mi_X12_is ms_X12_is (p_X12_is hW k_0 ha_1) mx_X12_is ml_X12_152 (by decide) rfl (cells1 := 0) (slots1 := 0) (by decide) (by decide) (Nat.le_of_ble_eq_true rfl) (Nat.le_of_ble_eq_true rfl) rfl (Nat.le_of_ble_eq_true rfl) dX12_takes_2 (fun r_46 L_47 f_48 h_49 => ?_)
  obtain ⟨rfl, rfl, rfl⟩ := h_49
  have fe_52 : fld (f a_0) 8 = (v_28 : Int32).toInt := by rw [e_22]; rfl
  have fe_53 : fld (f a_0) 9 = (v_30 : Int32).toInt := by rw [e_22]; rfl
  have fe_54 : fld (f a_0) 10 = (v_32 : Int32).toInt := by rw [e_22]; rfl
  have fe_55 : fld (f a_0) 12 = (v_35 : Int32).toInt := by rw [e_22]; rfl
  have ib_56 := iw_b (f a_0) (f (q 4)) a_1
  rw [fe_55, fe_54, fe_52, fe_53] at ib_56
  clear fe_52 fe_53 fe_54 fe_55
  refine v_istore_n hC dX12_takes_5 (by decide) (lv' := [(2, .int (iw (f a_0) (f (q 4)) a_1)), (0, .ref a_0), (1, .ref (eK E a_1))]) rfl ?_
  refine v_iload_n hC dX12_takes_6 rfl ?_
  refine v_if_eq hC dX12_takes_7 (tgt := 14) (by decide) (fun h_57 => ?_) (fun h_57 => ?_)
  · simp only [Int32.lt_iff_toInt_lt, Int32.le_iff_toInt_le, Int32.reduceToInt, ← Int32.toInt_inj] at h_57
    refine v_iload_n hC dX12_takes_14 rfl ?_
    have fe_58 : fld (f a_0) 8 = (v_28 : Int32).toInt := by rw [e_22]; rfl
    have fe_59 : fld (f a_0) 9 = (v_30 : Int32).toInt := by rw [e_22]; rfl
    have fe_60 : fld (f a_0) 10 = (v_32 : Int32).toInt := by rw [e_22]; rfl
    have fe_61 : fld (f a_0) 8 = (v_28 : Int32).toInt := by rw [e_22]; rfl
    have fe_62 : fld (f a_0) 9 = (v_30 : Int32).toInt := by rw [e_22]; rfl
    have fe_63 : fld (f a_0) 10 = (v_32 : Int32).toInt := by rw [e_22]; rfl
    have fe_64 : fld (f a_0) 12 = (v_35 : Int32).toInt := by rw [e_22]; rfl
    have fe_65 : fld (f a_0) 20 = (v_39 : Int32).toInt := by rw [e_22]; rfl
    exact hR _ _ _ _ _ _ _ dX12_takes_15 (nar01 (by first | omega | (simp only [Int32.lt_iff_toInt_lt, Int32.le_iff_toInt_le, Int32.reduceToInt, ← Int32.toInt_inj, true_and, and_true, or_true, true_or, false_or, or_false, false_and, and_false, not_true_eq_false, not_false_eq_true] <;> omega))) (Nat.le_of_ble_eq_true rfl) (Nat.le_of_ble_eq_true rfl) ⟨rfl, hW, FR.rf, rfl, (by simp only [fe_58, fe_59, fe_60, mz_41, true_and, and_true, or_true, true_or, false_or, or_false, false_and, and_false, not_true_eq_false, not_false_eq_true] <;> first | omega | (simp only [Int32.lt_iff_toInt_lt, Int32.le_iff_toInt_le, Int32.reduceToInt, ← Int32.toInt_inj, true_and, and_true, or_true, true_or, false_or, or_false, false_and, and_false, not_true_eq_false, not_false_eq_true] <;> omega)), (by simp only [fe_61, fe_62, fe_63, mz_41, mz_42, mz_43, true_and, and_true, or_true, true_or, false_or, or_false, false_and, and_false, not_true_eq_false, not_false_eq_true] <;> first | omega | (simp only [Int32.lt_iff_toInt_lt, Int32.le_iff_toInt_le, Int32.reduceToInt, ← Int32.toInt_inj, true_and, and_true, or_true, true_or, false_or, or_false, false_and, and_false, not_true_eq_false, not_false_eq_true] <;> omega)), (by simp only [fe_64, mz_44, true_and, and_true, or_true, true_or, false_or, or_false, false_and, and_false, not_true_eq_false, not_false_eq_true] <;> first | omega | (simp only [Int32.lt_iff_toInt_lt, Int32.le_iff_toInt_le, Int32.reduceToInt, ← Int32.toInt_inj, true_and, and_true, or_true, true_or, false_or, or_false, false_and, and_false, not_true_eq_false, not_false_eq_true] <;> omega)), (by simp only [fe_65, mz_45, true_and, and_true, or_true, true_or, false_or, or_false, false_and, and_false, not_true_eq_false, not_false_eq_true] <;> first | omega | (simp only [Int32.lt_iff_toInt_lt, Int32.le_iff_toInt_le, Int32.reduceToInt, ← Int32.toInt_inj, true_and, and_true, or_true, true_or, false_or, or_false, false_and, and_false, not_true_eq_false, not_false_eq_true] <;> omega))⟩
  · simp only [Int32.lt_iff_toInt_lt, Int32.le_iff_toInt_le, Int32.reduceToInt, ← Int32.toInt_inj] at h_57
    refine v_aload_n hC dX12_takes_10 rfl ?_
    refine v_vv hC (rest := []) m_1 e_22 rfl mi_X12_advance ms_X12_advance (p_X12_advance hW k_0) mx_X12_advance ml_X12_156 (by decide) rfl (cells1 := 0) (slots1 := 0) (by decide) (by decide) (Nat.le_of_ble_eq_true rfl) (Nat.le_of_ble_eq_true rfl) rfl (Nat.le_of_ble_eq_true rfl) dX12_takes_11 (fun L_67 f_68 h_69 => ?_)
    obtain ⟨rfl, hW_74, hF_75, x_70, x_71, x_72, x_73⟩ := h_69
    have fe_76 : fld (f a_0) 8 = (v_28 : Int32).toInt := by rw [e_22]; rfl
    have fe_77 : fld (f a_0) 12 = (v_35 : Int32).toInt := by rw [e_22]; rfl
    have fe_78 : fld (f a_0) 20 = (v_39 : Int32).toInt := by rw [e_22]; rfl
    obtain ⟨v_80, v_81, v_83, v_85, v_87, v_89, v_91, v_92, v_93, v_94, v_96, e_79, b_82, b_84, b_86, b_88, b_90, b_95, b_97⟩ := hW_74.at m_1 t_2
    have fe_98 : fld (f_68 a_0) 8 = (v_85 : Int32).toInt := by rw [e_79]; rfl
    have fe_99 : fld (f_68 a_0) 9 = (v_87 : Int32).toInt := by rw [e_79]; rfl
    have fe_100 : fld (f_68 a_0) 10 = (v_89 : Int32).toInt := by rw [e_79]; rfl
    have fe_101 : fld (f_68 a_0) 12 = (v_92 : Int32).toInt := by rw [e_79]; rfl
    have fe_102 : fld (f_68 a_0) 20 = (v_96 : Int32).toInt := by rw [e_79]; rfl
    rw [fe_76, fe_99, fe_98] at x_70
    rw [fe_100, fe_99, fe_98] at x_71
    rw [fe_101, fe_77] at x_72
    rw [fe_102, fe_78] at x_73
    clear fe_76 fe_77 fe_78 fe_98 fe_99 fe_100 fe_101 fe_102
    refine v_iload_n hC dX12_takes_14 rfl ?_
    have fe_103 : fld (f_68 a_0) 8 = (v_85 : Int32).toInt := by rw [e_79]; rfl
    have fe_104 : fld (f_68 a_0) 9 = (v_87 : Int32).toInt := by rw [e_79]; rfl
    have fe_105 : fld (f_68 a_0) 10 = (v_89 : Int32).toInt := by rw [e_79]; rfl
    have fe_106 : fld (f_68 a_0) 8 = (v_85 : Int32).toInt := by rw [e_79]; rfl
    have fe_107 : fld (f_68 a_0) 9 = (v_87 : Int32).toInt := by rw [e_79]; rfl
    have fe_108 : fld (f_68 a_0) 10 = (v_89 : Int32).toInt := by rw [e_79]; rfl
    have fe_109 : fld (f_68 a_0) 12 = (v_92 : Int32).toInt := by rw [e_79]; rfl
    have fe_110 : fld (f_68 a_0) 20 = (v_96 : Int32).toInt := by rw [e_79]; rfl
    exact hR _ _ _ _ _ _ _ dX12_takes_15 (nar01 (by first | omega | (simp only [Int32.lt_iff_toInt_lt, Int32.le_iff_toInt_le, Int32.reduceToInt, ← Int32.toInt_inj, true_and, and_true, or_true, true_or, false_or, or_false, false_and, and_false, not_true_eq_false, not_false_eq_true] <;> omega))) (Nat.le_of_ble_eq_true rfl) (Nat.le_of_ble_eq_true rfl) ⟨rfl, hW_74, (hF_75.mono rfl), rfl, (by simp only [fe_103, fe_104, fe_105, mz_41, true_and, and_true, or_true, true_or, false_or, or_false, false_and, and_false, not_true_eq_false, not_false_eq_true] <;> first | omega | (simp only [Int32.lt_iff_toInt_lt, Int32.le_iff_toInt_le, Int32.reduceToInt, ← Int32.toInt_inj, true_and, and_true, or_true, true_or, false_or, or_false, false_and, and_false, not_true_eq_false, not_false_eq_true] <;> omega)), (by simp only [fe_106, fe_107, fe_108, mz_41, mz_42, mz_43, true_and, and_true, or_true, true_or, false_or, or_false, false_and, and_false, not_true_eq_false, not_false_eq_true] <;> first | omega | (simp only [Int32.lt_iff_toInt_lt, Int32.le_iff_toInt_le, Int32.reduceToInt, ← Int32.toInt_inj, true_and, and_true, or_true, true_or, false_or, or_false, false_and, and_false, not_true_eq_false, not_false_eq_true] <;> omega)), (by simp only [fe_109, mz_44, true_and, and_true, or_true, true_or, false_or, or_false, false_and, and_false, not_true_eq_false, not_false_eq_true] <;> first | omega | (simp only [Int32.lt_iff_toInt_lt, Int32.le_iff_toInt_le, Int32.reduceToInt, ← Int32.toInt_inj, true_and, and_true, or_true, true_or, false_or, or_false, false_and, and_false, not_true_eq_false, not_false_eq_true] <;> omega)), (by simp only [fe_110, mz_45, true_and, and_true, or_true, true_or, false_or, or_false, false_and, and_false, not_true_eq_false, not_false_eq_true] <;> first | omega | (simp only [Int32.lt_iff_toInt_lt, Int32.le_iff_toInt_le, Int32.reduceToInt, ← Int32.toInt_inj, true_and, and_true, or_true, true_or, false_or, or_false, false_and, and_false, not_true_eq_false, not_false_eq_true] <;> omega))⟩
set_option maxRecDepth 100000 in
set_option maxHeartbeats 1500000 in
theorem p_X12_errs {l : Launch} {E : Ez} {L : List Nat} {f : Nat → va_E} {T : Nat → va_E → Prop} {a_0 : Nat} {a_1 : Int32} {q : Nat → Nat} (hW : WT T L f) (k_0 : isM T L E a_0 q) (g_1 : (1 ≤ a_1.toInt ∧ a_1.toInt ≤ 3)) : CV l yX12_errs cX12_errs 2 1 0 0 E [.ref a_0, .int a_1] L f (fun L1 f1 => L = L1 ∧ WT T L f1 ∧ FR [12] f f1 ∧ ¬ fld (f1 a_0) 12 = 0 ∧ fld (f1 a_0) 8 = fld (f a_0) 8 ∧ fld (f1 a_0) 9 = fld (f a_0) 9 ∧ fld (f1 a_0) 10 = fld (f a_0) 10 ∧ fld (f1 a_0) 20 = fld (f a_0) 20) := by
  refine cv_of (by decide) (Nat.le_of_ble_eq_true rfl) (fun z hz hnm hC hR => ?_)
  have hC : Cx z E cX12_errs RX12 2 1 0 0 := hC
  subst hz
  show V z E 2 0 0 L f 0 [(0, .ref a_0), (1, .int a_1)] []
  obtain ⟨m_1, t_2, nq_21, k_3, k_4, k_5, k_6, k_7, k_8, k_9, k_10, k_11, k_12, k_13, k_14, k_15, k_16, k_17, k_18, k_19, k_20⟩ := id k_0
  obtain ⟨v_23, v_24, v_26, v_28, v_30, v_32, v_34, v_35, v_36, v_37, v_39, e_22, b_25, b_27, b_29, b_31, b_33, b_38, b_40⟩ := hW.at m_1 t_2
  have mz_41 : fld (f a_0) 8 = v_28.toInt := by rw [e_22]; rfl
  have mz_42 : fld (f a_0) 9 = v_30.toInt := by rw [e_22]; rfl
  have mz_43 : fld (f a_0) 10 = v_32.toInt := by rw [e_22]; rfl
  have mz_44 : fld (f a_0) 20 = v_39.toInt := by rw [e_22]; rfl
  refine v_aload_n hC dX12_errs_0 rfl ?_
  refine v_vi hC (rest := []) m_1 e_22 rfl mi_X12_good ms_X12_good (p_X12_good hW k_0) mx_X12_good ml_X12_139 (by decide) rfl (cells1 := 0) (slots1 := 0) (by decide) (by decide) (Nat.le_of_ble_eq_true rfl) (Nat.le_of_ble_eq_true rfl) rfl (Nat.le_of_ble_eq_true rfl) dX12_errs_1 (fun r_45 L_46 f_47 h_48 => ?_)
  obtain ⟨rfl, rfl, b_49, x_50⟩ := h_48
  have fe_53 : fld (f a_0) 12 = (v_35 : Int32).toInt := by rw [e_22]; rfl
  rw [fe_53] at x_50
  clear fe_53
  try simp only [Int32.reduceToInt, Int64.reduceToInt] at x_50
  refine v_if_ne hC dX12_errs_4 (tgt := 8) (by decide) (fun h_54 => ?_) (fun h_54 => ?_)
  · simp only [Int32.lt_iff_toInt_lt, Int32.le_iff_toInt_le, Int32.reduceToInt, ← Int32.toInt_inj] at h_54
    refine v_aload_n hC dX12_errs_8 rfl ?_
    refine v_iload_n hC dX12_errs_9 rfl ?_
    refine v_put hC fl_X12_111 m_1 e_22 rfl rfl (Nat.le_of_ble_eq_true rfl) (fs' := [.int v_23, .ref (q 1), .ref (q 2), .ref (q 3), .ref (q 4), .int v_24, .ref (q 6), .int v_26, .int v_28, .int v_30, .int v_32, .int v_34, .int a_1, .int v_36, .ref (q 14), .ref (q 15), .ref (q 16), .int v_37, .ref (q 18), .ref (q 19), .int v_39, .ref (q 21), .ref (q 22), .ref (q 23), .ref (q 24), .ref (q 25), .ref (q 26), .ref (q 27), .ref (q 28)]) rfl dX12_errs_10 (fun f_55 hf_56 hk_57 => ?_)
    have hW_58 := hW.up hf_56 hk_57 t_2 ⟨v_23, v_24, v_26, v_28, v_30, v_32, v_34, a_1, v_36, v_37, v_39, rfl, (by first | omega | (simp only [Int32.lt_iff_toInt_lt, Int32.le_iff_toInt_le, Int32.reduceToInt, ← Int32.toInt_inj, true_and, and_true, or_true, true_or, false_or, or_false, false_and, and_false, not_true_eq_false, not_false_eq_true] <;> omega)), (by first | omega | (simp only [Int32.lt_iff_toInt_lt, Int32.le_iff_toInt_le, Int32.reduceToInt, ← Int32.toInt_inj, true_and, and_true, or_true, true_or, false_or, or_false, false_and, and_false, not_true_eq_false, not_false_eq_true] <;> omega)), (by first | omega | (simp only [Int32.lt_iff_toInt_lt, Int32.le_iff_toInt_le, Int32.reduceToInt, ← Int32.toInt_inj, true_and, and_true, or_true, true_or, false_or, or_false, false_and, and_false, not_true_eq_false, not_false_eq_true] <;> omega)), (by first | omega | (simp only [Int32.lt_iff_toInt_lt, Int32.le_iff_toInt_le, Int32.reduceToInt, ← Int32.toInt_inj, true_and, and_true, or_true, true_or, false_or, or_false, false_and, and_false, not_true_eq_false, not_false_eq_true] <;> omega)), (by first | omega | (simp only [Int32.lt_iff_toInt_lt, Int32.le_iff_toInt_le, Int32.reduceToInt, ← Int32.toInt_inj, true_and, and_true, or_true, true_or, false_or, or_false, false_and, and_false, not_true_eq_false, not_false_eq_true] <;> omega)), (by first | omega | (simp only [Int32.lt_iff_toInt_lt, Int32.le_iff_toInt_le, Int32.reduceToInt, ← Int32.toInt_inj, true_and, and_true, or_true, true_or, false_or, or_false, false_and, and_false, not_true_eq_false, not_false_eq_true] <;> omega)), (by first | omega | (simp only [Int32.lt_iff_toInt_lt, Int32.le_iff_toInt_le, Int32.reduceToInt, ← Int32.toInt_inj, true_and, and_true, or_true, true_or, false_or, or_false, false_and, and_false, not_true_eq_false, not_false_eq_true] <;> omega))⟩
    have fr_59 := FR.w hk_57 e_22 (k := 12) rfl
    refine v_aload_n hC dX12_errs_13 rfl ?_
    refine v_aload_n hC dX12_errs_14 rfl ?_
    refine v_get hC fl_X12_117 m_1 hf_56 rfl dX12_errs_15 ?_
    refine v_put hC fl_X12_31 m_1 hf_56 rfl rfl (Nat.le_of_ble_eq_true rfl) (fs' := [.int v_23, .ref (q 1), .ref (q 2), .ref (q 3), .ref (q 4), .int v_24, .ref (q 6), .int v_26, .int v_28, .int v_30, .int v_32, .int v_34, .int a_1, .int v_30, .ref (q 14), .ref (q 15), .ref (q 16), .int v_37, .ref (q 18), .ref (q 19), .int v_39, .ref (q 21), .ref (q 22), .ref (q 23), .ref (q 24), .ref (q 25), .ref (q 26), .ref (q 27), .ref (q 28)]) rfl dX12_errs_18 (fun f_60 hf_61 hk_62 => ?_)
    have hW_63 := hW_58.up hf_61 hk_62 t_2 ⟨v_23, v_24, v_26, v_28, v_30, v_32, v_34, a_1, v_30, v_37, v_39, rfl, (by first | omega | (simp only [Int32.lt_iff_toInt_lt, Int32.le_iff_toInt_le, Int32.reduceToInt, ← Int32.toInt_inj, true_and, and_true, or_true, true_or, false_or, or_false, false_and, and_false, not_true_eq_false, not_false_eq_true] <;> omega)), (by first | omega | (simp only [Int32.lt_iff_toInt_lt, Int32.le_iff_toInt_le, Int32.reduceToInt, ← Int32.toInt_inj, true_and, and_true, or_true, true_or, false_or, or_false, false_and, and_false, not_true_eq_false, not_false_eq_true] <;> omega)), (by first | omega | (simp only [Int32.lt_iff_toInt_lt, Int32.le_iff_toInt_le, Int32.reduceToInt, ← Int32.toInt_inj, true_and, and_true, or_true, true_or, false_or, or_false, false_and, and_false, not_true_eq_false, not_false_eq_true] <;> omega)), (by first | omega | (simp only [Int32.lt_iff_toInt_lt, Int32.le_iff_toInt_le, Int32.reduceToInt, ← Int32.toInt_inj, true_and, and_true, or_true, true_or, false_or, or_false, false_and, and_false, not_true_eq_false, not_false_eq_true] <;> omega)), (by first | omega | (simp only [Int32.lt_iff_toInt_lt, Int32.le_iff_toInt_le, Int32.reduceToInt, ← Int32.toInt_inj, true_and, and_true, or_true, true_or, false_or, or_false, false_and, and_false, not_true_eq_false, not_false_eq_true] <;> omega)), (by first | omega | (simp only [Int32.lt_iff_toInt_lt, Int32.le_iff_toInt_le, Int32.reduceToInt, ← Int32.toInt_inj, true_and, and_true, or_true, true_or, false_or, or_false, false_and, and_false, not_true_eq_false, not_false_eq_true] <;> omega)), (by first | omega | (simp only [Int32.lt_iff_toInt_lt, Int32.le_iff_toInt_le, Int32.reduceToInt, ← Int32.toInt_inj, true_and, and_true, or_true, true_or, false_or, or_false, false_and, and_false, not_true_eq_false, not_false_eq_true] <;> omega))⟩
    have fr_64 := FR.w hk_62 hf_56 (k := 12) rfl
    have fe_65 : fld (f_60 a_0) 12 = (a_1 : Int32).toInt := by rw [hf_61]; rfl
    have fe_66 : fld (f_60 a_0) 8 = (v_28 : Int32).toInt := by rw [hf_61]; rfl
    have fe_67 : fld (f_60 a_0) 9 = (v_30 : Int32).toInt := by rw [hf_61]; rfl
    have fe_68 : fld (f_60 a_0) 10 = (v_32 : Int32).toInt := by rw [hf_61]; rfl
    have fe_69 : fld (f_60 a_0) 20 = (v_39 : Int32).toInt := by rw [hf_61]; rfl
    exact hR _ _ _ _ _ _ dX12_errs_21 (Nat.le_of_ble_eq_true rfl) (Nat.le_of_ble_eq_true rfl) ⟨rfl, hW_63, ((fr_59.tr fr_64).mono rfl), (by simp only [fe_65, true_and, and_true, or_true, true_or, false_or, or_false, false_and, and_false, not_true_eq_false, not_false_eq_true] <;> first | omega | (simp only [Int32.lt_iff_toInt_lt, Int32.le_iff_toInt_le, Int32.reduceToInt, ← Int32.toInt_inj, true_and, and_true, or_true, true_or, false_or, or_false, false_and, and_false, not_true_eq_false, not_false_eq_true] <;> omega)), (by simp only [fe_66, mz_41, true_and, and_true, or_true, true_or, false_or, or_false, false_and, and_false, not_true_eq_false, not_false_eq_true] <;> first | omega | (simp only [Int32.lt_iff_toInt_lt, Int32.le_iff_toInt_le, Int32.reduceToInt, ← Int32.toInt_inj, true_and, and_true, or_true, true_or, false_or, or_false, false_and, and_false, not_true_eq_false, not_false_eq_true] <;> omega)), (by simp only [fe_67, mz_42, true_and, and_true, or_true, true_or, false_or, or_false, false_and, and_false, not_true_eq_false, not_false_eq_true] <;> first | omega | (simp only [Int32.lt_iff_toInt_lt, Int32.le_iff_toInt_le, Int32.reduceToInt, ← Int32.toInt_inj, true_and, and_true, or_true, true_or, false_or, or_false, false_and, and_false, not_true_eq_false, not_false_eq_true] <;> omega)), (by simp only [fe_68, mz_43, true_and, and_true, or_true, true_or, false_or, or_false, false_and, and_false, not_true_eq_false, not_false_eq_true] <;> first | omega | (simp only [Int32.lt_iff_toInt_lt, Int32.le_iff_toInt_le, Int32.reduceToInt, ← Int32.toInt_inj, true_and, and_true, or_true, true_or, false_or, or_false, false_and, and_false, not_true_eq_false, not_false_eq_true] <;> omega)), (by simp only [fe_69, mz_44, true_and, and_true, or_true, true_or, false_or, or_false, false_and, and_false, not_true_eq_false, not_false_eq_true] <;> first | omega | (simp only [Int32.lt_iff_toInt_lt, Int32.le_iff_toInt_le, Int32.reduceToInt, ← Int32.toInt_inj, true_and, and_true, or_true, true_or, false_or, or_false, false_and, and_false, not_true_eq_false, not_false_eq_true] <;> omega))⟩
  · simp only [Int32.lt_iff_toInt_lt, Int32.le_iff_toInt_le, Int32.reduceToInt, ← Int32.toInt_inj] at h_54
    have fe_70 : fld (f a_0) 12 = (v_35 : Int32).toInt := by rw [e_22]; rfl
    have fe_71 : fld (f a_0) 8 = (v_28 : Int32).toInt := by rw [e_22]; rfl
    have fe_72 : fld (f a_0) 9 = (v_30 : Int32).toInt := by rw [e_22]; rfl
    have fe_73 : fld (f a_0) 10 = (v_32 : Int32).toInt := by rw [e_22]; rfl
    have fe_74 : fld (f a_0) 20 = (v_39 : Int32).toInt := by rw [e_22]; rfl
    exact hR _ _ _ _ _ _ dX12_errs_7 (Nat.le_of_ble_eq_true rfl) (Nat.le_of_ble_eq_true rfl) ⟨rfl, hW, FR.rf, (by simp only [fe_70, true_and, and_true, or_true, true_or, false_or, or_false, false_and, and_false, not_true_eq_false, not_false_eq_true] <;> first | omega | (simp only [Int32.lt_iff_toInt_lt, Int32.le_iff_toInt_le, Int32.reduceToInt, ← Int32.toInt_inj, true_and, and_true, or_true, true_or, false_or, or_false, false_and, and_false, not_true_eq_false, not_false_eq_true] <;> omega)), (by simp only [fe_71, mz_41, true_and, and_true, or_true, true_or, false_or, or_false, false_and, and_false, not_true_eq_false, not_false_eq_true] <;> first | omega | (simp only [Int32.lt_iff_toInt_lt, Int32.le_iff_toInt_le, Int32.reduceToInt, ← Int32.toInt_inj, true_and, and_true, or_true, true_or, false_or, or_false, false_and, and_false, not_true_eq_false, not_false_eq_true] <;> omega)), (by simp only [fe_72, mz_42, true_and, and_true, or_true, true_or, false_or, or_false, false_and, and_false, not_true_eq_false, not_false_eq_true] <;> first | omega | (simp only [Int32.lt_iff_toInt_lt, Int32.le_iff_toInt_le, Int32.reduceToInt, ← Int32.toInt_inj, true_and, and_true, or_true, true_or, false_or, or_false, false_and, and_false, not_true_eq_false, not_false_eq_true] <;> omega)), (by simp only [fe_73, mz_43, true_and, and_true, or_true, true_or, false_or, or_false, false_and, and_false, not_true_eq_false, not_false_eq_true] <;> first | omega | (simp only [Int32.lt_iff_toInt_lt, Int32.le_iff_toInt_le, Int32.reduceToInt, ← Int32.toInt_inj, true_and, and_true, or_true, true_or, false_or, or_false, false_and, and_false, not_true_eq_false, not_false_eq_true] <;> omega)), (by simp only [fe_74, mz_44, true_and, and_true, or_true, true_or, false_or, or_false, false_and, and_false, not_true_eq_false, not_false_eq_true] <;> first | omega | (simp only [Int32.lt_iff_toInt_lt, Int32.le_iff_toInt_le, Int32.reduceToInt, ← Int32.toInt_inj, true_and, and_true, or_true, true_or, false_or, or_false, false_and, and_false, not_true_eq_false, not_false_eq_true] <;> omega))⟩
set_option maxRecDepth 100000 in
set_option maxHeartbeats 1500000 in
theorem p_X12_ends {l : Launch} {E : Ez} {L : List Nat} {f : Nat → va_E} {T : Nat → va_E → Prop} {a_0 : Nat} {q : Nat → Nat} (hW : WT T L f) (k_0 : isM T L E a_0 q) : CV l yX12_ends cX12_ends 1 2 0 0 E [.ref a_0] L f (fun L1 f1 => L = L1 ∧ WT T L f1 ∧ FR [12] f f1 ∧ (¬ fld (f1 a_0) 12 = 0 ∨ fld (f a_0) 12 = 0) ∧ (¬ fld (f1 a_0) 12 = 0 ∨ (fld (f a_0) 10 = 3 ∧ fld (f a_0) 8 ≤ fld (f1 a_0) 9 ∧ fld (f1 a_0) 9 ≤ fld (f1 a_0) 8)) ∧ (¬ fld (f1 a_0) 12 = 0 ∨ fld (f1 a_0) 10 = 0 ∨ fld (f1 a_0) 9 < fld (f1 a_0) 8) ∧ fld (f1 a_0) 20 = fld (f a_0) 20) := by
  refine cv_of (by decide) (Nat.le_of_ble_eq_true rfl) (fun z hz hnm hC hR => ?_)
  have hC : Cx z E cX12_ends RX12 1 2 0 0 := hC
  subst hz
  show V z E 1 0 0 L f 0 [(0, .ref a_0)] []
  obtain ⟨m_1, t_2, nq_21, k_3, k_4, k_5, k_6, k_7, k_8, k_9, k_10, k_11, k_12, k_13, k_14, k_15, k_16, k_17, k_18, k_19, k_20⟩ := id k_0
  obtain ⟨v_23, v_24, v_26, v_28, v_30, v_32, v_34, v_35, v_36, v_37, v_39, e_22, b_25, b_27, b_29, b_31, b_33, b_38, b_40⟩ := hW.at m_1 t_2
  have mz_41 : fld (f a_0) 8 = v_28.toInt := by rw [e_22]; rfl
  have mz_42 : fld (f a_0) 10 = v_32.toInt := by rw [e_22]; rfl
  have mz_43 : fld (f a_0) 12 = v_35.toInt := by rw [e_22]; rfl
  have mz_44 : fld (f a_0) 20 = v_39.toInt := by rw [e_22]; rfl
  refine v_aload_n hC dX12_ends_0 rfl ?_
  refine v_vi hC (rest := []) m_1 e_22 rfl mi_X12_good ms_X12_good (p_X12_good hW k_0) mx_X12_good ml_X12_139 (by decide) rfl (cells1 := 0) (slots1 := 0) (by decide) (by decide) (Nat.le_of_ble_eq_true rfl) (Nat.le_of_ble_eq_true rfl) rfl (Nat.le_of_ble_eq_true rfl) dX12_ends_1 (fun r_45 L_46 f_47 h_48 => ?_)
  obtain ⟨rfl, rfl, b_49, x_50⟩ := h_48
  have fe_53 : fld (f a_0) 12 = (v_35 : Int32).toInt := by rw [e_22]; rfl
  rw [fe_53] at x_50
  clear fe_53
  try simp only [Int32.reduceToInt, Int64.reduceToInt] at x_50
  refine v_if_eq hC dX12_ends_4 (tgt := 20) (by decide) (fun h_54 => ?_) (fun h_54 => ?_)
  · simp only [Int32.lt_iff_toInt_lt, Int32.le_iff_toInt_le, Int32.reduceToInt, ← Int32.toInt_inj] at h_54
    refine v_aload_n hC dX12_ends_20 rfl ?_
    refine v_vi hC (rest := []) m_1 e_22 rfl mi_X12_good ms_X12_good (p_X12_good hW k_0) mx_X12_good ml_X12_139 (by decide) rfl (cells1 := 0) (slots1 := 0) (by decide) (by decide) (Nat.le_of_ble_eq_true rfl) (Nat.le_of_ble_eq_true rfl) rfl (Nat.le_of_ble_eq_true rfl) dX12_ends_21 (fun r_55 L_56 f_57 h_58 => ?_)
    obtain ⟨rfl, rfl, b_59, x_60⟩ := h_58
    have fe_63 : fld (f a_0) 12 = (v_35 : Int32).toInt := by rw [e_22]; rfl
    rw [fe_63] at x_60
    clear fe_63
    try simp only [Int32.reduceToInt, Int64.reduceToInt] at x_60
    refine v_if_eq hC dX12_ends_24 (tgt := 31) (by decide) (fun h_64 => ?_) (fun h_64 => ?_)
    · simp only [Int32.lt_iff_toInt_lt, Int32.le_iff_toInt_le, Int32.reduceToInt, ← Int32.toInt_inj] at h_64
      have fe_65 : fld (f a_0) 12 = (v_35 : Int32).toInt := by rw [e_22]; rfl
      have fe_66 : fld (f a_0) 8 = (v_28 : Int32).toInt := by rw [e_22]; rfl
      have fe_67 : fld (f a_0) 9 = (v_30 : Int32).toInt := by rw [e_22]; rfl
      have fe_68 : fld (f a_0) 12 = (v_35 : Int32).toInt := by rw [e_22]; rfl
      have fe_69 : fld (f a_0) 8 = (v_28 : Int32).toInt := by rw [e_22]; rfl
      have fe_70 : fld (f a_0) 9 = (v_30 : Int32).toInt := by rw [e_22]; rfl
      have fe_71 : fld (f a_0) 10 = (v_32 : Int32).toInt := by rw [e_22]; rfl
      have fe_72 : fld (f a_0) 12 = (v_35 : Int32).toInt := by rw [e_22]; rfl
      have fe_73 : fld (f a_0) 20 = (v_39 : Int32).toInt := by rw [e_22]; rfl
      exact hR _ _ _ _ _ _ dX12_ends_31 (Nat.le_of_ble_eq_true rfl) (Nat.le_of_ble_eq_true rfl) ⟨rfl, hW, FR.rf, (by simp only [fe_65, mz_43, true_and, and_true, or_true, true_or, false_or, or_false, false_and, and_false, not_true_eq_false, not_false_eq_true] <;> first | omega | (simp only [Int32.lt_iff_toInt_lt, Int32.le_iff_toInt_le, Int32.reduceToInt, ← Int32.toInt_inj, true_and, and_true, or_true, true_or, false_or, or_false, false_and, and_false, not_true_eq_false, not_false_eq_true] <;> omega)), (by simp only [fe_66, fe_67, fe_68, mz_41, mz_42, true_and, and_true, or_true, true_or, false_or, or_false, false_and, and_false, not_true_eq_false, not_false_eq_true] <;> first | omega | (simp only [Int32.lt_iff_toInt_lt, Int32.le_iff_toInt_le, Int32.reduceToInt, ← Int32.toInt_inj, true_and, and_true, or_true, true_or, false_or, or_false, false_and, and_false, not_true_eq_false, not_false_eq_true] <;> omega)), (by simp only [fe_69, fe_70, fe_71, fe_72, true_and, and_true, or_true, true_or, false_or, or_false, false_and, and_false, not_true_eq_false, not_false_eq_true] <;> first | omega | (simp only [Int32.lt_iff_toInt_lt, Int32.le_iff_toInt_le, Int32.reduceToInt, ← Int32.toInt_inj, true_and, and_true, or_true, true_or, false_or, or_false, false_and, and_false, not_true_eq_false, not_false_eq_true] <;> omega)), (by simp only [fe_73, mz_44, true_and, and_true, or_true, true_or, false_or, or_false, false_and, and_false, not_true_eq_false, not_false_eq_true] <;> first | omega | (simp only [Int32.lt_iff_toInt_lt, Int32.le_iff_toInt_le, Int32.reduceToInt, ← Int32.toInt_inj, true_and, and_true, or_true, true_or, false_or, or_false, false_and, and_false, not_true_eq_false, not_false_eq_true] <;> omega))⟩
    · simp only [Int32.lt_iff_toInt_lt, Int32.le_iff_toInt_le, Int32.reduceToInt, ← Int32.toInt_inj] at h_64
      refine v_aload_n hC dX12_ends_27 rfl ?_
      refine v_vv hC (rest := []) m_1 e_22 rfl mi_X12_advance ms_X12_advance (p_X12_advance hW k_0) mx_X12_advance ml_X12_156 (by decide) rfl (cells1 := 0) (slots1 := 0) (by decide) (by decide) (Nat.le_of_ble_eq_true rfl) (Nat.le_of_ble_eq_true rfl) rfl (Nat.le_of_ble_eq_true rfl) dX12_ends_28 (fun L_75 f_76 h_77 => ?_)
      obtain ⟨rfl, hW_82, hF_83, x_78, x_79, x_80, x_81⟩ := h_77
      have fe_84 : fld (f a_0) 8 = (v_28 : Int32).toInt := by rw [e_22]; rfl
      have fe_85 : fld (f a_0) 12 = (v_35 : Int32).toInt := by rw [e_22]; rfl
      have fe_86 : fld (f a_0) 20 = (v_39 : Int32).toInt := by rw [e_22]; rfl
      obtain ⟨v_88, v_89, v_91, v_93, v_95, v_97, v_99, v_100, v_101, v_102, v_104, e_87, b_90, b_92, b_94, b_96, b_98, b_103, b_105⟩ := hW_82.at m_1 t_2
      have fe_106 : fld (f_76 a_0) 8 = (v_93 : Int32).toInt := by rw [e_87]; rfl
      have fe_107 : fld (f_76 a_0) 9 = (v_95 : Int32).toInt := by rw [e_87]; rfl
      have fe_108 : fld (f_76 a_0) 10 = (v_97 : Int32).toInt := by rw [e_87]; rfl
      have fe_109 : fld (f_76 a_0) 12 = (v_100 : Int32).toInt := by rw [e_87]; rfl
      have fe_110 : fld (f_76 a_0) 20 = (v_104 : Int32).toInt := by rw [e_87]; rfl
      rw [fe_84, fe_107, fe_106] at x_78
      rw [fe_108, fe_107, fe_106] at x_79
      rw [fe_109, fe_85] at x_80
      rw [fe_110, fe_86] at x_81
      clear fe_84 fe_85 fe_86 fe_106 fe_107 fe_108 fe_109 fe_110
      have fe_111 : fld (f_76 a_0) 12 = (v_100 : Int32).toInt := by rw [e_87]; rfl
      have fe_112 : fld (f_76 a_0) 8 = (v_93 : Int32).toInt := by rw [e_87]; rfl
      have fe_113 : fld (f_76 a_0) 9 = (v_95 : Int32).toInt := by rw [e_87]; rfl
      have fe_114 : fld (f_76 a_0) 12 = (v_100 : Int32).toInt := by rw [e_87]; rfl
      have fe_115 : fld (f_76 a_0) 8 = (v_93 : Int32).toInt := by rw [e_87]; rfl
      have fe_116 : fld (f_76 a_0) 9 = (v_95 : Int32).toInt := by rw [e_87]; rfl
      have fe_117 : fld (f_76 a_0) 10 = (v_97 : Int32).toInt := by rw [e_87]; rfl
      have fe_118 : fld (f_76 a_0) 12 = (v_100 : Int32).toInt := by rw [e_87]; rfl
      have fe_119 : fld (f_76 a_0) 20 = (v_104 : Int32).toInt := by rw [e_87]; rfl
      exact hR _ _ _ _ _ _ dX12_ends_31 (Nat.le_of_ble_eq_true rfl) (Nat.le_of_ble_eq_true rfl) ⟨rfl, hW_82, (hF_83.mono rfl), (by simp only [fe_111, mz_43, true_and, and_true, or_true, true_or, false_or, or_false, false_and, and_false, not_true_eq_false, not_false_eq_true] <;> first | omega | (simp only [Int32.lt_iff_toInt_lt, Int32.le_iff_toInt_le, Int32.reduceToInt, ← Int32.toInt_inj, true_and, and_true, or_true, true_or, false_or, or_false, false_and, and_false, not_true_eq_false, not_false_eq_true] <;> omega)), (by simp only [fe_112, fe_113, fe_114, mz_41, mz_42, true_and, and_true, or_true, true_or, false_or, or_false, false_and, and_false, not_true_eq_false, not_false_eq_true] <;> first | omega | (simp only [Int32.lt_iff_toInt_lt, Int32.le_iff_toInt_le, Int32.reduceToInt, ← Int32.toInt_inj, true_and, and_true, or_true, true_or, false_or, or_false, false_and, and_false, not_true_eq_false, not_false_eq_true] <;> omega)), (by simp only [fe_115, fe_116, fe_117, fe_118, true_and, and_true, or_true, true_or, false_or, or_false, false_and, and_false, not_true_eq_false, not_false_eq_true] <;> first | omega | (simp only [Int32.lt_iff_toInt_lt, Int32.le_iff_toInt_le, Int32.reduceToInt, ← Int32.toInt_inj, true_and, and_true, or_true, true_or, false_or, or_false, false_and, and_false, not_true_eq_false, not_false_eq_true] <;> omega)), (by simp only [fe_119, mz_44, true_and, and_true, or_true, true_or, false_or, or_false, false_and, and_false, not_true_eq_false, not_false_eq_true] <;> first | omega | (simp only [Int32.lt_iff_toInt_lt, Int32.le_iff_toInt_le, Int32.reduceToInt, ← Int32.toInt_inj, true_and, and_true, or_true, true_or, false_or, or_false, false_and, and_false, not_true_eq_false, not_false_eq_true] <;> omega))⟩
  · simp only [Int32.lt_iff_toInt_lt, Int32.le_iff_toInt_le, Int32.reduceToInt, ← Int32.toInt_inj] at h_54
    refine v_aload_n hC dX12_ends_7 rfl ?_
    refine v_get hC fl_X12_120 m_1 e_22 rfl dX12_ends_8 ?_
    refine v_iconst hC dX12_ends_11 (v := 3) (by decide) ?_
    refine v_icmp_eq hC dX12_ends_12 (tgt := 20) (by decide) (fun h_120 => ?_) (fun h_120 => ?_)
    · simp only [Int32.lt_iff_toInt_lt, Int32.le_iff_toInt_le, Int32.reduceToInt, ← Int32.toInt_inj] at h_120
      refine v_aload_n hC dX12_ends_20 rfl ?_
      refine v_vi hC (rest := []) m_1 e_22 rfl mi_X12_good ms_X12_good (p_X12_good hW k_0) mx_X12_good ml_X12_139 (by decide) rfl (cells1 := 0) (slots1 := 0) (by decide) (by decide) (Nat.le_of_ble_eq_true rfl) (Nat.le_of_ble_eq_true rfl) rfl (Nat.le_of_ble_eq_true rfl) dX12_ends_21 (fun r_121 L_122 f_123 h_124 => ?_)
      obtain ⟨rfl, rfl, b_125, x_126⟩ := h_124
      have fe_129 : fld (f a_0) 12 = (v_35 : Int32).toInt := by rw [e_22]; rfl
      rw [fe_129] at x_126
      clear fe_129
      try simp only [Int32.reduceToInt, Int64.reduceToInt] at x_126
      refine v_if_eq hC dX12_ends_24 (tgt := 31) (by decide) (fun h_130 => ?_) (fun h_130 => ?_)
      · simp only [Int32.lt_iff_toInt_lt, Int32.le_iff_toInt_le, Int32.reduceToInt, ← Int32.toInt_inj] at h_130
        have fe_131 : fld (f a_0) 12 = (v_35 : Int32).toInt := by rw [e_22]; rfl
        have fe_132 : fld (f a_0) 8 = (v_28 : Int32).toInt := by rw [e_22]; rfl
        have fe_133 : fld (f a_0) 9 = (v_30 : Int32).toInt := by rw [e_22]; rfl
        have fe_134 : fld (f a_0) 12 = (v_35 : Int32).toInt := by rw [e_22]; rfl
        have fe_135 : fld (f a_0) 8 = (v_28 : Int32).toInt := by rw [e_22]; rfl
        have fe_136 : fld (f a_0) 9 = (v_30 : Int32).toInt := by rw [e_22]; rfl
        have fe_137 : fld (f a_0) 10 = (v_32 : Int32).toInt := by rw [e_22]; rfl
        have fe_138 : fld (f a_0) 12 = (v_35 : Int32).toInt := by rw [e_22]; rfl
        have fe_139 : fld (f a_0) 20 = (v_39 : Int32).toInt := by rw [e_22]; rfl
        exact hR _ _ _ _ _ _ dX12_ends_31 (Nat.le_of_ble_eq_true rfl) (Nat.le_of_ble_eq_true rfl) ⟨rfl, hW, FR.rf, (by simp only [fe_131, mz_43, true_and, and_true, or_true, true_or, false_or, or_false, false_and, and_false, not_true_eq_false, not_false_eq_true] <;> first | omega | (simp only [Int32.lt_iff_toInt_lt, Int32.le_iff_toInt_le, Int32.reduceToInt, ← Int32.toInt_inj, true_and, and_true, or_true, true_or, false_or, or_false, false_and, and_false, not_true_eq_false, not_false_eq_true] <;> omega)), (by simp only [fe_132, fe_133, fe_134, mz_41, mz_42, true_and, and_true, or_true, true_or, false_or, or_false, false_and, and_false, not_true_eq_false, not_false_eq_true] <;> first | omega | (simp only [Int32.lt_iff_toInt_lt, Int32.le_iff_toInt_le, Int32.reduceToInt, ← Int32.toInt_inj, true_and, and_true, or_true, true_or, false_or, or_false, false_and, and_false, not_true_eq_false, not_false_eq_true] <;> omega)), (by simp only [fe_135, fe_136, fe_137, fe_138, true_and, and_true, or_true, true_or, false_or, or_false, false_and, and_false, not_true_eq_false, not_false_eq_true] <;> first | omega | (simp only [Int32.lt_iff_toInt_lt, Int32.le_iff_toInt_le, Int32.reduceToInt, ← Int32.toInt_inj, true_and, and_true, or_true, true_or, false_or, or_false, false_and, and_false, not_true_eq_false, not_false_eq_true] <;> omega)), (by simp only [fe_139, mz_44, true_and, and_true, or_true, true_or, false_or, or_false, false_and, and_false, not_true_eq_false, not_false_eq_true] <;> first | omega | (simp only [Int32.lt_iff_toInt_lt, Int32.le_iff_toInt_le, Int32.reduceToInt, ← Int32.toInt_inj, true_and, and_true, or_true, true_or, false_or, or_false, false_and, and_false, not_true_eq_false, not_false_eq_true] <;> omega))⟩
      · simp only [Int32.lt_iff_toInt_lt, Int32.le_iff_toInt_le, Int32.reduceToInt, ← Int32.toInt_inj] at h_130
        refine v_aload_n hC dX12_ends_27 rfl ?_
        refine v_vv hC (rest := []) m_1 e_22 rfl mi_X12_advance ms_X12_advance (p_X12_advance hW k_0) mx_X12_advance ml_X12_156 (by decide) rfl (cells1 := 0) (slots1 := 0) (by decide) (by decide) (Nat.le_of_ble_eq_true rfl) (Nat.le_of_ble_eq_true rfl) rfl (Nat.le_of_ble_eq_true rfl) dX12_ends_28 (fun L_141 f_142 h_143 => ?_)
        obtain ⟨rfl, hW_148, hF_149, x_144, x_145, x_146, x_147⟩ := h_143
        have fe_150 : fld (f a_0) 8 = (v_28 : Int32).toInt := by rw [e_22]; rfl
        have fe_151 : fld (f a_0) 12 = (v_35 : Int32).toInt := by rw [e_22]; rfl
        have fe_152 : fld (f a_0) 20 = (v_39 : Int32).toInt := by rw [e_22]; rfl
        obtain ⟨v_154, v_155, v_157, v_159, v_161, v_163, v_165, v_166, v_167, v_168, v_170, e_153, b_156, b_158, b_160, b_162, b_164, b_169, b_171⟩ := hW_148.at m_1 t_2
        have fe_172 : fld (f_142 a_0) 8 = (v_159 : Int32).toInt := by rw [e_153]; rfl
        have fe_173 : fld (f_142 a_0) 9 = (v_161 : Int32).toInt := by rw [e_153]; rfl
        have fe_174 : fld (f_142 a_0) 10 = (v_163 : Int32).toInt := by rw [e_153]; rfl
        have fe_175 : fld (f_142 a_0) 12 = (v_166 : Int32).toInt := by rw [e_153]; rfl
        have fe_176 : fld (f_142 a_0) 20 = (v_170 : Int32).toInt := by rw [e_153]; rfl
        rw [fe_150, fe_173, fe_172] at x_144
        rw [fe_174, fe_173, fe_172] at x_145
        rw [fe_175, fe_151] at x_146
        rw [fe_176, fe_152] at x_147
        clear fe_150 fe_151 fe_152 fe_172 fe_173 fe_174 fe_175 fe_176
        have fe_177 : fld (f_142 a_0) 12 = (v_166 : Int32).toInt := by rw [e_153]; rfl
        have fe_178 : fld (f_142 a_0) 8 = (v_159 : Int32).toInt := by rw [e_153]; rfl
        have fe_179 : fld (f_142 a_0) 9 = (v_161 : Int32).toInt := by rw [e_153]; rfl
        have fe_180 : fld (f_142 a_0) 12 = (v_166 : Int32).toInt := by rw [e_153]; rfl
        have fe_181 : fld (f_142 a_0) 8 = (v_159 : Int32).toInt := by rw [e_153]; rfl
        have fe_182 : fld (f_142 a_0) 9 = (v_161 : Int32).toInt := by rw [e_153]; rfl
        have fe_183 : fld (f_142 a_0) 10 = (v_163 : Int32).toInt := by rw [e_153]; rfl
        have fe_184 : fld (f_142 a_0) 12 = (v_166 : Int32).toInt := by rw [e_153]; rfl
        have fe_185 : fld (f_142 a_0) 20 = (v_170 : Int32).toInt := by rw [e_153]; rfl
        exact hR _ _ _ _ _ _ dX12_ends_31 (Nat.le_of_ble_eq_true rfl) (Nat.le_of_ble_eq_true rfl) ⟨rfl, hW_148, (hF_149.mono rfl), (by simp only [fe_177, mz_43, true_and, and_true, or_true, true_or, false_or, or_false, false_and, and_false, not_true_eq_false, not_false_eq_true] <;> first | omega | (simp only [Int32.lt_iff_toInt_lt, Int32.le_iff_toInt_le, Int32.reduceToInt, ← Int32.toInt_inj, true_and, and_true, or_true, true_or, false_or, or_false, false_and, and_false, not_true_eq_false, not_false_eq_true] <;> omega)), (by simp only [fe_178, fe_179, fe_180, mz_41, mz_42, true_and, and_true, or_true, true_or, false_or, or_false, false_and, and_false, not_true_eq_false, not_false_eq_true] <;> first | omega | (simp only [Int32.lt_iff_toInt_lt, Int32.le_iff_toInt_le, Int32.reduceToInt, ← Int32.toInt_inj, true_and, and_true, or_true, true_or, false_or, or_false, false_and, and_false, not_true_eq_false, not_false_eq_true] <;> omega)), (by simp only [fe_181, fe_182, fe_183, fe_184, true_and, and_true, or_true, true_or, false_or, or_false, false_and, and_false, not_true_eq_false, not_false_eq_true] <;> first | omega | (simp only [Int32.lt_iff_toInt_lt, Int32.le_iff_toInt_le, Int32.reduceToInt, ← Int32.toInt_inj, true_and, and_true, or_true, true_or, false_or, or_false, false_and, and_false, not_true_eq_false, not_false_eq_true] <;> omega)), (by simp only [fe_185, mz_44, true_and, and_true, or_true, true_or, false_or, or_false, false_and, and_false, not_true_eq_false, not_false_eq_true] <;> first | omega | (simp only [Int32.lt_iff_toInt_lt, Int32.le_iff_toInt_le, Int32.reduceToInt, ← Int32.toInt_inj, true_and, and_true, or_true, true_or, false_or, or_false, false_and, and_false, not_true_eq_false, not_false_eq_true] <;> omega))⟩
    · simp only [Int32.lt_iff_toInt_lt, Int32.le_iff_toInt_le, Int32.reduceToInt, ← Int32.toInt_inj] at h_120
      refine v_aload_n hC dX12_ends_15 rfl ?_
      refine v_iconst hC dX12_ends_16 (v := 1) (by decide) ?_
      refine v_vv hC (rest := []) m_1 e_22 rfl mi_X12_errs ms_X12_errs (p_X12_errs hW k_0 (by decide)) mx_X12_errs ml_X12_162 (by decide) rfl (cells1 := 0) (slots1 := 0) (by decide) (by decide) (Nat.le_of_ble_eq_true rfl) (Nat.le_of_ble_eq_true rfl) rfl (Nat.le_of_ble_eq_true rfl) dX12_ends_17 (fun L_187 f_188 h_189 => ?_)
      obtain ⟨rfl, hW_195, hF_196, x_190, x_191, x_192, x_193, x_194⟩ := h_189
      have fe_197 : fld (f a_0) 8 = (v_28 : Int32).toInt := by rw [e_22]; rfl
      have fe_198 : fld (f a_0) 9 = (v_30 : Int32).toInt := by rw [e_22]; rfl
      have fe_199 : fld (f a_0) 10 = (v_32 : Int32).toInt := by rw [e_22]; rfl
      have fe_200 : fld (f a_0) 20 = (v_39 : Int32).toInt := by rw [e_22]; rfl
      obtain ⟨v_202, v_203, v_205, v_207, v_209, v_211, v_213, v_214, v_215, v_216, v_218, e_201, b_204, b_206, b_208, b_210, b_212, b_217, b_219⟩ := hW_195.at m_1 t_2
      have fe_220 : fld (f_188 a_0) 8 = (v_207 : Int32).toInt := by rw [e_201]; rfl
      have fe_221 : fld (f_188 a_0) 9 = (v_209 : Int32).toInt := by rw [e_201]; rfl
      have fe_222 : fld (f_188 a_0) 10 = (v_211 : Int32).toInt := by rw [e_201]; rfl
      have fe_223 : fld (f_188 a_0) 12 = (v_214 : Int32).toInt := by rw [e_201]; rfl
      have fe_224 : fld (f_188 a_0) 20 = (v_218 : Int32).toInt := by rw [e_201]; rfl
      rw [fe_223] at x_190
      rw [fe_220, fe_197] at x_191
      rw [fe_221, fe_198] at x_192
      rw [fe_222, fe_199] at x_193
      rw [fe_224, fe_200] at x_194
      clear fe_197 fe_198 fe_199 fe_200 fe_220 fe_221 fe_222 fe_223 fe_224
      refine v_aload_n hC dX12_ends_20 rfl ?_
      refine v_vi hC (rest := []) m_1 e_201 rfl mi_X12_good ms_X12_good (p_X12_good hW_195 k_0) mx_X12_good ml_X12_139 (by decide) rfl (cells1 := 0) (slots1 := 0) (by decide) (by decide) (Nat.le_of_ble_eq_true rfl) (Nat.le_of_ble_eq_true rfl) rfl (Nat.le_of_ble_eq_true rfl) dX12_ends_21 (fun r_225 L_226 f_227 h_228 => ?_)
      obtain ⟨rfl, rfl, b_229, x_230⟩ := h_228
      have fe_233 : fld (f_188 a_0) 12 = (v_214 : Int32).toInt := by rw [e_201]; rfl
      rw [fe_233] at x_230
      clear fe_233
      try simp only [Int32.reduceToInt, Int64.reduceToInt] at x_230
      refine v_if_eq hC dX12_ends_24 (tgt := 31) (by decide) (fun h_234 => ?_) (fun h_234 => ?_)
      · simp only [Int32.lt_iff_toInt_lt, Int32.le_iff_toInt_le, Int32.reduceToInt, ← Int32.toInt_inj] at h_234
        have fe_235 : fld (f_188 a_0) 12 = (v_214 : Int32).toInt := by rw [e_201]; rfl
        have fe_236 : fld (f_188 a_0) 8 = (v_207 : Int32).toInt := by rw [e_201]; rfl
        have fe_237 : fld (f_188 a_0) 9 = (v_209 : Int32).toInt := by rw [e_201]; rfl
        have fe_238 : fld (f_188 a_0) 12 = (v_214 : Int32).toInt := by rw [e_201]; rfl
        have fe_239 : fld (f_188 a_0) 8 = (v_207 : Int32).toInt := by rw [e_201]; rfl
        have fe_240 : fld (f_188 a_0) 9 = (v_209 : Int32).toInt := by rw [e_201]; rfl
        have fe_241 : fld (f_188 a_0) 10 = (v_211 : Int32).toInt := by rw [e_201]; rfl
        have fe_242 : fld (f_188 a_0) 12 = (v_214 : Int32).toInt := by rw [e_201]; rfl
        have fe_243 : fld (f_188 a_0) 20 = (v_218 : Int32).toInt := by rw [e_201]; rfl
        exact hR _ _ _ _ _ _ dX12_ends_31 (Nat.le_of_ble_eq_true rfl) (Nat.le_of_ble_eq_true rfl) ⟨rfl, hW_195, (hF_196.mono rfl), (by simp only [fe_235, mz_43, true_and, and_true, or_true, true_or, false_or, or_false, false_and, and_false, not_true_eq_false, not_false_eq_true] <;> first | omega | (simp only [Int32.lt_iff_toInt_lt, Int32.le_iff_toInt_le, Int32.reduceToInt, ← Int32.toInt_inj, true_and, and_true, or_true, true_or, false_or, or_false, false_and, and_false, not_true_eq_false, not_false_eq_true] <;> omega)), (by simp only [fe_236, fe_237, fe_238, mz_41, mz_42, true_and, and_true, or_true, true_or, false_or, or_false, false_and, and_false, not_true_eq_false, not_false_eq_true] <;> first | omega | (simp only [Int32.lt_iff_toInt_lt, Int32.le_iff_toInt_le, Int32.reduceToInt, ← Int32.toInt_inj, true_and, and_true, or_true, true_or, false_or, or_false, false_and, and_false, not_true_eq_false, not_false_eq_true] <;> omega)), (by simp only [fe_239, fe_240, fe_241, fe_242, true_and, and_true, or_true, true_or, false_or, or_false, false_and, and_false, not_true_eq_false, not_false_eq_true] <;> first | omega | (simp only [Int32.lt_iff_toInt_lt, Int32.le_iff_toInt_le, Int32.reduceToInt, ← Int32.toInt_inj, true_and, and_true, or_true, true_or, false_or, or_false, false_and, and_false, not_true_eq_false, not_false_eq_true] <;> omega)), (by simp only [fe_243, mz_44, true_and, and_true, or_true, true_or, false_or, or_false, false_and, and_false, not_true_eq_false, not_false_eq_true] <;> first | omega | (simp only [Int32.lt_iff_toInt_lt, Int32.le_iff_toInt_le, Int32.reduceToInt, ← Int32.toInt_inj, true_and, and_true, or_true, true_or, false_or, or_false, false_and, and_false, not_true_eq_false, not_false_eq_true] <;> omega))⟩
      · simp only [Int32.lt_iff_toInt_lt, Int32.le_iff_toInt_le, Int32.reduceToInt, ← Int32.toInt_inj] at h_234
        refine v_aload_n hC dX12_ends_27 rfl ?_
        refine v_vv hC (rest := []) m_1 e_201 rfl mi_X12_advance ms_X12_advance (p_X12_advance hW_195 k_0) mx_X12_advance ml_X12_156 (by decide) rfl (cells1 := 0) (slots1 := 0) (by decide) (by decide) (Nat.le_of_ble_eq_true rfl) (Nat.le_of_ble_eq_true rfl) rfl (Nat.le_of_ble_eq_true rfl) dX12_ends_28 (fun L_245 f_246 h_247 => ?_)
        obtain ⟨rfl, hW_252, hF_253, x_248, x_249, x_250, x_251⟩ := h_247
        have fe_254 : fld (f_188 a_0) 8 = (v_207 : Int32).toInt := by rw [e_201]; rfl
        have fe_255 : fld (f_188 a_0) 12 = (v_214 : Int32).toInt := by rw [e_201]; rfl
        have fe_256 : fld (f_188 a_0) 20 = (v_218 : Int32).toInt := by rw [e_201]; rfl
        obtain ⟨v_258, v_259, v_261, v_263, v_265, v_267, v_269, v_270, v_271, v_272, v_274, e_257, b_260, b_262, b_264, b_266, b_268, b_273, b_275⟩ := hW_252.at m_1 t_2
        have fe_276 : fld (f_246 a_0) 8 = (v_263 : Int32).toInt := by rw [e_257]; rfl
        have fe_277 : fld (f_246 a_0) 9 = (v_265 : Int32).toInt := by rw [e_257]; rfl
        have fe_278 : fld (f_246 a_0) 10 = (v_267 : Int32).toInt := by rw [e_257]; rfl
        have fe_279 : fld (f_246 a_0) 12 = (v_270 : Int32).toInt := by rw [e_257]; rfl
        have fe_280 : fld (f_246 a_0) 20 = (v_274 : Int32).toInt := by rw [e_257]; rfl
        rw [fe_254, fe_277, fe_276] at x_248
        rw [fe_278, fe_277, fe_276] at x_249
        rw [fe_279, fe_255] at x_250
        rw [fe_280, fe_256] at x_251
        clear fe_254 fe_255 fe_256 fe_276 fe_277 fe_278 fe_279 fe_280
        have fe_281 : fld (f_246 a_0) 12 = (v_270 : Int32).toInt := by rw [e_257]; rfl
        have fe_282 : fld (f_246 a_0) 8 = (v_263 : Int32).toInt := by rw [e_257]; rfl
        have fe_283 : fld (f_246 a_0) 9 = (v_265 : Int32).toInt := by rw [e_257]; rfl
        have fe_284 : fld (f_246 a_0) 12 = (v_270 : Int32).toInt := by rw [e_257]; rfl
        have fe_285 : fld (f_246 a_0) 8 = (v_263 : Int32).toInt := by rw [e_257]; rfl
        have fe_286 : fld (f_246 a_0) 9 = (v_265 : Int32).toInt := by rw [e_257]; rfl
        have fe_287 : fld (f_246 a_0) 10 = (v_267 : Int32).toInt := by rw [e_257]; rfl
        have fe_288 : fld (f_246 a_0) 12 = (v_270 : Int32).toInt := by rw [e_257]; rfl
        have fe_289 : fld (f_246 a_0) 20 = (v_274 : Int32).toInt := by rw [e_257]; rfl
        exact hR _ _ _ _ _ _ dX12_ends_31 (Nat.le_of_ble_eq_true rfl) (Nat.le_of_ble_eq_true rfl) ⟨rfl, hW_252, ((hF_196.tr hF_253).mono rfl), (by simp only [fe_281, mz_43, true_and, and_true, or_true, true_or, false_or, or_false, false_and, and_false, not_true_eq_false, not_false_eq_true] <;> first | omega | (simp only [Int32.lt_iff_toInt_lt, Int32.le_iff_toInt_le, Int32.reduceToInt, ← Int32.toInt_inj, true_and, and_true, or_true, true_or, false_or, or_false, false_and, and_false, not_true_eq_false, not_false_eq_true] <;> omega)), (by simp only [fe_282, fe_283, fe_284, mz_41, mz_42, true_and, and_true, or_true, true_or, false_or, or_false, false_and, and_false, not_true_eq_false, not_false_eq_true] <;> first | omega | (simp only [Int32.lt_iff_toInt_lt, Int32.le_iff_toInt_le, Int32.reduceToInt, ← Int32.toInt_inj, true_and, and_true, or_true, true_or, false_or, or_false, false_and, and_false, not_true_eq_false, not_false_eq_true] <;> omega)), (by simp only [fe_285, fe_286, fe_287, fe_288, true_and, and_true, or_true, true_or, false_or, or_false, false_and, and_false, not_true_eq_false, not_false_eq_true] <;> first | omega | (simp only [Int32.lt_iff_toInt_lt, Int32.le_iff_toInt_le, Int32.reduceToInt, ← Int32.toInt_inj, true_and, and_true, or_true, true_or, false_or, or_false, false_and, and_false, not_true_eq_false, not_false_eq_true] <;> omega)), (by simp only [fe_289, mz_44, true_and, and_true, or_true, true_or, false_or, or_false, false_and, and_false, not_true_eq_false, not_false_eq_true] <;> first | omega | (simp only [Int32.lt_iff_toInt_lt, Int32.le_iff_toInt_le, Int32.reduceToInt, ← Int32.toInt_inj, true_and, and_true, or_true, true_or, false_or, or_false, false_and, and_false, not_true_eq_false, not_false_eq_true] <;> omega))⟩
set_option maxRecDepth 100000 in
set_option maxHeartbeats 1500000 in
theorem p_X12_number {l : Launch} {E : Ez} {L : List Nat} {f : Nat → va_E} {T : Nat → va_E → Prop} {a_0 : Nat} {a_1 : Int32} {a_2 : Int32} {q : Nat → Nat} (hW : WT T L f) (k_0 : isM T L E a_0 q) : CI l yX12_number cX12_number 4 .int 2 0 0 E [.ref a_0, .int a_1, .int a_2] L f (fun r L1 f1 => L = L1 ∧ WT T L f1 ∧ FR [12] f f1 ∧ (¬ fld (f1 a_0) 12 = 0 ∨ (fld (f a_0) 12 = 0 ∧ a_1.toInt ≤ r.toInt ∧ r.toInt ≤ a_2.toInt)) ∧ (¬ fld (f1 a_0) 12 = 0 ∨ (fld (f a_0) 10 = 2 ∧ fld (f a_0) 8 ≤ fld (f1 a_0) 9 ∧ fld (f1 a_0) 9 ≤ fld (f1 a_0) 8)) ∧ (¬ fld (f1 a_0) 12 = 0 ∨ fld (f1 a_0) 10 = 0 ∨ fld (f1 a_0) 9 < fld (f1 a_0) 8) ∧ (fld (f1 a_0) 12 = 0 ∨ r.toInt = 0) ∧ fld (f1 a_0) 20 = fld (f a_0) 20) := by
  refine ci_of (by decide) (Nat.le_of_ble_eq_true rfl) (fun z hz hnm hC hR => ?_)
  have hC : Cx z E cX12_number RX12 4 2 0 0 := hC
  subst hz
  show V z E 4 0 0 L f 0 [(0, .ref a_0), (1, .int a_1), (2, .int a_2)] []
  obtain ⟨m_1, t_2, nq_21, k_3, k_4, k_5, k_6, k_7, k_8, k_9, k_10, k_11, k_12, k_13, k_14, k_15, k_16, k_17, k_18, k_19, k_20⟩ := id k_0
  obtain ⟨v_23, v_24, v_26, v_28, v_30, v_32, v_34, v_35, v_36, v_37, v_39, e_22, b_25, b_27, b_29, b_31, b_33, b_38, b_40⟩ := hW.at m_1 t_2
  have mz_41 : fld (f a_0) 8 = v_28.toInt := by rw [e_22]; rfl
  have mz_42 : fld (f a_0) 10 = v_32.toInt := by rw [e_22]; rfl
  have mz_43 : fld (f a_0) 12 = v_35.toInt := by rw [e_22]; rfl
  have mz_44 : fld (f a_0) 20 = v_39.toInt := by rw [e_22]; rfl
  refine v_aload_n hC dX12_number_0 rfl ?_
  refine v_vi hC (rest := []) m_1 e_22 rfl mi_X12_good ms_X12_good (p_X12_good hW k_0) mx_X12_good ml_X12_139 (by decide) rfl (cells1 := 0) (slots1 := 0) (by decide) (by decide) (Nat.le_of_ble_eq_true rfl) (Nat.le_of_ble_eq_true rfl) rfl (Nat.le_of_ble_eq_true rfl) dX12_number_1 (fun r_45 L_46 f_47 h_48 => ?_)
  obtain ⟨rfl, rfl, b_49, x_50⟩ := h_48
  have fe_53 : fld (f a_0) 12 = (v_35 : Int32).toInt := by rw [e_22]; rfl
  rw [fe_53] at x_50
  clear fe_53
  try simp only [Int32.reduceToInt, Int64.reduceToInt] at x_50
  refine v_if_eq hC dX12_number_4 (tgt := 20) (by decide) (fun h_54 => ?_) (fun h_54 => ?_)
  · simp only [Int32.lt_iff_toInt_lt, Int32.le_iff_toInt_le, Int32.reduceToInt, ← Int32.toInt_inj] at h_54
    refine v_aload_n hC dX12_number_20 rfl ?_
    refine v_vi hC (rest := []) m_1 e_22 rfl mi_X12_good ms_X12_good (p_X12_good hW k_0) mx_X12_good ml_X12_139 (by decide) rfl (cells1 := 0) (slots1 := 0) (by decide) (by decide) (Nat.le_of_ble_eq_true rfl) (Nat.le_of_ble_eq_true rfl) rfl (Nat.le_of_ble_eq_true rfl) dX12_number_21 (fun r_55 L_56 f_57 h_58 => ?_)
    obtain ⟨rfl, rfl, b_59, x_60⟩ := h_58
    have fe_63 : fld (f a_0) 12 = (v_35 : Int32).toInt := by rw [e_22]; rfl
    rw [fe_63] at x_60
    clear fe_63
    try simp only [Int32.reduceToInt, Int64.reduceToInt] at x_60
    refine v_if_eq hC dX12_number_24 (tgt := 47) (by decide) (fun h_64 => ?_) (fun h_64 => ?_)
    · simp only [Int32.lt_iff_toInt_lt, Int32.le_iff_toInt_le, Int32.reduceToInt, ← Int32.toInt_inj] at h_64
      refine v_aload_n hC dX12_number_47 rfl ?_
      refine v_vi hC (rest := []) m_1 e_22 rfl mi_X12_good ms_X12_good (p_X12_good hW k_0) mx_X12_good ml_X12_139 (by decide) rfl (cells1 := 0) (slots1 := 0) (by decide) (by decide) (Nat.le_of_ble_eq_true rfl) (Nat.le_of_ble_eq_true rfl) rfl (Nat.le_of_ble_eq_true rfl) dX12_number_48 (fun r_65 L_66 f_67 h_68 => ?_)
      obtain ⟨rfl, rfl, b_69, x_70⟩ := h_68
      have fe_73 : fld (f a_0) 12 = (v_35 : Int32).toInt := by rw [e_22]; rfl
      rw [fe_73] at x_70
      clear fe_73
      try simp only [Int32.reduceToInt, Int64.reduceToInt] at x_70
      refine v_if_ne hC dX12_number_51 (tgt := 56) (by decide) (fun h_74 => ?_) (fun h_74 => ?_)
      · simp only [Int32.lt_iff_toInt_lt, Int32.le_iff_toInt_le, Int32.reduceToInt, ← Int32.toInt_inj] at h_74
        refine v_aload_n hC dX12_number_56 rfl ?_
        refine v_get hC fl_X12_131 m_1 e_22 rfl dX12_number_57 ?_
        refine v_istore_n hC dX12_number_60 (by decide) (lv' := [(3, .int v_34), (0, .ref a_0), (1, .int a_1), (2, .int a_2)]) rfl ?_
        refine v_aload_n hC dX12_number_61 rfl ?_
        refine v_vv hC (rest := []) m_1 e_22 rfl mi_X12_advance ms_X12_advance (p_X12_advance hW k_0) mx_X12_advance ml_X12_156 (by decide) rfl (cells1 := 0) (slots1 := 0) (by decide) (by decide) (Nat.le_of_ble_eq_true rfl) (Nat.le_of_ble_eq_true rfl) rfl (Nat.le_of_ble_eq_true rfl) dX12_number_62 (fun L_76 f_77 h_78 => ?_)
        obtain ⟨rfl, hW_83, hF_84, x_79, x_80, x_81, x_82⟩ := h_78
        have fe_85 : fld (f a_0) 8 = (v_28 : Int32).toInt := by rw [e_22]; rfl
        have fe_86 : fld (f a_0) 12 = (v_35 : Int32).toInt := by rw [e_22]; rfl
        have fe_87 : fld (f a_0) 20 = (v_39 : Int32).toInt := by rw [e_22]; rfl
        obtain ⟨v_89, v_90, v_92, v_94, v_96, v_98, v_100, v_101, v_102, v_103, v_105, e_88, b_91, b_93, b_95, b_97, b_99, b_104, b_106⟩ := hW_83.at m_1 t_2
        have fe_107 : fld (f_77 a_0) 8 = (v_94 : Int32).toInt := by rw [e_88]; rfl
        have fe_108 : fld (f_77 a_0) 9 = (v_96 : Int32).toInt := by rw [e_88]; rfl
        have fe_109 : fld (f_77 a_0) 10 = (v_98 : Int32).toInt := by rw [e_88]; rfl
        have fe_110 : fld (f_77 a_0) 12 = (v_101 : Int32).toInt := by rw [e_88]; rfl
        have fe_111 : fld (f_77 a_0) 20 = (v_105 : Int32).toInt := by rw [e_88]; rfl
        rw [fe_85, fe_108, fe_107] at x_79
        rw [fe_109, fe_108, fe_107] at x_80
        rw [fe_110, fe_86] at x_81
        rw [fe_111, fe_87] at x_82
        clear fe_85 fe_86 fe_87 fe_107 fe_108 fe_109 fe_110 fe_111
        refine v_iload_n hC dX12_number_65 rfl ?_
        have fe_112 : fld (f_77 a_0) 12 = (v_101 : Int32).toInt := by rw [e_88]; rfl
        have fe_113 : fld (f_77 a_0) 8 = (v_94 : Int32).toInt := by rw [e_88]; rfl
        have fe_114 : fld (f_77 a_0) 9 = (v_96 : Int32).toInt := by rw [e_88]; rfl
        have fe_115 : fld (f_77 a_0) 12 = (v_101 : Int32).toInt := by rw [e_88]; rfl
        have fe_116 : fld (f_77 a_0) 8 = (v_94 : Int32).toInt := by rw [e_88]; rfl
        have fe_117 : fld (f_77 a_0) 9 = (v_96 : Int32).toInt := by rw [e_88]; rfl
        have fe_118 : fld (f_77 a_0) 10 = (v_98 : Int32).toInt := by rw [e_88]; rfl
        have fe_119 : fld (f_77 a_0) 12 = (v_101 : Int32).toInt := by rw [e_88]; rfl
        have fe_120 : fld (f_77 a_0) 12 = (v_101 : Int32).toInt := by rw [e_88]; rfl
        have fe_121 : fld (f_77 a_0) 20 = (v_105 : Int32).toInt := by rw [e_88]; rfl
        exact hR _ _ _ _ _ _ _ dX12_number_66 rfl (Nat.le_of_ble_eq_true rfl) (Nat.le_of_ble_eq_true rfl) ⟨rfl, hW_83, (hF_84.mono rfl), (by simp only [fe_112, mz_43, true_and, and_true, or_true, true_or, false_or, or_false, false_and, and_false, not_true_eq_false, not_false_eq_true] <;> first | omega | (simp only [Int32.lt_iff_toInt_lt, Int32.le_iff_toInt_le, Int32.reduceToInt, ← Int32.toInt_inj, true_and, and_true, or_true, true_or, false_or, or_false, false_and, and_false, not_true_eq_false, not_false_eq_true] <;> omega)), (by simp only [fe_113, fe_114, fe_115, mz_41, mz_42, true_and, and_true, or_true, true_or, false_or, or_false, false_and, and_false, not_true_eq_false, not_false_eq_true] <;> first | omega | (simp only [Int32.lt_iff_toInt_lt, Int32.le_iff_toInt_le, Int32.reduceToInt, ← Int32.toInt_inj, true_and, and_true, or_true, true_or, false_or, or_false, false_and, and_false, not_true_eq_false, not_false_eq_true] <;> omega)), (by simp only [fe_116, fe_117, fe_118, fe_119, true_and, and_true, or_true, true_or, false_or, or_false, false_and, and_false, not_true_eq_false, not_false_eq_true] <;> first | omega | (simp only [Int32.lt_iff_toInt_lt, Int32.le_iff_toInt_le, Int32.reduceToInt, ← Int32.toInt_inj, true_and, and_true, or_true, true_or, false_or, or_false, false_and, and_false, not_true_eq_false, not_false_eq_true] <;> omega)), (by simp only [fe_120, true_and, and_true, or_true, true_or, false_or, or_false, false_and, and_false, not_true_eq_false, not_false_eq_true] <;> first | omega | (simp only [Int32.lt_iff_toInt_lt, Int32.le_iff_toInt_le, Int32.reduceToInt, ← Int32.toInt_inj, true_and, and_true, or_true, true_or, false_or, or_false, false_and, and_false, not_true_eq_false, not_false_eq_true] <;> omega)), (by simp only [fe_121, mz_44, true_and, and_true, or_true, true_or, false_or, or_false, false_and, and_false, not_true_eq_false, not_false_eq_true] <;> first | omega | (simp only [Int32.lt_iff_toInt_lt, Int32.le_iff_toInt_le, Int32.reduceToInt, ← Int32.toInt_inj, true_and, and_true, or_true, true_or, false_or, or_false, false_and, and_false, not_true_eq_false, not_false_eq_true] <;> omega))⟩
      · simp only [Int32.lt_iff_toInt_lt, Int32.le_iff_toInt_le, Int32.reduceToInt, ← Int32.toInt_inj] at h_74
        refine v_iconst hC dX12_number_54 (v := 0) (by decide) ?_
        have fe_122 : fld (f a_0) 12 = (v_35 : Int32).toInt := by rw [e_22]; rfl
        have fe_123 : fld (f a_0) 8 = (v_28 : Int32).toInt := by rw [e_22]; rfl
        have fe_124 : fld (f a_0) 9 = (v_30 : Int32).toInt := by rw [e_22]; rfl
        have fe_125 : fld (f a_0) 12 = (v_35 : Int32).toInt := by rw [e_22]; rfl
        have fe_126 : fld (f a_0) 8 = (v_28 : Int32).toInt := by rw [e_22]; rfl
        have fe_127 : fld (f a_0) 9 = (v_30 : Int32).toInt := by rw [e_22]; rfl
        have fe_128 : fld (f a_0) 10 = (v_32 : Int32).toInt := by rw [e_22]; rfl
        have fe_129 : fld (f a_0) 12 = (v_35 : Int32).toInt := by rw [e_22]; rfl
        have fe_130 : fld (f a_0) 12 = (v_35 : Int32).toInt := by rw [e_22]; rfl
        have fe_131 : fld (f a_0) 20 = (v_39 : Int32).toInt := by rw [e_22]; rfl
        exact hR _ _ _ _ _ _ _ dX12_number_55 rfl (Nat.le_of_ble_eq_true rfl) (Nat.le_of_ble_eq_true rfl) ⟨rfl, hW, FR.rf, (by simp only [fe_122, mz_43, true_and, and_true, or_true, true_or, false_or, or_false, false_and, and_false, not_true_eq_false, not_false_eq_true] <;> first | omega | (simp only [Int32.lt_iff_toInt_lt, Int32.le_iff_toInt_le, Int32.reduceToInt, ← Int32.toInt_inj, true_and, and_true, or_true, true_or, false_or, or_false, false_and, and_false, not_true_eq_false, not_false_eq_true] <;> omega)), (by simp only [fe_123, fe_124, fe_125, mz_41, mz_42, true_and, and_true, or_true, true_or, false_or, or_false, false_and, and_false, not_true_eq_false, not_false_eq_true] <;> first | omega | (simp only [Int32.lt_iff_toInt_lt, Int32.le_iff_toInt_le, Int32.reduceToInt, ← Int32.toInt_inj, true_and, and_true, or_true, true_or, false_or, or_false, false_and, and_false, not_true_eq_false, not_false_eq_true] <;> omega)), (by simp only [fe_126, fe_127, fe_128, fe_129, true_and, and_true, or_true, true_or, false_or, or_false, false_and, and_false, not_true_eq_false, not_false_eq_true] <;> first | omega | (simp only [Int32.lt_iff_toInt_lt, Int32.le_iff_toInt_le, Int32.reduceToInt, ← Int32.toInt_inj, true_and, and_true, or_true, true_or, false_or, or_false, false_and, and_false, not_true_eq_false, not_false_eq_true] <;> omega)), (by simp only [fe_130, true_and, and_true, or_true, true_or, false_or, or_false, false_and, and_false, not_true_eq_false, not_false_eq_true] <;> first | omega | (simp only [Int32.lt_iff_toInt_lt, Int32.le_iff_toInt_le, Int32.reduceToInt, ← Int32.toInt_inj, true_and, and_true, or_true, true_or, false_or, or_false, false_and, and_false, not_true_eq_false, not_false_eq_true] <;> omega)), (by simp only [fe_131, mz_44, true_and, and_true, or_true, true_or, false_or, or_false, false_and, and_false, not_true_eq_false, not_false_eq_true] <;> first | omega | (simp only [Int32.lt_iff_toInt_lt, Int32.le_iff_toInt_le, Int32.reduceToInt, ← Int32.toInt_inj, true_and, and_true, or_true, true_or, false_or, or_false, false_and, and_false, not_true_eq_false, not_false_eq_true] <;> omega))⟩
    · simp only [Int32.lt_iff_toInt_lt, Int32.le_iff_toInt_le, Int32.reduceToInt, ← Int32.toInt_inj] at h_64
      refine v_aload_n hC dX12_number_27 rfl ?_
      refine v_get hC fl_X12_131 m_1 e_22 rfl dX12_number_28 ?_
      obtain ⟨v_132, h_133⟩ : ∃ v9 : Int64, v_34.toInt64 = v9 := ⟨_, rfl⟩
      refine v_i2l hC dX12_number_31 h_133 ?_
      have h_134 : v_132.toInt = v_34.toInt := by rw [← h_133]; exact Int32.toInt_toInt64 _
      refine v_iload_n hC dX12_number_32 rfl ?_
      obtain ⟨v_135, h_136⟩ : ∃ v9 : Int64, a_1.toInt64 = v9 := ⟨_, rfl⟩
      refine v_i2l hC dX12_number_33 h_136 ?_
      have h_137 : v_135.toInt = a_1.toInt := by rw [← h_136]; exact Int32.toInt_toInt64 _
      refine v_iload_n hC dX12_number_34 rfl ?_
      obtain ⟨v_138, h_139⟩ : ∃ v9 : Int64, a_2.toInt64 = v9 := ⟨_, rfl⟩
      refine v_i2l hC dX12_number_35 h_139 ?_
      have h_140 : v_138.toInt = a_2.toInt := by rw [← h_139]; exact Int32.toInt_toInt64 _
      refine v_si hC (rest := []) mt_X12_in (p_X12_in hW) mx_X12_in ml_X12_79 (by decide) rfl (cells1 := 0) (slots1 := 0) (by decide) (by decide) (Nat.le_of_ble_eq_true rfl) (Nat.le_of_ble_eq_true rfl) rfl (Nat.le_of_ble_eq_true rfl) dX12_number_36 (fun r_141 L_142 f_143 h_144 => ?_)
      obtain ⟨rfl, rfl, b_145, x_146⟩ := h_144
      try simp only [Int32.reduceToInt, Int64.reduceToInt] at x_146
      refine v_if_ne hC dX12_number_39 (tgt := 47) (by decide) (fun h_149 => ?_) (fun h_149 => ?_)
      · simp only [Int32.lt_iff_toInt_lt, Int32.le_iff_toInt_le, Int32.reduceToInt, ← Int32.toInt_inj] at h_149
        refine v_aload_n hC dX12_number_47 rfl ?_
        refine v_vi hC (rest := []) m_1 e_22 rfl mi_X12_good ms_X12_good (p_X12_good hW k_0) mx_X12_good ml_X12_139 (by decide) rfl (cells1 := 0) (slots1 := 0) (by decide) (by decide) (Nat.le_of_ble_eq_true rfl) (Nat.le_of_ble_eq_true rfl) rfl (Nat.le_of_ble_eq_true rfl) dX12_number_48 (fun r_150 L_151 f_152 h_153 => ?_)
        obtain ⟨rfl, rfl, b_154, x_155⟩ := h_153
        have fe_158 : fld (f a_0) 12 = (v_35 : Int32).toInt := by rw [e_22]; rfl
        rw [fe_158] at x_155
        clear fe_158
        try simp only [Int32.reduceToInt, Int64.reduceToInt] at x_155
        refine v_if_ne hC dX12_number_51 (tgt := 56) (by decide) (fun h_159 => ?_) (fun h_159 => ?_)
        · simp only [Int32.lt_iff_toInt_lt, Int32.le_iff_toInt_le, Int32.reduceToInt, ← Int32.toInt_inj] at h_159
          refine v_aload_n hC dX12_number_56 rfl ?_
          refine v_get hC fl_X12_131 m_1 e_22 rfl dX12_number_57 ?_
          refine v_istore_n hC dX12_number_60 (by decide) (lv' := [(3, .int v_34), (0, .ref a_0), (1, .int a_1), (2, .int a_2)]) rfl ?_
          refine v_aload_n hC dX12_number_61 rfl ?_
          refine v_vv hC (rest := []) m_1 e_22 rfl mi_X12_advance ms_X12_advance (p_X12_advance hW k_0) mx_X12_advance ml_X12_156 (by decide) rfl (cells1 := 0) (slots1 := 0) (by decide) (by decide) (Nat.le_of_ble_eq_true rfl) (Nat.le_of_ble_eq_true rfl) rfl (Nat.le_of_ble_eq_true rfl) dX12_number_62 (fun L_161 f_162 h_163 => ?_)
          obtain ⟨rfl, hW_168, hF_169, x_164, x_165, x_166, x_167⟩ := h_163
          have fe_170 : fld (f a_0) 8 = (v_28 : Int32).toInt := by rw [e_22]; rfl
          have fe_171 : fld (f a_0) 12 = (v_35 : Int32).toInt := by rw [e_22]; rfl
          have fe_172 : fld (f a_0) 20 = (v_39 : Int32).toInt := by rw [e_22]; rfl
          obtain ⟨v_174, v_175, v_177, v_179, v_181, v_183, v_185, v_186, v_187, v_188, v_190, e_173, b_176, b_178, b_180, b_182, b_184, b_189, b_191⟩ := hW_168.at m_1 t_2
          have fe_192 : fld (f_162 a_0) 8 = (v_179 : Int32).toInt := by rw [e_173]; rfl
          have fe_193 : fld (f_162 a_0) 9 = (v_181 : Int32).toInt := by rw [e_173]; rfl
          have fe_194 : fld (f_162 a_0) 10 = (v_183 : Int32).toInt := by rw [e_173]; rfl
          have fe_195 : fld (f_162 a_0) 12 = (v_186 : Int32).toInt := by rw [e_173]; rfl
          have fe_196 : fld (f_162 a_0) 20 = (v_190 : Int32).toInt := by rw [e_173]; rfl
          rw [fe_170, fe_193, fe_192] at x_164
          rw [fe_194, fe_193, fe_192] at x_165
          rw [fe_195, fe_171] at x_166
          rw [fe_196, fe_172] at x_167
          clear fe_170 fe_171 fe_172 fe_192 fe_193 fe_194 fe_195 fe_196
          refine v_iload_n hC dX12_number_65 rfl ?_
          have fe_197 : fld (f_162 a_0) 12 = (v_186 : Int32).toInt := by rw [e_173]; rfl
          have fe_198 : fld (f_162 a_0) 8 = (v_179 : Int32).toInt := by rw [e_173]; rfl
          have fe_199 : fld (f_162 a_0) 9 = (v_181 : Int32).toInt := by rw [e_173]; rfl
          have fe_200 : fld (f_162 a_0) 12 = (v_186 : Int32).toInt := by rw [e_173]; rfl
          have fe_201 : fld (f_162 a_0) 8 = (v_179 : Int32).toInt := by rw [e_173]; rfl
          have fe_202 : fld (f_162 a_0) 9 = (v_181 : Int32).toInt := by rw [e_173]; rfl
          have fe_203 : fld (f_162 a_0) 10 = (v_183 : Int32).toInt := by rw [e_173]; rfl
          have fe_204 : fld (f_162 a_0) 12 = (v_186 : Int32).toInt := by rw [e_173]; rfl
          have fe_205 : fld (f_162 a_0) 12 = (v_186 : Int32).toInt := by rw [e_173]; rfl
          have fe_206 : fld (f_162 a_0) 20 = (v_190 : Int32).toInt := by rw [e_173]; rfl
          exact hR _ _ _ _ _ _ _ dX12_number_66 rfl (Nat.le_of_ble_eq_true rfl) (Nat.le_of_ble_eq_true rfl) ⟨rfl, hW_168, (hF_169.mono rfl), (by simp only [fe_197, mz_43, true_and, and_true, or_true, true_or, false_or, or_false, false_and, and_false, not_true_eq_false, not_false_eq_true] <;> first | omega | (simp only [Int32.lt_iff_toInt_lt, Int32.le_iff_toInt_le, Int32.reduceToInt, ← Int32.toInt_inj, true_and, and_true, or_true, true_or, false_or, or_false, false_and, and_false, not_true_eq_false, not_false_eq_true] <;> omega)), (by simp only [fe_198, fe_199, fe_200, mz_41, mz_42, true_and, and_true, or_true, true_or, false_or, or_false, false_and, and_false, not_true_eq_false, not_false_eq_true] <;> first | omega | (simp only [Int32.lt_iff_toInt_lt, Int32.le_iff_toInt_le, Int32.reduceToInt, ← Int32.toInt_inj, true_and, and_true, or_true, true_or, false_or, or_false, false_and, and_false, not_true_eq_false, not_false_eq_true] <;> omega)), (by simp only [fe_201, fe_202, fe_203, fe_204, true_and, and_true, or_true, true_or, false_or, or_false, false_and, and_false, not_true_eq_false, not_false_eq_true] <;> first | omega | (simp only [Int32.lt_iff_toInt_lt, Int32.le_iff_toInt_le, Int32.reduceToInt, ← Int32.toInt_inj, true_and, and_true, or_true, true_or, false_or, or_false, false_and, and_false, not_true_eq_false, not_false_eq_true] <;> omega)), (by simp only [fe_205, true_and, and_true, or_true, true_or, false_or, or_false, false_and, and_false, not_true_eq_false, not_false_eq_true] <;> first | omega | (simp only [Int32.lt_iff_toInt_lt, Int32.le_iff_toInt_le, Int32.reduceToInt, ← Int32.toInt_inj, true_and, and_true, or_true, true_or, false_or, or_false, false_and, and_false, not_true_eq_false, not_false_eq_true] <;> omega)), (by simp only [fe_206, mz_44, true_and, and_true, or_true, true_or, false_or, or_false, false_and, and_false, not_true_eq_false, not_false_eq_true] <;> first | omega | (simp only [Int32.lt_iff_toInt_lt, Int32.le_iff_toInt_le, Int32.reduceToInt, ← Int32.toInt_inj, true_and, and_true, or_true, true_or, false_or, or_false, false_and, and_false, not_true_eq_false, not_false_eq_true] <;> omega))⟩
        · simp only [Int32.lt_iff_toInt_lt, Int32.le_iff_toInt_le, Int32.reduceToInt, ← Int32.toInt_inj] at h_159
          refine v_iconst hC dX12_number_54 (v := 0) (by decide) ?_
          have fe_207 : fld (f a_0) 12 = (v_35 : Int32).toInt := by rw [e_22]; rfl
          have fe_208 : fld (f a_0) 8 = (v_28 : Int32).toInt := by rw [e_22]; rfl
          have fe_209 : fld (f a_0) 9 = (v_30 : Int32).toInt := by rw [e_22]; rfl
          have fe_210 : fld (f a_0) 12 = (v_35 : Int32).toInt := by rw [e_22]; rfl
          have fe_211 : fld (f a_0) 8 = (v_28 : Int32).toInt := by rw [e_22]; rfl
          have fe_212 : fld (f a_0) 9 = (v_30 : Int32).toInt := by rw [e_22]; rfl
          have fe_213 : fld (f a_0) 10 = (v_32 : Int32).toInt := by rw [e_22]; rfl
          have fe_214 : fld (f a_0) 12 = (v_35 : Int32).toInt := by rw [e_22]; rfl
          have fe_215 : fld (f a_0) 12 = (v_35 : Int32).toInt := by rw [e_22]; rfl
          have fe_216 : fld (f a_0) 20 = (v_39 : Int32).toInt := by rw [e_22]; rfl
          exact hR _ _ _ _ _ _ _ dX12_number_55 rfl (Nat.le_of_ble_eq_true rfl) (Nat.le_of_ble_eq_true rfl) ⟨rfl, hW, FR.rf, (by simp only [fe_207, mz_43, true_and, and_true, or_true, true_or, false_or, or_false, false_and, and_false, not_true_eq_false, not_false_eq_true] <;> first | omega | (simp only [Int32.lt_iff_toInt_lt, Int32.le_iff_toInt_le, Int32.reduceToInt, ← Int32.toInt_inj, true_and, and_true, or_true, true_or, false_or, or_false, false_and, and_false, not_true_eq_false, not_false_eq_true] <;> omega)), (by simp only [fe_208, fe_209, fe_210, mz_41, mz_42, true_and, and_true, or_true, true_or, false_or, or_false, false_and, and_false, not_true_eq_false, not_false_eq_true] <;> first | omega | (simp only [Int32.lt_iff_toInt_lt, Int32.le_iff_toInt_le, Int32.reduceToInt, ← Int32.toInt_inj, true_and, and_true, or_true, true_or, false_or, or_false, false_and, and_false, not_true_eq_false, not_false_eq_true] <;> omega)), (by simp only [fe_211, fe_212, fe_213, fe_214, true_and, and_true, or_true, true_or, false_or, or_false, false_and, and_false, not_true_eq_false, not_false_eq_true] <;> first | omega | (simp only [Int32.lt_iff_toInt_lt, Int32.le_iff_toInt_le, Int32.reduceToInt, ← Int32.toInt_inj, true_and, and_true, or_true, true_or, false_or, or_false, false_and, and_false, not_true_eq_false, not_false_eq_true] <;> omega)), (by simp only [fe_215, true_and, and_true, or_true, true_or, false_or, or_false, false_and, and_false, not_true_eq_false, not_false_eq_true] <;> first | omega | (simp only [Int32.lt_iff_toInt_lt, Int32.le_iff_toInt_le, Int32.reduceToInt, ← Int32.toInt_inj, true_and, and_true, or_true, true_or, false_or, or_false, false_and, and_false, not_true_eq_false, not_false_eq_true] <;> omega)), (by simp only [fe_216, mz_44, true_and, and_true, or_true, true_or, false_or, or_false, false_and, and_false, not_true_eq_false, not_false_eq_true] <;> first | omega | (simp only [Int32.lt_iff_toInt_lt, Int32.le_iff_toInt_le, Int32.reduceToInt, ← Int32.toInt_inj, true_and, and_true, or_true, true_or, false_or, or_false, false_and, and_false, not_true_eq_false, not_false_eq_true] <;> omega))⟩
      · simp only [Int32.lt_iff_toInt_lt, Int32.le_iff_toInt_le, Int32.reduceToInt, ← Int32.toInt_inj] at h_149
        refine v_aload_n hC dX12_number_42 rfl ?_
        refine v_iconst hC dX12_number_43 (v := 2) (by decide) ?_
        refine v_vv hC (rest := []) m_1 e_22 rfl mi_X12_errs ms_X12_errs (p_X12_errs hW k_0 (by decide)) mx_X12_errs ml_X12_162 (by decide) rfl (cells1 := 0) (slots1 := 0) (by decide) (by decide) (Nat.le_of_ble_eq_true rfl) (Nat.le_of_ble_eq_true rfl) rfl (Nat.le_of_ble_eq_true rfl) dX12_number_44 (fun L_218 f_219 h_220 => ?_)
        obtain ⟨rfl, hW_226, hF_227, x_221, x_222, x_223, x_224, x_225⟩ := h_220
        have fe_228 : fld (f a_0) 8 = (v_28 : Int32).toInt := by rw [e_22]; rfl
        have fe_229 : fld (f a_0) 9 = (v_30 : Int32).toInt := by rw [e_22]; rfl
        have fe_230 : fld (f a_0) 10 = (v_32 : Int32).toInt := by rw [e_22]; rfl
        have fe_231 : fld (f a_0) 20 = (v_39 : Int32).toInt := by rw [e_22]; rfl
        obtain ⟨v_233, v_234, v_236, v_238, v_240, v_242, v_244, v_245, v_246, v_247, v_249, e_232, b_235, b_237, b_239, b_241, b_243, b_248, b_250⟩ := hW_226.at m_1 t_2
        have fe_251 : fld (f_219 a_0) 8 = (v_238 : Int32).toInt := by rw [e_232]; rfl
        have fe_252 : fld (f_219 a_0) 9 = (v_240 : Int32).toInt := by rw [e_232]; rfl
        have fe_253 : fld (f_219 a_0) 10 = (v_242 : Int32).toInt := by rw [e_232]; rfl
        have fe_254 : fld (f_219 a_0) 12 = (v_245 : Int32).toInt := by rw [e_232]; rfl
        have fe_255 : fld (f_219 a_0) 20 = (v_249 : Int32).toInt := by rw [e_232]; rfl
        rw [fe_254] at x_221
        rw [fe_251, fe_228] at x_222
        rw [fe_252, fe_229] at x_223
        rw [fe_253, fe_230] at x_224
        rw [fe_255, fe_231] at x_225
        clear fe_228 fe_229 fe_230 fe_231 fe_251 fe_252 fe_253 fe_254 fe_255
        refine v_aload_n hC dX12_number_47 rfl ?_
        refine v_vi hC (rest := []) m_1 e_232 rfl mi_X12_good ms_X12_good (p_X12_good hW_226 k_0) mx_X12_good ml_X12_139 (by decide) rfl (cells1 := 0) (slots1 := 0) (by decide) (by decide) (Nat.le_of_ble_eq_true rfl) (Nat.le_of_ble_eq_true rfl) rfl (Nat.le_of_ble_eq_true rfl) dX12_number_48 (fun r_256 L_257 f_258 h_259 => ?_)
        obtain ⟨rfl, rfl, b_260, x_261⟩ := h_259
        have fe_264 : fld (f_219 a_0) 12 = (v_245 : Int32).toInt := by rw [e_232]; rfl
        rw [fe_264] at x_261
        clear fe_264
        try simp only [Int32.reduceToInt, Int64.reduceToInt] at x_261
        refine v_if_ne hC dX12_number_51 (tgt := 56) (by decide) (fun h_265 => ?_) (fun h_265 => ?_)
        · simp only [Int32.lt_iff_toInt_lt, Int32.le_iff_toInt_le, Int32.reduceToInt, ← Int32.toInt_inj] at h_265
          refine v_aload_n hC dX12_number_56 rfl ?_
          refine v_get hC fl_X12_131 m_1 e_232 rfl dX12_number_57 ?_
          refine v_istore_n hC dX12_number_60 (by decide) (lv' := [(3, .int v_244), (0, .ref a_0), (1, .int a_1), (2, .int a_2)]) rfl ?_
          refine v_aload_n hC dX12_number_61 rfl ?_
          refine v_vv hC (rest := []) m_1 e_232 rfl mi_X12_advance ms_X12_advance (p_X12_advance hW_226 k_0) mx_X12_advance ml_X12_156 (by decide) rfl (cells1 := 0) (slots1 := 0) (by decide) (by decide) (Nat.le_of_ble_eq_true rfl) (Nat.le_of_ble_eq_true rfl) rfl (Nat.le_of_ble_eq_true rfl) dX12_number_62 (fun L_267 f_268 h_269 => ?_)
          obtain ⟨rfl, hW_274, hF_275, x_270, x_271, x_272, x_273⟩ := h_269
          have fe_276 : fld (f_219 a_0) 8 = (v_238 : Int32).toInt := by rw [e_232]; rfl
          have fe_277 : fld (f_219 a_0) 12 = (v_245 : Int32).toInt := by rw [e_232]; rfl
          have fe_278 : fld (f_219 a_0) 20 = (v_249 : Int32).toInt := by rw [e_232]; rfl
          obtain ⟨v_280, v_281, v_283, v_285, v_287, v_289, v_291, v_292, v_293, v_294, v_296, e_279, b_282, b_284, b_286, b_288, b_290, b_295, b_297⟩ := hW_274.at m_1 t_2
          have fe_298 : fld (f_268 a_0) 8 = (v_285 : Int32).toInt := by rw [e_279]; rfl
          have fe_299 : fld (f_268 a_0) 9 = (v_287 : Int32).toInt := by rw [e_279]; rfl
          have fe_300 : fld (f_268 a_0) 10 = (v_289 : Int32).toInt := by rw [e_279]; rfl
          have fe_301 : fld (f_268 a_0) 12 = (v_292 : Int32).toInt := by rw [e_279]; rfl
          have fe_302 : fld (f_268 a_0) 20 = (v_296 : Int32).toInt := by rw [e_279]; rfl
          rw [fe_276, fe_299, fe_298] at x_270
          rw [fe_300, fe_299, fe_298] at x_271
          rw [fe_301, fe_277] at x_272
          rw [fe_302, fe_278] at x_273
          clear fe_276 fe_277 fe_278 fe_298 fe_299 fe_300 fe_301 fe_302
          refine v_iload_n hC dX12_number_65 rfl ?_
          have fe_303 : fld (f_268 a_0) 12 = (v_292 : Int32).toInt := by rw [e_279]; rfl
          have fe_304 : fld (f_268 a_0) 8 = (v_285 : Int32).toInt := by rw [e_279]; rfl
          have fe_305 : fld (f_268 a_0) 9 = (v_287 : Int32).toInt := by rw [e_279]; rfl
          have fe_306 : fld (f_268 a_0) 12 = (v_292 : Int32).toInt := by rw [e_279]; rfl
          have fe_307 : fld (f_268 a_0) 8 = (v_285 : Int32).toInt := by rw [e_279]; rfl
          have fe_308 : fld (f_268 a_0) 9 = (v_287 : Int32).toInt := by rw [e_279]; rfl
          have fe_309 : fld (f_268 a_0) 10 = (v_289 : Int32).toInt := by rw [e_279]; rfl
          have fe_310 : fld (f_268 a_0) 12 = (v_292 : Int32).toInt := by rw [e_279]; rfl
          have fe_311 : fld (f_268 a_0) 12 = (v_292 : Int32).toInt := by rw [e_279]; rfl
          have fe_312 : fld (f_268 a_0) 20 = (v_296 : Int32).toInt := by rw [e_279]; rfl
          exact hR _ _ _ _ _ _ _ dX12_number_66 rfl (Nat.le_of_ble_eq_true rfl) (Nat.le_of_ble_eq_true rfl) ⟨rfl, hW_274, ((hF_227.tr hF_275).mono rfl), (by simp only [fe_303, mz_43, true_and, and_true, or_true, true_or, false_or, or_false, false_and, and_false, not_true_eq_false, not_false_eq_true] <;> first | omega | (simp only [Int32.lt_iff_toInt_lt, Int32.le_iff_toInt_le, Int32.reduceToInt, ← Int32.toInt_inj, true_and, and_true, or_true, true_or, false_or, or_false, false_and, and_false, not_true_eq_false, not_false_eq_true] <;> omega)), (by simp only [fe_304, fe_305, fe_306, mz_41, mz_42, true_and, and_true, or_true, true_or, false_or, or_false, false_and, and_false, not_true_eq_false, not_false_eq_true] <;> first | omega | (simp only [Int32.lt_iff_toInt_lt, Int32.le_iff_toInt_le, Int32.reduceToInt, ← Int32.toInt_inj, true_and, and_true, or_true, true_or, false_or, or_false, false_and, and_false, not_true_eq_false, not_false_eq_true] <;> omega)), (by simp only [fe_307, fe_308, fe_309, fe_310, true_and, and_true, or_true, true_or, false_or, or_false, false_and, and_false, not_true_eq_false, not_false_eq_true] <;> first | omega | (simp only [Int32.lt_iff_toInt_lt, Int32.le_iff_toInt_le, Int32.reduceToInt, ← Int32.toInt_inj, true_and, and_true, or_true, true_or, false_or, or_false, false_and, and_false, not_true_eq_false, not_false_eq_true] <;> omega)), (by simp only [fe_311, true_and, and_true, or_true, true_or, false_or, or_false, false_and, and_false, not_true_eq_false, not_false_eq_true] <;> first | omega | (simp only [Int32.lt_iff_toInt_lt, Int32.le_iff_toInt_le, Int32.reduceToInt, ← Int32.toInt_inj, true_and, and_true, or_true, true_or, false_or, or_false, false_and, and_false, not_true_eq_false, not_false_eq_true] <;> omega)), (by simp only [fe_312, mz_44, true_and, and_true, or_true, true_or, false_or, or_false, false_and, and_false, not_true_eq_false, not_false_eq_true] <;> first | omega | (simp only [Int32.lt_iff_toInt_lt, Int32.le_iff_toInt_le, Int32.reduceToInt, ← Int32.toInt_inj, true_and, and_true, or_true, true_or, false_or, or_false, false_and, and_false, not_true_eq_false, not_false_eq_true] <;> omega))⟩
        · simp only [Int32.lt_iff_toInt_lt, Int32.le_iff_toInt_le, Int32.reduceToInt, ← Int32.toInt_inj] at h_265
          refine v_iconst hC dX12_number_54 (v := 0) (by decide) ?_
          have fe_313 : fld (f_219 a_0) 12 = (v_245 : Int32).toInt := by rw [e_232]; rfl
          have fe_314 : fld (f_219 a_0) 8 = (v_238 : Int32).toInt := by rw [e_232]; rfl
          have fe_315 : fld (f_219 a_0) 9 = (v_240 : Int32).toInt := by rw [e_232]; rfl
          have fe_316 : fld (f_219 a_0) 12 = (v_245 : Int32).toInt := by rw [e_232]; rfl
          have fe_317 : fld (f_219 a_0) 8 = (v_238 : Int32).toInt := by rw [e_232]; rfl
          have fe_318 : fld (f_219 a_0) 9 = (v_240 : Int32).toInt := by rw [e_232]; rfl
          have fe_319 : fld (f_219 a_0) 10 = (v_242 : Int32).toInt := by rw [e_232]; rfl
          have fe_320 : fld (f_219 a_0) 12 = (v_245 : Int32).toInt := by rw [e_232]; rfl
          have fe_321 : fld (f_219 a_0) 12 = (v_245 : Int32).toInt := by rw [e_232]; rfl
          have fe_322 : fld (f_219 a_0) 20 = (v_249 : Int32).toInt := by rw [e_232]; rfl
          exact hR _ _ _ _ _ _ _ dX12_number_55 rfl (Nat.le_of_ble_eq_true rfl) (Nat.le_of_ble_eq_true rfl) ⟨rfl, hW_226, (hF_227.mono rfl), (by simp only [fe_313, mz_43, true_and, and_true, or_true, true_or, false_or, or_false, false_and, and_false, not_true_eq_false, not_false_eq_true] <;> first | omega | (simp only [Int32.lt_iff_toInt_lt, Int32.le_iff_toInt_le, Int32.reduceToInt, ← Int32.toInt_inj, true_and, and_true, or_true, true_or, false_or, or_false, false_and, and_false, not_true_eq_false, not_false_eq_true] <;> omega)), (by simp only [fe_314, fe_315, fe_316, mz_41, mz_42, true_and, and_true, or_true, true_or, false_or, or_false, false_and, and_false, not_true_eq_false, not_false_eq_true] <;> first | omega | (simp only [Int32.lt_iff_toInt_lt, Int32.le_iff_toInt_le, Int32.reduceToInt, ← Int32.toInt_inj, true_and, and_true, or_true, true_or, false_or, or_false, false_and, and_false, not_true_eq_false, not_false_eq_true] <;> omega)), (by simp only [fe_317, fe_318, fe_319, fe_320, true_and, and_true, or_true, true_or, false_or, or_false, false_and, and_false, not_true_eq_false, not_false_eq_true] <;> first | omega | (simp only [Int32.lt_iff_toInt_lt, Int32.le_iff_toInt_le, Int32.reduceToInt, ← Int32.toInt_inj, true_and, and_true, or_true, true_or, false_or, or_false, false_and, and_false, not_true_eq_false, not_false_eq_true] <;> omega)), (by simp only [fe_321, true_and, and_true, or_true, true_or, false_or, or_false, false_and, and_false, not_true_eq_false, not_false_eq_true] <;> first | omega | (simp only [Int32.lt_iff_toInt_lt, Int32.le_iff_toInt_le, Int32.reduceToInt, ← Int32.toInt_inj, true_and, and_true, or_true, true_or, false_or, or_false, false_and, and_false, not_true_eq_false, not_false_eq_true] <;> omega)), (by simp only [fe_322, mz_44, true_and, and_true, or_true, true_or, false_or, or_false, false_and, and_false, not_true_eq_false, not_false_eq_true] <;> first | omega | (simp only [Int32.lt_iff_toInt_lt, Int32.le_iff_toInt_le, Int32.reduceToInt, ← Int32.toInt_inj, true_and, and_true, or_true, true_or, false_or, or_false, false_and, and_false, not_true_eq_false, not_false_eq_true] <;> omega))⟩
  · simp only [Int32.lt_iff_toInt_lt, Int32.le_iff_toInt_le, Int32.reduceToInt, ← Int32.toInt_inj] at h_54
    refine v_aload_n hC dX12_number_7 rfl ?_
    refine v_get hC fl_X12_120 m_1 e_22 rfl dX12_number_8 ?_
    refine v_iconst hC dX12_number_11 (v := 2) (by decide) ?_
    refine v_icmp_eq hC dX12_number_12 (tgt := 20) (by decide) (fun h_323 => ?_) (fun h_323 => ?_)
    · simp only [Int32.lt_iff_toInt_lt, Int32.le_iff_toInt_le, Int32.reduceToInt, ← Int32.toInt_inj] at h_323
      refine v_aload_n hC dX12_number_20 rfl ?_
      refine v_vi hC (rest := []) m_1 e_22 rfl mi_X12_good ms_X12_good (p_X12_good hW k_0) mx_X12_good ml_X12_139 (by decide) rfl (cells1 := 0) (slots1 := 0) (by decide) (by decide) (Nat.le_of_ble_eq_true rfl) (Nat.le_of_ble_eq_true rfl) rfl (Nat.le_of_ble_eq_true rfl) dX12_number_21 (fun r_324 L_325 f_326 h_327 => ?_)
      obtain ⟨rfl, rfl, b_328, x_329⟩ := h_327
      have fe_332 : fld (f a_0) 12 = (v_35 : Int32).toInt := by rw [e_22]; rfl
      rw [fe_332] at x_329
      clear fe_332
      try simp only [Int32.reduceToInt, Int64.reduceToInt] at x_329
      refine v_if_eq hC dX12_number_24 (tgt := 47) (by decide) (fun h_333 => ?_) (fun h_333 => ?_)
      · simp only [Int32.lt_iff_toInt_lt, Int32.le_iff_toInt_le, Int32.reduceToInt, ← Int32.toInt_inj] at h_333
        refine v_aload_n hC dX12_number_47 rfl ?_
        refine v_vi hC (rest := []) m_1 e_22 rfl mi_X12_good ms_X12_good (p_X12_good hW k_0) mx_X12_good ml_X12_139 (by decide) rfl (cells1 := 0) (slots1 := 0) (by decide) (by decide) (Nat.le_of_ble_eq_true rfl) (Nat.le_of_ble_eq_true rfl) rfl (Nat.le_of_ble_eq_true rfl) dX12_number_48 (fun r_334 L_335 f_336 h_337 => ?_)
        obtain ⟨rfl, rfl, b_338, x_339⟩ := h_337
        have fe_342 : fld (f a_0) 12 = (v_35 : Int32).toInt := by rw [e_22]; rfl
        rw [fe_342] at x_339
        clear fe_342
        try simp only [Int32.reduceToInt, Int64.reduceToInt] at x_339
        refine v_if_ne hC dX12_number_51 (tgt := 56) (by decide) (fun h_343 => ?_) (fun h_343 => ?_)
        · simp only [Int32.lt_iff_toInt_lt, Int32.le_iff_toInt_le, Int32.reduceToInt, ← Int32.toInt_inj] at h_343
          refine v_aload_n hC dX12_number_56 rfl ?_
          refine v_get hC fl_X12_131 m_1 e_22 rfl dX12_number_57 ?_
          refine v_istore_n hC dX12_number_60 (by decide) (lv' := [(3, .int v_34), (0, .ref a_0), (1, .int a_1), (2, .int a_2)]) rfl ?_
          refine v_aload_n hC dX12_number_61 rfl ?_
          refine v_vv hC (rest := []) m_1 e_22 rfl mi_X12_advance ms_X12_advance (p_X12_advance hW k_0) mx_X12_advance ml_X12_156 (by decide) rfl (cells1 := 0) (slots1 := 0) (by decide) (by decide) (Nat.le_of_ble_eq_true rfl) (Nat.le_of_ble_eq_true rfl) rfl (Nat.le_of_ble_eq_true rfl) dX12_number_62 (fun L_345 f_346 h_347 => ?_)
          obtain ⟨rfl, hW_352, hF_353, x_348, x_349, x_350, x_351⟩ := h_347
          have fe_354 : fld (f a_0) 8 = (v_28 : Int32).toInt := by rw [e_22]; rfl
          have fe_355 : fld (f a_0) 12 = (v_35 : Int32).toInt := by rw [e_22]; rfl
          have fe_356 : fld (f a_0) 20 = (v_39 : Int32).toInt := by rw [e_22]; rfl
          obtain ⟨v_358, v_359, v_361, v_363, v_365, v_367, v_369, v_370, v_371, v_372, v_374, e_357, b_360, b_362, b_364, b_366, b_368, b_373, b_375⟩ := hW_352.at m_1 t_2
          have fe_376 : fld (f_346 a_0) 8 = (v_363 : Int32).toInt := by rw [e_357]; rfl
          have fe_377 : fld (f_346 a_0) 9 = (v_365 : Int32).toInt := by rw [e_357]; rfl
          have fe_378 : fld (f_346 a_0) 10 = (v_367 : Int32).toInt := by rw [e_357]; rfl
          have fe_379 : fld (f_346 a_0) 12 = (v_370 : Int32).toInt := by rw [e_357]; rfl
          have fe_380 : fld (f_346 a_0) 20 = (v_374 : Int32).toInt := by rw [e_357]; rfl
          rw [fe_354, fe_377, fe_376] at x_348
          rw [fe_378, fe_377, fe_376] at x_349
          rw [fe_379, fe_355] at x_350
          rw [fe_380, fe_356] at x_351
          clear fe_354 fe_355 fe_356 fe_376 fe_377 fe_378 fe_379 fe_380
          refine v_iload_n hC dX12_number_65 rfl ?_
          have fe_381 : fld (f_346 a_0) 12 = (v_370 : Int32).toInt := by rw [e_357]; rfl
          have fe_382 : fld (f_346 a_0) 8 = (v_363 : Int32).toInt := by rw [e_357]; rfl
          have fe_383 : fld (f_346 a_0) 9 = (v_365 : Int32).toInt := by rw [e_357]; rfl
          have fe_384 : fld (f_346 a_0) 12 = (v_370 : Int32).toInt := by rw [e_357]; rfl
          have fe_385 : fld (f_346 a_0) 8 = (v_363 : Int32).toInt := by rw [e_357]; rfl
          have fe_386 : fld (f_346 a_0) 9 = (v_365 : Int32).toInt := by rw [e_357]; rfl
          have fe_387 : fld (f_346 a_0) 10 = (v_367 : Int32).toInt := by rw [e_357]; rfl
          have fe_388 : fld (f_346 a_0) 12 = (v_370 : Int32).toInt := by rw [e_357]; rfl
          have fe_389 : fld (f_346 a_0) 12 = (v_370 : Int32).toInt := by rw [e_357]; rfl
          have fe_390 : fld (f_346 a_0) 20 = (v_374 : Int32).toInt := by rw [e_357]; rfl
          exact hR _ _ _ _ _ _ _ dX12_number_66 rfl (Nat.le_of_ble_eq_true rfl) (Nat.le_of_ble_eq_true rfl) ⟨rfl, hW_352, (hF_353.mono rfl), (by simp only [fe_381, mz_43, true_and, and_true, or_true, true_or, false_or, or_false, false_and, and_false, not_true_eq_false, not_false_eq_true] <;> first | omega | (simp only [Int32.lt_iff_toInt_lt, Int32.le_iff_toInt_le, Int32.reduceToInt, ← Int32.toInt_inj, true_and, and_true, or_true, true_or, false_or, or_false, false_and, and_false, not_true_eq_false, not_false_eq_true] <;> omega)), (by simp only [fe_382, fe_383, fe_384, mz_41, mz_42, true_and, and_true, or_true, true_or, false_or, or_false, false_and, and_false, not_true_eq_false, not_false_eq_true] <;> first | omega | (simp only [Int32.lt_iff_toInt_lt, Int32.le_iff_toInt_le, Int32.reduceToInt, ← Int32.toInt_inj, true_and, and_true, or_true, true_or, false_or, or_false, false_and, and_false, not_true_eq_false, not_false_eq_true] <;> omega)), (by simp only [fe_385, fe_386, fe_387, fe_388, true_and, and_true, or_true, true_or, false_or, or_false, false_and, and_false, not_true_eq_false, not_false_eq_true] <;> first | omega | (simp only [Int32.lt_iff_toInt_lt, Int32.le_iff_toInt_le, Int32.reduceToInt, ← Int32.toInt_inj, true_and, and_true, or_true, true_or, false_or, or_false, false_and, and_false, not_true_eq_false, not_false_eq_true] <;> omega)), (by simp only [fe_389, true_and, and_true, or_true, true_or, false_or, or_false, false_and, and_false, not_true_eq_false, not_false_eq_true] <;> first | omega | (simp only [Int32.lt_iff_toInt_lt, Int32.le_iff_toInt_le, Int32.reduceToInt, ← Int32.toInt_inj, true_and, and_true, or_true, true_or, false_or, or_false, false_and, and_false, not_true_eq_false, not_false_eq_true] <;> omega)), (by simp only [fe_390, mz_44, true_and, and_true, or_true, true_or, false_or, or_false, false_and, and_false, not_true_eq_false, not_false_eq_true] <;> first | omega | (simp only [Int32.lt_iff_toInt_lt, Int32.le_iff_toInt_le, Int32.reduceToInt, ← Int32.toInt_inj, true_and, and_true, or_true, true_or, false_or, or_false, false_and, and_false, not_true_eq_false, not_false_eq_true] <;> omega))⟩
        · simp only [Int32.lt_iff_toInt_lt, Int32.le_iff_toInt_le, Int32.reduceToInt, ← Int32.toInt_inj] at h_343
          refine v_iconst hC dX12_number_54 (v := 0) (by decide) ?_
          have fe_391 : fld (f a_0) 12 = (v_35 : Int32).toInt := by rw [e_22]; rfl
          have fe_392 : fld (f a_0) 8 = (v_28 : Int32).toInt := by rw [e_22]; rfl
          have fe_393 : fld (f a_0) 9 = (v_30 : Int32).toInt := by rw [e_22]; rfl
          have fe_394 : fld (f a_0) 12 = (v_35 : Int32).toInt := by rw [e_22]; rfl
          have fe_395 : fld (f a_0) 8 = (v_28 : Int32).toInt := by rw [e_22]; rfl
          have fe_396 : fld (f a_0) 9 = (v_30 : Int32).toInt := by rw [e_22]; rfl
          have fe_397 : fld (f a_0) 10 = (v_32 : Int32).toInt := by rw [e_22]; rfl
          have fe_398 : fld (f a_0) 12 = (v_35 : Int32).toInt := by rw [e_22]; rfl
          have fe_399 : fld (f a_0) 12 = (v_35 : Int32).toInt := by rw [e_22]; rfl
          have fe_400 : fld (f a_0) 20 = (v_39 : Int32).toInt := by rw [e_22]; rfl
          exact hR _ _ _ _ _ _ _ dX12_number_55 rfl (Nat.le_of_ble_eq_true rfl) (Nat.le_of_ble_eq_true rfl) ⟨rfl, hW, FR.rf, (by simp only [fe_391, mz_43, true_and, and_true, or_true, true_or, false_or, or_false, false_and, and_false, not_true_eq_false, not_false_eq_true] <;> first | omega | (simp only [Int32.lt_iff_toInt_lt, Int32.le_iff_toInt_le, Int32.reduceToInt, ← Int32.toInt_inj, true_and, and_true, or_true, true_or, false_or, or_false, false_and, and_false, not_true_eq_false, not_false_eq_true] <;> omega)), (by simp only [fe_392, fe_393, fe_394, mz_41, mz_42, true_and, and_true, or_true, true_or, false_or, or_false, false_and, and_false, not_true_eq_false, not_false_eq_true] <;> first | omega | (simp only [Int32.lt_iff_toInt_lt, Int32.le_iff_toInt_le, Int32.reduceToInt, ← Int32.toInt_inj, true_and, and_true, or_true, true_or, false_or, or_false, false_and, and_false, not_true_eq_false, not_false_eq_true] <;> omega)), (by simp only [fe_395, fe_396, fe_397, fe_398, true_and, and_true, or_true, true_or, false_or, or_false, false_and, and_false, not_true_eq_false, not_false_eq_true] <;> first | omega | (simp only [Int32.lt_iff_toInt_lt, Int32.le_iff_toInt_le, Int32.reduceToInt, ← Int32.toInt_inj, true_and, and_true, or_true, true_or, false_or, or_false, false_and, and_false, not_true_eq_false, not_false_eq_true] <;> omega)), (by simp only [fe_399, true_and, and_true, or_true, true_or, false_or, or_false, false_and, and_false, not_true_eq_false, not_false_eq_true] <;> first | omega | (simp only [Int32.lt_iff_toInt_lt, Int32.le_iff_toInt_le, Int32.reduceToInt, ← Int32.toInt_inj, true_and, and_true, or_true, true_or, false_or, or_false, false_and, and_false, not_true_eq_false, not_false_eq_true] <;> omega)), (by simp only [fe_400, mz_44, true_and, and_true, or_true, true_or, false_or, or_false, false_and, and_false, not_true_eq_false, not_false_eq_true] <;> first | omega | (simp only [Int32.lt_iff_toInt_lt, Int32.le_iff_toInt_le, Int32.reduceToInt, ← Int32.toInt_inj, true_and, and_true, or_true, true_or, false_or, or_false, false_and, and_false, not_true_eq_false, not_false_eq_true] <;> omega))⟩
      · simp only [Int32.lt_iff_toInt_lt, Int32.le_iff_toInt_le, Int32.reduceToInt, ← Int32.toInt_inj] at h_333
        refine v_aload_n hC dX12_number_27 rfl ?_
        refine v_get hC fl_X12_131 m_1 e_22 rfl dX12_number_28 ?_
        obtain ⟨v_401, h_402⟩ : ∃ v9 : Int64, v_34.toInt64 = v9 := ⟨_, rfl⟩
        refine v_i2l hC dX12_number_31 h_402 ?_
        have h_403 : v_401.toInt = v_34.toInt := by rw [← h_402]; exact Int32.toInt_toInt64 _
        refine v_iload_n hC dX12_number_32 rfl ?_
        obtain ⟨v_404, h_405⟩ : ∃ v9 : Int64, a_1.toInt64 = v9 := ⟨_, rfl⟩
        refine v_i2l hC dX12_number_33 h_405 ?_
        have h_406 : v_404.toInt = a_1.toInt := by rw [← h_405]; exact Int32.toInt_toInt64 _
        refine v_iload_n hC dX12_number_34 rfl ?_
        obtain ⟨v_407, h_408⟩ : ∃ v9 : Int64, a_2.toInt64 = v9 := ⟨_, rfl⟩
        refine v_i2l hC dX12_number_35 h_408 ?_
        have h_409 : v_407.toInt = a_2.toInt := by rw [← h_408]; exact Int32.toInt_toInt64 _
        refine v_si hC (rest := []) mt_X12_in (p_X12_in hW) mx_X12_in ml_X12_79 (by decide) rfl (cells1 := 0) (slots1 := 0) (by decide) (by decide) (Nat.le_of_ble_eq_true rfl) (Nat.le_of_ble_eq_true rfl) rfl (Nat.le_of_ble_eq_true rfl) dX12_number_36 (fun r_410 L_411 f_412 h_413 => ?_)
        obtain ⟨rfl, rfl, b_414, x_415⟩ := h_413
        try simp only [Int32.reduceToInt, Int64.reduceToInt] at x_415
        refine v_if_ne hC dX12_number_39 (tgt := 47) (by decide) (fun h_418 => ?_) (fun h_418 => ?_)
        · simp only [Int32.lt_iff_toInt_lt, Int32.le_iff_toInt_le, Int32.reduceToInt, ← Int32.toInt_inj] at h_418
          refine v_aload_n hC dX12_number_47 rfl ?_
          refine v_vi hC (rest := []) m_1 e_22 rfl mi_X12_good ms_X12_good (p_X12_good hW k_0) mx_X12_good ml_X12_139 (by decide) rfl (cells1 := 0) (slots1 := 0) (by decide) (by decide) (Nat.le_of_ble_eq_true rfl) (Nat.le_of_ble_eq_true rfl) rfl (Nat.le_of_ble_eq_true rfl) dX12_number_48 (fun r_419 L_420 f_421 h_422 => ?_)
          obtain ⟨rfl, rfl, b_423, x_424⟩ := h_422
          have fe_427 : fld (f a_0) 12 = (v_35 : Int32).toInt := by rw [e_22]; rfl
          rw [fe_427] at x_424
          clear fe_427
          try simp only [Int32.reduceToInt, Int64.reduceToInt] at x_424
          refine v_if_ne hC dX12_number_51 (tgt := 56) (by decide) (fun h_428 => ?_) (fun h_428 => ?_)
          · simp only [Int32.lt_iff_toInt_lt, Int32.le_iff_toInt_le, Int32.reduceToInt, ← Int32.toInt_inj] at h_428
            refine v_aload_n hC dX12_number_56 rfl ?_
            refine v_get hC fl_X12_131 m_1 e_22 rfl dX12_number_57 ?_
            refine v_istore_n hC dX12_number_60 (by decide) (lv' := [(3, .int v_34), (0, .ref a_0), (1, .int a_1), (2, .int a_2)]) rfl ?_
            refine v_aload_n hC dX12_number_61 rfl ?_
            refine v_vv hC (rest := []) m_1 e_22 rfl mi_X12_advance ms_X12_advance (p_X12_advance hW k_0) mx_X12_advance ml_X12_156 (by decide) rfl (cells1 := 0) (slots1 := 0) (by decide) (by decide) (Nat.le_of_ble_eq_true rfl) (Nat.le_of_ble_eq_true rfl) rfl (Nat.le_of_ble_eq_true rfl) dX12_number_62 (fun L_430 f_431 h_432 => ?_)
            obtain ⟨rfl, hW_437, hF_438, x_433, x_434, x_435, x_436⟩ := h_432
            have fe_439 : fld (f a_0) 8 = (v_28 : Int32).toInt := by rw [e_22]; rfl
            have fe_440 : fld (f a_0) 12 = (v_35 : Int32).toInt := by rw [e_22]; rfl
            have fe_441 : fld (f a_0) 20 = (v_39 : Int32).toInt := by rw [e_22]; rfl
            obtain ⟨v_443, v_444, v_446, v_448, v_450, v_452, v_454, v_455, v_456, v_457, v_459, e_442, b_445, b_447, b_449, b_451, b_453, b_458, b_460⟩ := hW_437.at m_1 t_2
            have fe_461 : fld (f_431 a_0) 8 = (v_448 : Int32).toInt := by rw [e_442]; rfl
            have fe_462 : fld (f_431 a_0) 9 = (v_450 : Int32).toInt := by rw [e_442]; rfl
            have fe_463 : fld (f_431 a_0) 10 = (v_452 : Int32).toInt := by rw [e_442]; rfl
            have fe_464 : fld (f_431 a_0) 12 = (v_455 : Int32).toInt := by rw [e_442]; rfl
            have fe_465 : fld (f_431 a_0) 20 = (v_459 : Int32).toInt := by rw [e_442]; rfl
            rw [fe_439, fe_462, fe_461] at x_433
            rw [fe_463, fe_462, fe_461] at x_434
            rw [fe_464, fe_440] at x_435
            rw [fe_465, fe_441] at x_436
            clear fe_439 fe_440 fe_441 fe_461 fe_462 fe_463 fe_464 fe_465
            refine v_iload_n hC dX12_number_65 rfl ?_
            have fe_466 : fld (f_431 a_0) 12 = (v_455 : Int32).toInt := by rw [e_442]; rfl
            have fe_467 : fld (f_431 a_0) 8 = (v_448 : Int32).toInt := by rw [e_442]; rfl
            have fe_468 : fld (f_431 a_0) 9 = (v_450 : Int32).toInt := by rw [e_442]; rfl
            have fe_469 : fld (f_431 a_0) 12 = (v_455 : Int32).toInt := by rw [e_442]; rfl
            have fe_470 : fld (f_431 a_0) 8 = (v_448 : Int32).toInt := by rw [e_442]; rfl
            have fe_471 : fld (f_431 a_0) 9 = (v_450 : Int32).toInt := by rw [e_442]; rfl
            have fe_472 : fld (f_431 a_0) 10 = (v_452 : Int32).toInt := by rw [e_442]; rfl
            have fe_473 : fld (f_431 a_0) 12 = (v_455 : Int32).toInt := by rw [e_442]; rfl
            have fe_474 : fld (f_431 a_0) 12 = (v_455 : Int32).toInt := by rw [e_442]; rfl
            have fe_475 : fld (f_431 a_0) 20 = (v_459 : Int32).toInt := by rw [e_442]; rfl
            exact hR _ _ _ _ _ _ _ dX12_number_66 rfl (Nat.le_of_ble_eq_true rfl) (Nat.le_of_ble_eq_true rfl) ⟨rfl, hW_437, (hF_438.mono rfl), (by simp only [fe_466, mz_43, true_and, and_true, or_true, true_or, false_or, or_false, false_and, and_false, not_true_eq_false, not_false_eq_true] <;> first | omega | (simp only [Int32.lt_iff_toInt_lt, Int32.le_iff_toInt_le, Int32.reduceToInt, ← Int32.toInt_inj, true_and, and_true, or_true, true_or, false_or, or_false, false_and, and_false, not_true_eq_false, not_false_eq_true] <;> omega)), (by simp only [fe_467, fe_468, fe_469, mz_41, mz_42, true_and, and_true, or_true, true_or, false_or, or_false, false_and, and_false, not_true_eq_false, not_false_eq_true] <;> first | omega | (simp only [Int32.lt_iff_toInt_lt, Int32.le_iff_toInt_le, Int32.reduceToInt, ← Int32.toInt_inj, true_and, and_true, or_true, true_or, false_or, or_false, false_and, and_false, not_true_eq_false, not_false_eq_true] <;> omega)), (by simp only [fe_470, fe_471, fe_472, fe_473, true_and, and_true, or_true, true_or, false_or, or_false, false_and, and_false, not_true_eq_false, not_false_eq_true] <;> first | omega | (simp only [Int32.lt_iff_toInt_lt, Int32.le_iff_toInt_le, Int32.reduceToInt, ← Int32.toInt_inj, true_and, and_true, or_true, true_or, false_or, or_false, false_and, and_false, not_true_eq_false, not_false_eq_true] <;> omega)), (by simp only [fe_474, true_and, and_true, or_true, true_or, false_or, or_false, false_and, and_false, not_true_eq_false, not_false_eq_true] <;> first | omega | (simp only [Int32.lt_iff_toInt_lt, Int32.le_iff_toInt_le, Int32.reduceToInt, ← Int32.toInt_inj, true_and, and_true, or_true, true_or, false_or, or_false, false_and, and_false, not_true_eq_false, not_false_eq_true] <;> omega)), (by simp only [fe_475, mz_44, true_and, and_true, or_true, true_or, false_or, or_false, false_and, and_false, not_true_eq_false, not_false_eq_true] <;> first | omega | (simp only [Int32.lt_iff_toInt_lt, Int32.le_iff_toInt_le, Int32.reduceToInt, ← Int32.toInt_inj, true_and, and_true, or_true, true_or, false_or, or_false, false_and, and_false, not_true_eq_false, not_false_eq_true] <;> omega))⟩
          · simp only [Int32.lt_iff_toInt_lt, Int32.le_iff_toInt_le, Int32.reduceToInt, ← Int32.toInt_inj] at h_428
            refine v_iconst hC dX12_number_54 (v := 0) (by decide) ?_
            have fe_476 : fld (f a_0) 12 = (v_35 : Int32).toInt := by rw [e_22]; rfl
            have fe_477 : fld (f a_0) 8 = (v_28 : Int32).toInt := by rw [e_22]; rfl
            have fe_478 : fld (f a_0) 9 = (v_30 : Int32).toInt := by rw [e_22]; rfl
            have fe_479 : fld (f a_0) 12 = (v_35 : Int32).toInt := by rw [e_22]; rfl
            have fe_480 : fld (f a_0) 8 = (v_28 : Int32).toInt := by rw [e_22]; rfl
            have fe_481 : fld (f a_0) 9 = (v_30 : Int32).toInt := by rw [e_22]; rfl
            have fe_482 : fld (f a_0) 10 = (v_32 : Int32).toInt := by rw [e_22]; rfl
            have fe_483 : fld (f a_0) 12 = (v_35 : Int32).toInt := by rw [e_22]; rfl
            have fe_484 : fld (f a_0) 12 = (v_35 : Int32).toInt := by rw [e_22]; rfl
            have fe_485 : fld (f a_0) 20 = (v_39 : Int32).toInt := by rw [e_22]; rfl
            exact hR _ _ _ _ _ _ _ dX12_number_55 rfl (Nat.le_of_ble_eq_true rfl) (Nat.le_of_ble_eq_true rfl) ⟨rfl, hW, FR.rf, (by simp only [fe_476, mz_43, true_and, and_true, or_true, true_or, false_or, or_false, false_and, and_false, not_true_eq_false, not_false_eq_true] <;> first | omega | (simp only [Int32.lt_iff_toInt_lt, Int32.le_iff_toInt_le, Int32.reduceToInt, ← Int32.toInt_inj, true_and, and_true, or_true, true_or, false_or, or_false, false_and, and_false, not_true_eq_false, not_false_eq_true] <;> omega)), (by simp only [fe_477, fe_478, fe_479, mz_41, mz_42, true_and, and_true, or_true, true_or, false_or, or_false, false_and, and_false, not_true_eq_false, not_false_eq_true] <;> first | omega | (simp only [Int32.lt_iff_toInt_lt, Int32.le_iff_toInt_le, Int32.reduceToInt, ← Int32.toInt_inj, true_and, and_true, or_true, true_or, false_or, or_false, false_and, and_false, not_true_eq_false, not_false_eq_true] <;> omega)), (by simp only [fe_480, fe_481, fe_482, fe_483, true_and, and_true, or_true, true_or, false_or, or_false, false_and, and_false, not_true_eq_false, not_false_eq_true] <;> first | omega | (simp only [Int32.lt_iff_toInt_lt, Int32.le_iff_toInt_le, Int32.reduceToInt, ← Int32.toInt_inj, true_and, and_true, or_true, true_or, false_or, or_false, false_and, and_false, not_true_eq_false, not_false_eq_true] <;> omega)), (by simp only [fe_484, true_and, and_true, or_true, true_or, false_or, or_false, false_and, and_false, not_true_eq_false, not_false_eq_true] <;> first | omega | (simp only [Int32.lt_iff_toInt_lt, Int32.le_iff_toInt_le, Int32.reduceToInt, ← Int32.toInt_inj, true_and, and_true, or_true, true_or, false_or, or_false, false_and, and_false, not_true_eq_false, not_false_eq_true] <;> omega)), (by simp only [fe_485, mz_44, true_and, and_true, or_true, true_or, false_or, or_false, false_and, and_false, not_true_eq_false, not_false_eq_true] <;> first | omega | (simp only [Int32.lt_iff_toInt_lt, Int32.le_iff_toInt_le, Int32.reduceToInt, ← Int32.toInt_inj, true_and, and_true, or_true, true_or, false_or, or_false, false_and, and_false, not_true_eq_false, not_false_eq_true] <;> omega))⟩
        · simp only [Int32.lt_iff_toInt_lt, Int32.le_iff_toInt_le, Int32.reduceToInt, ← Int32.toInt_inj] at h_418
          refine v_aload_n hC dX12_number_42 rfl ?_
          refine v_iconst hC dX12_number_43 (v := 2) (by decide) ?_
          refine v_vv hC (rest := []) m_1 e_22 rfl mi_X12_errs ms_X12_errs (p_X12_errs hW k_0 (by decide)) mx_X12_errs ml_X12_162 (by decide) rfl (cells1 := 0) (slots1 := 0) (by decide) (by decide) (Nat.le_of_ble_eq_true rfl) (Nat.le_of_ble_eq_true rfl) rfl (Nat.le_of_ble_eq_true rfl) dX12_number_44 (fun L_487 f_488 h_489 => ?_)
          obtain ⟨rfl, hW_495, hF_496, x_490, x_491, x_492, x_493, x_494⟩ := h_489
          have fe_497 : fld (f a_0) 8 = (v_28 : Int32).toInt := by rw [e_22]; rfl
          have fe_498 : fld (f a_0) 9 = (v_30 : Int32).toInt := by rw [e_22]; rfl
          have fe_499 : fld (f a_0) 10 = (v_32 : Int32).toInt := by rw [e_22]; rfl
          have fe_500 : fld (f a_0) 20 = (v_39 : Int32).toInt := by rw [e_22]; rfl
          obtain ⟨v_502, v_503, v_505, v_507, v_509, v_511, v_513, v_514, v_515, v_516, v_518, e_501, b_504, b_506, b_508, b_510, b_512, b_517, b_519⟩ := hW_495.at m_1 t_2
          have fe_520 : fld (f_488 a_0) 8 = (v_507 : Int32).toInt := by rw [e_501]; rfl
          have fe_521 : fld (f_488 a_0) 9 = (v_509 : Int32).toInt := by rw [e_501]; rfl
          have fe_522 : fld (f_488 a_0) 10 = (v_511 : Int32).toInt := by rw [e_501]; rfl
          have fe_523 : fld (f_488 a_0) 12 = (v_514 : Int32).toInt := by rw [e_501]; rfl
          have fe_524 : fld (f_488 a_0) 20 = (v_518 : Int32).toInt := by rw [e_501]; rfl
          rw [fe_523] at x_490
          rw [fe_520, fe_497] at x_491
          rw [fe_521, fe_498] at x_492
          rw [fe_522, fe_499] at x_493
          rw [fe_524, fe_500] at x_494
          clear fe_497 fe_498 fe_499 fe_500 fe_520 fe_521 fe_522 fe_523 fe_524
          refine v_aload_n hC dX12_number_47 rfl ?_
          refine v_vi hC (rest := []) m_1 e_501 rfl mi_X12_good ms_X12_good (p_X12_good hW_495 k_0) mx_X12_good ml_X12_139 (by decide) rfl (cells1 := 0) (slots1 := 0) (by decide) (by decide) (Nat.le_of_ble_eq_true rfl) (Nat.le_of_ble_eq_true rfl) rfl (Nat.le_of_ble_eq_true rfl) dX12_number_48 (fun r_525 L_526 f_527 h_528 => ?_)
          obtain ⟨rfl, rfl, b_529, x_530⟩ := h_528
          have fe_533 : fld (f_488 a_0) 12 = (v_514 : Int32).toInt := by rw [e_501]; rfl
          rw [fe_533] at x_530
          clear fe_533
          try simp only [Int32.reduceToInt, Int64.reduceToInt] at x_530
          refine v_if_ne hC dX12_number_51 (tgt := 56) (by decide) (fun h_534 => ?_) (fun h_534 => ?_)
          · simp only [Int32.lt_iff_toInt_lt, Int32.le_iff_toInt_le, Int32.reduceToInt, ← Int32.toInt_inj] at h_534
            refine v_aload_n hC dX12_number_56 rfl ?_
            refine v_get hC fl_X12_131 m_1 e_501 rfl dX12_number_57 ?_
            refine v_istore_n hC dX12_number_60 (by decide) (lv' := [(3, .int v_513), (0, .ref a_0), (1, .int a_1), (2, .int a_2)]) rfl ?_
            refine v_aload_n hC dX12_number_61 rfl ?_
            refine v_vv hC (rest := []) m_1 e_501 rfl mi_X12_advance ms_X12_advance (p_X12_advance hW_495 k_0) mx_X12_advance ml_X12_156 (by decide) rfl (cells1 := 0) (slots1 := 0) (by decide) (by decide) (Nat.le_of_ble_eq_true rfl) (Nat.le_of_ble_eq_true rfl) rfl (Nat.le_of_ble_eq_true rfl) dX12_number_62 (fun L_536 f_537 h_538 => ?_)
            obtain ⟨rfl, hW_543, hF_544, x_539, x_540, x_541, x_542⟩ := h_538
            have fe_545 : fld (f_488 a_0) 8 = (v_507 : Int32).toInt := by rw [e_501]; rfl
            have fe_546 : fld (f_488 a_0) 12 = (v_514 : Int32).toInt := by rw [e_501]; rfl
            have fe_547 : fld (f_488 a_0) 20 = (v_518 : Int32).toInt := by rw [e_501]; rfl
            obtain ⟨v_549, v_550, v_552, v_554, v_556, v_558, v_560, v_561, v_562, v_563, v_565, e_548, b_551, b_553, b_555, b_557, b_559, b_564, b_566⟩ := hW_543.at m_1 t_2
            have fe_567 : fld (f_537 a_0) 8 = (v_554 : Int32).toInt := by rw [e_548]; rfl
            have fe_568 : fld (f_537 a_0) 9 = (v_556 : Int32).toInt := by rw [e_548]; rfl
            have fe_569 : fld (f_537 a_0) 10 = (v_558 : Int32).toInt := by rw [e_548]; rfl
            have fe_570 : fld (f_537 a_0) 12 = (v_561 : Int32).toInt := by rw [e_548]; rfl
            have fe_571 : fld (f_537 a_0) 20 = (v_565 : Int32).toInt := by rw [e_548]; rfl
            rw [fe_545, fe_568, fe_567] at x_539
            rw [fe_569, fe_568, fe_567] at x_540
            rw [fe_570, fe_546] at x_541
            rw [fe_571, fe_547] at x_542
            clear fe_545 fe_546 fe_547 fe_567 fe_568 fe_569 fe_570 fe_571
            refine v_iload_n hC dX12_number_65 rfl ?_
            have fe_572 : fld (f_537 a_0) 12 = (v_561 : Int32).toInt := by rw [e_548]; rfl
            have fe_573 : fld (f_537 a_0) 8 = (v_554 : Int32).toInt := by rw [e_548]; rfl
            have fe_574 : fld (f_537 a_0) 9 = (v_556 : Int32).toInt := by rw [e_548]; rfl
            have fe_575 : fld (f_537 a_0) 12 = (v_561 : Int32).toInt := by rw [e_548]; rfl
            have fe_576 : fld (f_537 a_0) 8 = (v_554 : Int32).toInt := by rw [e_548]; rfl
            have fe_577 : fld (f_537 a_0) 9 = (v_556 : Int32).toInt := by rw [e_548]; rfl
            have fe_578 : fld (f_537 a_0) 10 = (v_558 : Int32).toInt := by rw [e_548]; rfl
            have fe_579 : fld (f_537 a_0) 12 = (v_561 : Int32).toInt := by rw [e_548]; rfl
            have fe_580 : fld (f_537 a_0) 12 = (v_561 : Int32).toInt := by rw [e_548]; rfl
            have fe_581 : fld (f_537 a_0) 20 = (v_565 : Int32).toInt := by rw [e_548]; rfl
            exact hR _ _ _ _ _ _ _ dX12_number_66 rfl (Nat.le_of_ble_eq_true rfl) (Nat.le_of_ble_eq_true rfl) ⟨rfl, hW_543, ((hF_496.tr hF_544).mono rfl), (by simp only [fe_572, mz_43, true_and, and_true, or_true, true_or, false_or, or_false, false_and, and_false, not_true_eq_false, not_false_eq_true] <;> first | omega | (simp only [Int32.lt_iff_toInt_lt, Int32.le_iff_toInt_le, Int32.reduceToInt, ← Int32.toInt_inj, true_and, and_true, or_true, true_or, false_or, or_false, false_and, and_false, not_true_eq_false, not_false_eq_true] <;> omega)), (by simp only [fe_573, fe_574, fe_575, mz_41, mz_42, true_and, and_true, or_true, true_or, false_or, or_false, false_and, and_false, not_true_eq_false, not_false_eq_true] <;> first | omega | (simp only [Int32.lt_iff_toInt_lt, Int32.le_iff_toInt_le, Int32.reduceToInt, ← Int32.toInt_inj, true_and, and_true, or_true, true_or, false_or, or_false, false_and, and_false, not_true_eq_false, not_false_eq_true] <;> omega)), (by simp only [fe_576, fe_577, fe_578, fe_579, true_and, and_true, or_true, true_or, false_or, or_false, false_and, and_false, not_true_eq_false, not_false_eq_true] <;> first | omega | (simp only [Int32.lt_iff_toInt_lt, Int32.le_iff_toInt_le, Int32.reduceToInt, ← Int32.toInt_inj, true_and, and_true, or_true, true_or, false_or, or_false, false_and, and_false, not_true_eq_false, not_false_eq_true] <;> omega)), (by simp only [fe_580, true_and, and_true, or_true, true_or, false_or, or_false, false_and, and_false, not_true_eq_false, not_false_eq_true] <;> first | omega | (simp only [Int32.lt_iff_toInt_lt, Int32.le_iff_toInt_le, Int32.reduceToInt, ← Int32.toInt_inj, true_and, and_true, or_true, true_or, false_or, or_false, false_and, and_false, not_true_eq_false, not_false_eq_true] <;> omega)), (by simp only [fe_581, mz_44, true_and, and_true, or_true, true_or, false_or, or_false, false_and, and_false, not_true_eq_false, not_false_eq_true] <;> first | omega | (simp only [Int32.lt_iff_toInt_lt, Int32.le_iff_toInt_le, Int32.reduceToInt, ← Int32.toInt_inj, true_and, and_true, or_true, true_or, false_or, or_false, false_and, and_false, not_true_eq_false, not_false_eq_true] <;> omega))⟩
          · simp only [Int32.lt_iff_toInt_lt, Int32.le_iff_toInt_le, Int32.reduceToInt, ← Int32.toInt_inj] at h_534
            refine v_iconst hC dX12_number_54 (v := 0) (by decide) ?_
            have fe_582 : fld (f_488 a_0) 12 = (v_514 : Int32).toInt := by rw [e_501]; rfl
            have fe_583 : fld (f_488 a_0) 8 = (v_507 : Int32).toInt := by rw [e_501]; rfl
            have fe_584 : fld (f_488 a_0) 9 = (v_509 : Int32).toInt := by rw [e_501]; rfl
            have fe_585 : fld (f_488 a_0) 12 = (v_514 : Int32).toInt := by rw [e_501]; rfl
            have fe_586 : fld (f_488 a_0) 8 = (v_507 : Int32).toInt := by rw [e_501]; rfl
            have fe_587 : fld (f_488 a_0) 9 = (v_509 : Int32).toInt := by rw [e_501]; rfl
            have fe_588 : fld (f_488 a_0) 10 = (v_511 : Int32).toInt := by rw [e_501]; rfl
            have fe_589 : fld (f_488 a_0) 12 = (v_514 : Int32).toInt := by rw [e_501]; rfl
            have fe_590 : fld (f_488 a_0) 12 = (v_514 : Int32).toInt := by rw [e_501]; rfl
            have fe_591 : fld (f_488 a_0) 20 = (v_518 : Int32).toInt := by rw [e_501]; rfl
            exact hR _ _ _ _ _ _ _ dX12_number_55 rfl (Nat.le_of_ble_eq_true rfl) (Nat.le_of_ble_eq_true rfl) ⟨rfl, hW_495, (hF_496.mono rfl), (by simp only [fe_582, mz_43, true_and, and_true, or_true, true_or, false_or, or_false, false_and, and_false, not_true_eq_false, not_false_eq_true] <;> first | omega | (simp only [Int32.lt_iff_toInt_lt, Int32.le_iff_toInt_le, Int32.reduceToInt, ← Int32.toInt_inj, true_and, and_true, or_true, true_or, false_or, or_false, false_and, and_false, not_true_eq_false, not_false_eq_true] <;> omega)), (by simp only [fe_583, fe_584, fe_585, mz_41, mz_42, true_and, and_true, or_true, true_or, false_or, or_false, false_and, and_false, not_true_eq_false, not_false_eq_true] <;> first | omega | (simp only [Int32.lt_iff_toInt_lt, Int32.le_iff_toInt_le, Int32.reduceToInt, ← Int32.toInt_inj, true_and, and_true, or_true, true_or, false_or, or_false, false_and, and_false, not_true_eq_false, not_false_eq_true] <;> omega)), (by simp only [fe_586, fe_587, fe_588, fe_589, true_and, and_true, or_true, true_or, false_or, or_false, false_and, and_false, not_true_eq_false, not_false_eq_true] <;> first | omega | (simp only [Int32.lt_iff_toInt_lt, Int32.le_iff_toInt_le, Int32.reduceToInt, ← Int32.toInt_inj, true_and, and_true, or_true, true_or, false_or, or_false, false_and, and_false, not_true_eq_false, not_false_eq_true] <;> omega)), (by simp only [fe_590, true_and, and_true, or_true, true_or, false_or, or_false, false_and, and_false, not_true_eq_false, not_false_eq_true] <;> first | omega | (simp only [Int32.lt_iff_toInt_lt, Int32.le_iff_toInt_le, Int32.reduceToInt, ← Int32.toInt_inj, true_and, and_true, or_true, true_or, false_or, or_false, false_and, and_false, not_true_eq_false, not_false_eq_true] <;> omega)), (by simp only [fe_591, mz_44, true_and, and_true, or_true, true_or, false_or, or_false, false_and, and_false, not_true_eq_false, not_false_eq_true] <;> first | omega | (simp only [Int32.lt_iff_toInt_lt, Int32.le_iff_toInt_le, Int32.reduceToInt, ← Int32.toInt_inj, true_and, and_true, or_true, true_or, false_or, or_false, false_and, and_false, not_true_eq_false, not_false_eq_true] <;> omega))⟩
    · simp only [Int32.lt_iff_toInt_lt, Int32.le_iff_toInt_le, Int32.reduceToInt, ← Int32.toInt_inj] at h_323
      refine v_aload_n hC dX12_number_15 rfl ?_
      refine v_iconst hC dX12_number_16 (v := 1) (by decide) ?_
      refine v_vv hC (rest := []) m_1 e_22 rfl mi_X12_errs ms_X12_errs (p_X12_errs hW k_0 (by decide)) mx_X12_errs ml_X12_162 (by decide) rfl (cells1 := 0) (slots1 := 0) (by decide) (by decide) (Nat.le_of_ble_eq_true rfl) (Nat.le_of_ble_eq_true rfl) rfl (Nat.le_of_ble_eq_true rfl) dX12_number_17 (fun L_593 f_594 h_595 => ?_)
      obtain ⟨rfl, hW_601, hF_602, x_596, x_597, x_598, x_599, x_600⟩ := h_595
      have fe_603 : fld (f a_0) 8 = (v_28 : Int32).toInt := by rw [e_22]; rfl
      have fe_604 : fld (f a_0) 9 = (v_30 : Int32).toInt := by rw [e_22]; rfl
      have fe_605 : fld (f a_0) 10 = (v_32 : Int32).toInt := by rw [e_22]; rfl
      have fe_606 : fld (f a_0) 20 = (v_39 : Int32).toInt := by rw [e_22]; rfl
      obtain ⟨v_608, v_609, v_611, v_613, v_615, v_617, v_619, v_620, v_621, v_622, v_624, e_607, b_610, b_612, b_614, b_616, b_618, b_623, b_625⟩ := hW_601.at m_1 t_2
      have fe_626 : fld (f_594 a_0) 8 = (v_613 : Int32).toInt := by rw [e_607]; rfl
      have fe_627 : fld (f_594 a_0) 9 = (v_615 : Int32).toInt := by rw [e_607]; rfl
      have fe_628 : fld (f_594 a_0) 10 = (v_617 : Int32).toInt := by rw [e_607]; rfl
      have fe_629 : fld (f_594 a_0) 12 = (v_620 : Int32).toInt := by rw [e_607]; rfl
      have fe_630 : fld (f_594 a_0) 20 = (v_624 : Int32).toInt := by rw [e_607]; rfl
      rw [fe_629] at x_596
      rw [fe_626, fe_603] at x_597
      rw [fe_627, fe_604] at x_598
      rw [fe_628, fe_605] at x_599
      rw [fe_630, fe_606] at x_600
      clear fe_603 fe_604 fe_605 fe_606 fe_626 fe_627 fe_628 fe_629 fe_630
      refine v_aload_n hC dX12_number_20 rfl ?_
      refine v_vi hC (rest := []) m_1 e_607 rfl mi_X12_good ms_X12_good (p_X12_good hW_601 k_0) mx_X12_good ml_X12_139 (by decide) rfl (cells1 := 0) (slots1 := 0) (by decide) (by decide) (Nat.le_of_ble_eq_true rfl) (Nat.le_of_ble_eq_true rfl) rfl (Nat.le_of_ble_eq_true rfl) dX12_number_21 (fun r_631 L_632 f_633 h_634 => ?_)
      obtain ⟨rfl, rfl, b_635, x_636⟩ := h_634
      have fe_639 : fld (f_594 a_0) 12 = (v_620 : Int32).toInt := by rw [e_607]; rfl
      rw [fe_639] at x_636
      clear fe_639
      try simp only [Int32.reduceToInt, Int64.reduceToInt] at x_636
      refine v_if_eq hC dX12_number_24 (tgt := 47) (by decide) (fun h_640 => ?_) (fun h_640 => ?_)
      · simp only [Int32.lt_iff_toInt_lt, Int32.le_iff_toInt_le, Int32.reduceToInt, ← Int32.toInt_inj] at h_640
        refine v_aload_n hC dX12_number_47 rfl ?_
        refine v_vi hC (rest := []) m_1 e_607 rfl mi_X12_good ms_X12_good (p_X12_good hW_601 k_0) mx_X12_good ml_X12_139 (by decide) rfl (cells1 := 0) (slots1 := 0) (by decide) (by decide) (Nat.le_of_ble_eq_true rfl) (Nat.le_of_ble_eq_true rfl) rfl (Nat.le_of_ble_eq_true rfl) dX12_number_48 (fun r_641 L_642 f_643 h_644 => ?_)
        obtain ⟨rfl, rfl, b_645, x_646⟩ := h_644
        have fe_649 : fld (f_594 a_0) 12 = (v_620 : Int32).toInt := by rw [e_607]; rfl
        rw [fe_649] at x_646
        clear fe_649
        try simp only [Int32.reduceToInt, Int64.reduceToInt] at x_646
        refine v_if_ne hC dX12_number_51 (tgt := 56) (by decide) (fun h_650 => ?_) (fun h_650 => ?_)
        · simp only [Int32.lt_iff_toInt_lt, Int32.le_iff_toInt_le, Int32.reduceToInt, ← Int32.toInt_inj] at h_650
          refine v_aload_n hC dX12_number_56 rfl ?_
          refine v_get hC fl_X12_131 m_1 e_607 rfl dX12_number_57 ?_
          refine v_istore_n hC dX12_number_60 (by decide) (lv' := [(3, .int v_619), (0, .ref a_0), (1, .int a_1), (2, .int a_2)]) rfl ?_
          refine v_aload_n hC dX12_number_61 rfl ?_
          refine v_vv hC (rest := []) m_1 e_607 rfl mi_X12_advance ms_X12_advance (p_X12_advance hW_601 k_0) mx_X12_advance ml_X12_156 (by decide) rfl (cells1 := 0) (slots1 := 0) (by decide) (by decide) (Nat.le_of_ble_eq_true rfl) (Nat.le_of_ble_eq_true rfl) rfl (Nat.le_of_ble_eq_true rfl) dX12_number_62 (fun L_652 f_653 h_654 => ?_)
          obtain ⟨rfl, hW_659, hF_660, x_655, x_656, x_657, x_658⟩ := h_654
          have fe_661 : fld (f_594 a_0) 8 = (v_613 : Int32).toInt := by rw [e_607]; rfl
          have fe_662 : fld (f_594 a_0) 12 = (v_620 : Int32).toInt := by rw [e_607]; rfl
          have fe_663 : fld (f_594 a_0) 20 = (v_624 : Int32).toInt := by rw [e_607]; rfl
          obtain ⟨v_665, v_666, v_668, v_670, v_672, v_674, v_676, v_677, v_678, v_679, v_681, e_664, b_667, b_669, b_671, b_673, b_675, b_680, b_682⟩ := hW_659.at m_1 t_2
          have fe_683 : fld (f_653 a_0) 8 = (v_670 : Int32).toInt := by rw [e_664]; rfl
          have fe_684 : fld (f_653 a_0) 9 = (v_672 : Int32).toInt := by rw [e_664]; rfl
          have fe_685 : fld (f_653 a_0) 10 = (v_674 : Int32).toInt := by rw [e_664]; rfl
          have fe_686 : fld (f_653 a_0) 12 = (v_677 : Int32).toInt := by rw [e_664]; rfl
          have fe_687 : fld (f_653 a_0) 20 = (v_681 : Int32).toInt := by rw [e_664]; rfl
          rw [fe_661, fe_684, fe_683] at x_655
          rw [fe_685, fe_684, fe_683] at x_656
          rw [fe_686, fe_662] at x_657
          rw [fe_687, fe_663] at x_658
          clear fe_661 fe_662 fe_663 fe_683 fe_684 fe_685 fe_686 fe_687
          refine v_iload_n hC dX12_number_65 rfl ?_
          have fe_688 : fld (f_653 a_0) 12 = (v_677 : Int32).toInt := by rw [e_664]; rfl
          have fe_689 : fld (f_653 a_0) 8 = (v_670 : Int32).toInt := by rw [e_664]; rfl
          have fe_690 : fld (f_653 a_0) 9 = (v_672 : Int32).toInt := by rw [e_664]; rfl
          have fe_691 : fld (f_653 a_0) 12 = (v_677 : Int32).toInt := by rw [e_664]; rfl
          have fe_692 : fld (f_653 a_0) 8 = (v_670 : Int32).toInt := by rw [e_664]; rfl
          have fe_693 : fld (f_653 a_0) 9 = (v_672 : Int32).toInt := by rw [e_664]; rfl
          have fe_694 : fld (f_653 a_0) 10 = (v_674 : Int32).toInt := by rw [e_664]; rfl
          have fe_695 : fld (f_653 a_0) 12 = (v_677 : Int32).toInt := by rw [e_664]; rfl
          have fe_696 : fld (f_653 a_0) 12 = (v_677 : Int32).toInt := by rw [e_664]; rfl
          have fe_697 : fld (f_653 a_0) 20 = (v_681 : Int32).toInt := by rw [e_664]; rfl
          exact hR _ _ _ _ _ _ _ dX12_number_66 rfl (Nat.le_of_ble_eq_true rfl) (Nat.le_of_ble_eq_true rfl) ⟨rfl, hW_659, ((hF_602.tr hF_660).mono rfl), (by simp only [fe_688, mz_43, true_and, and_true, or_true, true_or, false_or, or_false, false_and, and_false, not_true_eq_false, not_false_eq_true] <;> first | omega | (simp only [Int32.lt_iff_toInt_lt, Int32.le_iff_toInt_le, Int32.reduceToInt, ← Int32.toInt_inj, true_and, and_true, or_true, true_or, false_or, or_false, false_and, and_false, not_true_eq_false, not_false_eq_true] <;> omega)), (by simp only [fe_689, fe_690, fe_691, mz_41, mz_42, true_and, and_true, or_true, true_or, false_or, or_false, false_and, and_false, not_true_eq_false, not_false_eq_true] <;> first | omega | (simp only [Int32.lt_iff_toInt_lt, Int32.le_iff_toInt_le, Int32.reduceToInt, ← Int32.toInt_inj, true_and, and_true, or_true, true_or, false_or, or_false, false_and, and_false, not_true_eq_false, not_false_eq_true] <;> omega)), (by simp only [fe_692, fe_693, fe_694, fe_695, true_and, and_true, or_true, true_or, false_or, or_false, false_and, and_false, not_true_eq_false, not_false_eq_true] <;> first | omega | (simp only [Int32.lt_iff_toInt_lt, Int32.le_iff_toInt_le, Int32.reduceToInt, ← Int32.toInt_inj, true_and, and_true, or_true, true_or, false_or, or_false, false_and, and_false, not_true_eq_false, not_false_eq_true] <;> omega)), (by simp only [fe_696, true_and, and_true, or_true, true_or, false_or, or_false, false_and, and_false, not_true_eq_false, not_false_eq_true] <;> first | omega | (simp only [Int32.lt_iff_toInt_lt, Int32.le_iff_toInt_le, Int32.reduceToInt, ← Int32.toInt_inj, true_and, and_true, or_true, true_or, false_or, or_false, false_and, and_false, not_true_eq_false, not_false_eq_true] <;> omega)), (by simp only [fe_697, mz_44, true_and, and_true, or_true, true_or, false_or, or_false, false_and, and_false, not_true_eq_false, not_false_eq_true] <;> first | omega | (simp only [Int32.lt_iff_toInt_lt, Int32.le_iff_toInt_le, Int32.reduceToInt, ← Int32.toInt_inj, true_and, and_true, or_true, true_or, false_or, or_false, false_and, and_false, not_true_eq_false, not_false_eq_true] <;> omega))⟩
        · simp only [Int32.lt_iff_toInt_lt, Int32.le_iff_toInt_le, Int32.reduceToInt, ← Int32.toInt_inj] at h_650
          refine v_iconst hC dX12_number_54 (v := 0) (by decide) ?_
          have fe_698 : fld (f_594 a_0) 12 = (v_620 : Int32).toInt := by rw [e_607]; rfl
          have fe_699 : fld (f_594 a_0) 8 = (v_613 : Int32).toInt := by rw [e_607]; rfl
          have fe_700 : fld (f_594 a_0) 9 = (v_615 : Int32).toInt := by rw [e_607]; rfl
          have fe_701 : fld (f_594 a_0) 12 = (v_620 : Int32).toInt := by rw [e_607]; rfl
          have fe_702 : fld (f_594 a_0) 8 = (v_613 : Int32).toInt := by rw [e_607]; rfl
          have fe_703 : fld (f_594 a_0) 9 = (v_615 : Int32).toInt := by rw [e_607]; rfl
          have fe_704 : fld (f_594 a_0) 10 = (v_617 : Int32).toInt := by rw [e_607]; rfl
          have fe_705 : fld (f_594 a_0) 12 = (v_620 : Int32).toInt := by rw [e_607]; rfl
          have fe_706 : fld (f_594 a_0) 12 = (v_620 : Int32).toInt := by rw [e_607]; rfl
          have fe_707 : fld (f_594 a_0) 20 = (v_624 : Int32).toInt := by rw [e_607]; rfl
          exact hR _ _ _ _ _ _ _ dX12_number_55 rfl (Nat.le_of_ble_eq_true rfl) (Nat.le_of_ble_eq_true rfl) ⟨rfl, hW_601, (hF_602.mono rfl), (by simp only [fe_698, mz_43, true_and, and_true, or_true, true_or, false_or, or_false, false_and, and_false, not_true_eq_false, not_false_eq_true] <;> first | omega | (simp only [Int32.lt_iff_toInt_lt, Int32.le_iff_toInt_le, Int32.reduceToInt, ← Int32.toInt_inj, true_and, and_true, or_true, true_or, false_or, or_false, false_and, and_false, not_true_eq_false, not_false_eq_true] <;> omega)), (by simp only [fe_699, fe_700, fe_701, mz_41, mz_42, true_and, and_true, or_true, true_or, false_or, or_false, false_and, and_false, not_true_eq_false, not_false_eq_true] <;> first | omega | (simp only [Int32.lt_iff_toInt_lt, Int32.le_iff_toInt_le, Int32.reduceToInt, ← Int32.toInt_inj, true_and, and_true, or_true, true_or, false_or, or_false, false_and, and_false, not_true_eq_false, not_false_eq_true] <;> omega)), (by simp only [fe_702, fe_703, fe_704, fe_705, true_and, and_true, or_true, true_or, false_or, or_false, false_and, and_false, not_true_eq_false, not_false_eq_true] <;> first | omega | (simp only [Int32.lt_iff_toInt_lt, Int32.le_iff_toInt_le, Int32.reduceToInt, ← Int32.toInt_inj, true_and, and_true, or_true, true_or, false_or, or_false, false_and, and_false, not_true_eq_false, not_false_eq_true] <;> omega)), (by simp only [fe_706, true_and, and_true, or_true, true_or, false_or, or_false, false_and, and_false, not_true_eq_false, not_false_eq_true] <;> first | omega | (simp only [Int32.lt_iff_toInt_lt, Int32.le_iff_toInt_le, Int32.reduceToInt, ← Int32.toInt_inj, true_and, and_true, or_true, true_or, false_or, or_false, false_and, and_false, not_true_eq_false, not_false_eq_true] <;> omega)), (by simp only [fe_707, mz_44, true_and, and_true, or_true, true_or, false_or, or_false, false_and, and_false, not_true_eq_false, not_false_eq_true] <;> first | omega | (simp only [Int32.lt_iff_toInt_lt, Int32.le_iff_toInt_le, Int32.reduceToInt, ← Int32.toInt_inj, true_and, and_true, or_true, true_or, false_or, or_false, false_and, and_false, not_true_eq_false, not_false_eq_true] <;> omega))⟩
      · simp only [Int32.lt_iff_toInt_lt, Int32.le_iff_toInt_le, Int32.reduceToInt, ← Int32.toInt_inj] at h_640
        refine v_aload_n hC dX12_number_27 rfl ?_
        refine v_get hC fl_X12_131 m_1 e_607 rfl dX12_number_28 ?_
        obtain ⟨v_708, h_709⟩ : ∃ v9 : Int64, v_619.toInt64 = v9 := ⟨_, rfl⟩
        refine v_i2l hC dX12_number_31 h_709 ?_
        have h_710 : v_708.toInt = v_619.toInt := by rw [← h_709]; exact Int32.toInt_toInt64 _
        refine v_iload_n hC dX12_number_32 rfl ?_
        obtain ⟨v_711, h_712⟩ : ∃ v9 : Int64, a_1.toInt64 = v9 := ⟨_, rfl⟩
        refine v_i2l hC dX12_number_33 h_712 ?_
        have h_713 : v_711.toInt = a_1.toInt := by rw [← h_712]; exact Int32.toInt_toInt64 _
        refine v_iload_n hC dX12_number_34 rfl ?_
        obtain ⟨v_714, h_715⟩ : ∃ v9 : Int64, a_2.toInt64 = v9 := ⟨_, rfl⟩
        refine v_i2l hC dX12_number_35 h_715 ?_
        have h_716 : v_714.toInt = a_2.toInt := by rw [← h_715]; exact Int32.toInt_toInt64 _
        refine v_si hC (rest := []) mt_X12_in (p_X12_in hW_601) mx_X12_in ml_X12_79 (by decide) rfl (cells1 := 0) (slots1 := 0) (by decide) (by decide) (Nat.le_of_ble_eq_true rfl) (Nat.le_of_ble_eq_true rfl) rfl (Nat.le_of_ble_eq_true rfl) dX12_number_36 (fun r_717 L_718 f_719 h_720 => ?_)
        obtain ⟨rfl, rfl, b_721, x_722⟩ := h_720
        try simp only [Int32.reduceToInt, Int64.reduceToInt] at x_722
        refine v_if_ne hC dX12_number_39 (tgt := 47) (by decide) (fun h_725 => ?_) (fun h_725 => ?_)
        · simp only [Int32.lt_iff_toInt_lt, Int32.le_iff_toInt_le, Int32.reduceToInt, ← Int32.toInt_inj] at h_725
          refine v_aload_n hC dX12_number_47 rfl ?_
          refine v_vi hC (rest := []) m_1 e_607 rfl mi_X12_good ms_X12_good (p_X12_good hW_601 k_0) mx_X12_good ml_X12_139 (by decide) rfl (cells1 := 0) (slots1 := 0) (by decide) (by decide) (Nat.le_of_ble_eq_true rfl) (Nat.le_of_ble_eq_true rfl) rfl (Nat.le_of_ble_eq_true rfl) dX12_number_48 (fun r_726 L_727 f_728 h_729 => ?_)
          obtain ⟨rfl, rfl, b_730, x_731⟩ := h_729
          have fe_734 : fld (f_594 a_0) 12 = (v_620 : Int32).toInt := by rw [e_607]; rfl
          rw [fe_734] at x_731
          clear fe_734
          try simp only [Int32.reduceToInt, Int64.reduceToInt] at x_731
          refine v_if_ne hC dX12_number_51 (tgt := 56) (by decide) (fun h_735 => ?_) (fun h_735 => ?_)
          · simp only [Int32.lt_iff_toInt_lt, Int32.le_iff_toInt_le, Int32.reduceToInt, ← Int32.toInt_inj] at h_735
            refine v_aload_n hC dX12_number_56 rfl ?_
            refine v_get hC fl_X12_131 m_1 e_607 rfl dX12_number_57 ?_
            refine v_istore_n hC dX12_number_60 (by decide) (lv' := [(3, .int v_619), (0, .ref a_0), (1, .int a_1), (2, .int a_2)]) rfl ?_
            refine v_aload_n hC dX12_number_61 rfl ?_
            refine v_vv hC (rest := []) m_1 e_607 rfl mi_X12_advance ms_X12_advance (p_X12_advance hW_601 k_0) mx_X12_advance ml_X12_156 (by decide) rfl (cells1 := 0) (slots1 := 0) (by decide) (by decide) (Nat.le_of_ble_eq_true rfl) (Nat.le_of_ble_eq_true rfl) rfl (Nat.le_of_ble_eq_true rfl) dX12_number_62 (fun L_737 f_738 h_739 => ?_)
            obtain ⟨rfl, hW_744, hF_745, x_740, x_741, x_742, x_743⟩ := h_739
            have fe_746 : fld (f_594 a_0) 8 = (v_613 : Int32).toInt := by rw [e_607]; rfl
            have fe_747 : fld (f_594 a_0) 12 = (v_620 : Int32).toInt := by rw [e_607]; rfl
            have fe_748 : fld (f_594 a_0) 20 = (v_624 : Int32).toInt := by rw [e_607]; rfl
            obtain ⟨v_750, v_751, v_753, v_755, v_757, v_759, v_761, v_762, v_763, v_764, v_766, e_749, b_752, b_754, b_756, b_758, b_760, b_765, b_767⟩ := hW_744.at m_1 t_2
            have fe_768 : fld (f_738 a_0) 8 = (v_755 : Int32).toInt := by rw [e_749]; rfl
            have fe_769 : fld (f_738 a_0) 9 = (v_757 : Int32).toInt := by rw [e_749]; rfl
            have fe_770 : fld (f_738 a_0) 10 = (v_759 : Int32).toInt := by rw [e_749]; rfl
            have fe_771 : fld (f_738 a_0) 12 = (v_762 : Int32).toInt := by rw [e_749]; rfl
            have fe_772 : fld (f_738 a_0) 20 = (v_766 : Int32).toInt := by rw [e_749]; rfl
            rw [fe_746, fe_769, fe_768] at x_740
            rw [fe_770, fe_769, fe_768] at x_741
            rw [fe_771, fe_747] at x_742
            rw [fe_772, fe_748] at x_743
            clear fe_746 fe_747 fe_748 fe_768 fe_769 fe_770 fe_771 fe_772
            refine v_iload_n hC dX12_number_65 rfl ?_
            have fe_773 : fld (f_738 a_0) 12 = (v_762 : Int32).toInt := by rw [e_749]; rfl
            have fe_774 : fld (f_738 a_0) 8 = (v_755 : Int32).toInt := by rw [e_749]; rfl
            have fe_775 : fld (f_738 a_0) 9 = (v_757 : Int32).toInt := by rw [e_749]; rfl
            have fe_776 : fld (f_738 a_0) 12 = (v_762 : Int32).toInt := by rw [e_749]; rfl
            have fe_777 : fld (f_738 a_0) 8 = (v_755 : Int32).toInt := by rw [e_749]; rfl
            have fe_778 : fld (f_738 a_0) 9 = (v_757 : Int32).toInt := by rw [e_749]; rfl
            have fe_779 : fld (f_738 a_0) 10 = (v_759 : Int32).toInt := by rw [e_749]; rfl
            have fe_780 : fld (f_738 a_0) 12 = (v_762 : Int32).toInt := by rw [e_749]; rfl
            have fe_781 : fld (f_738 a_0) 12 = (v_762 : Int32).toInt := by rw [e_749]; rfl
            have fe_782 : fld (f_738 a_0) 20 = (v_766 : Int32).toInt := by rw [e_749]; rfl
            exact hR _ _ _ _ _ _ _ dX12_number_66 rfl (Nat.le_of_ble_eq_true rfl) (Nat.le_of_ble_eq_true rfl) ⟨rfl, hW_744, ((hF_602.tr hF_745).mono rfl), (by simp only [fe_773, mz_43, true_and, and_true, or_true, true_or, false_or, or_false, false_and, and_false, not_true_eq_false, not_false_eq_true] <;> first | omega | (simp only [Int32.lt_iff_toInt_lt, Int32.le_iff_toInt_le, Int32.reduceToInt, ← Int32.toInt_inj, true_and, and_true, or_true, true_or, false_or, or_false, false_and, and_false, not_true_eq_false, not_false_eq_true] <;> omega)), (by simp only [fe_774, fe_775, fe_776, mz_41, mz_42, true_and, and_true, or_true, true_or, false_or, or_false, false_and, and_false, not_true_eq_false, not_false_eq_true] <;> first | omega | (simp only [Int32.lt_iff_toInt_lt, Int32.le_iff_toInt_le, Int32.reduceToInt, ← Int32.toInt_inj, true_and, and_true, or_true, true_or, false_or, or_false, false_and, and_false, not_true_eq_false, not_false_eq_true] <;> omega)), (by simp only [fe_777, fe_778, fe_779, fe_780, true_and, and_true, or_true, true_or, false_or, or_false, false_and, and_false, not_true_eq_false, not_false_eq_true] <;> first | omega | (simp only [Int32.lt_iff_toInt_lt, Int32.le_iff_toInt_le, Int32.reduceToInt, ← Int32.toInt_inj, true_and, and_true, or_true, true_or, false_or, or_false, false_and, and_false, not_true_eq_false, not_false_eq_true] <;> omega)), (by simp only [fe_781, true_and, and_true, or_true, true_or, false_or, or_false, false_and, and_false, not_true_eq_false, not_false_eq_true] <;> first | omega | (simp only [Int32.lt_iff_toInt_lt, Int32.le_iff_toInt_le, Int32.reduceToInt, ← Int32.toInt_inj, true_and, and_true, or_true, true_or, false_or, or_false, false_and, and_false, not_true_eq_false, not_false_eq_true] <;> omega)), (by simp only [fe_782, mz_44, true_and, and_true, or_true, true_or, false_or, or_false, false_and, and_false, not_true_eq_false, not_false_eq_true] <;> first | omega | (simp only [Int32.lt_iff_toInt_lt, Int32.le_iff_toInt_le, Int32.reduceToInt, ← Int32.toInt_inj, true_and, and_true, or_true, true_or, false_or, or_false, false_and, and_false, not_true_eq_false, not_false_eq_true] <;> omega))⟩
          · simp only [Int32.lt_iff_toInt_lt, Int32.le_iff_toInt_le, Int32.reduceToInt, ← Int32.toInt_inj] at h_735
            refine v_iconst hC dX12_number_54 (v := 0) (by decide) ?_
            have fe_783 : fld (f_594 a_0) 12 = (v_620 : Int32).toInt := by rw [e_607]; rfl
            have fe_784 : fld (f_594 a_0) 8 = (v_613 : Int32).toInt := by rw [e_607]; rfl
            have fe_785 : fld (f_594 a_0) 9 = (v_615 : Int32).toInt := by rw [e_607]; rfl
            have fe_786 : fld (f_594 a_0) 12 = (v_620 : Int32).toInt := by rw [e_607]; rfl
            have fe_787 : fld (f_594 a_0) 8 = (v_613 : Int32).toInt := by rw [e_607]; rfl
            have fe_788 : fld (f_594 a_0) 9 = (v_615 : Int32).toInt := by rw [e_607]; rfl
            have fe_789 : fld (f_594 a_0) 10 = (v_617 : Int32).toInt := by rw [e_607]; rfl
            have fe_790 : fld (f_594 a_0) 12 = (v_620 : Int32).toInt := by rw [e_607]; rfl
            have fe_791 : fld (f_594 a_0) 12 = (v_620 : Int32).toInt := by rw [e_607]; rfl
            have fe_792 : fld (f_594 a_0) 20 = (v_624 : Int32).toInt := by rw [e_607]; rfl
            exact hR _ _ _ _ _ _ _ dX12_number_55 rfl (Nat.le_of_ble_eq_true rfl) (Nat.le_of_ble_eq_true rfl) ⟨rfl, hW_601, (hF_602.mono rfl), (by simp only [fe_783, mz_43, true_and, and_true, or_true, true_or, false_or, or_false, false_and, and_false, not_true_eq_false, not_false_eq_true] <;> first | omega | (simp only [Int32.lt_iff_toInt_lt, Int32.le_iff_toInt_le, Int32.reduceToInt, ← Int32.toInt_inj, true_and, and_true, or_true, true_or, false_or, or_false, false_and, and_false, not_true_eq_false, not_false_eq_true] <;> omega)), (by simp only [fe_784, fe_785, fe_786, mz_41, mz_42, true_and, and_true, or_true, true_or, false_or, or_false, false_and, and_false, not_true_eq_false, not_false_eq_true] <;> first | omega | (simp only [Int32.lt_iff_toInt_lt, Int32.le_iff_toInt_le, Int32.reduceToInt, ← Int32.toInt_inj, true_and, and_true, or_true, true_or, false_or, or_false, false_and, and_false, not_true_eq_false, not_false_eq_true] <;> omega)), (by simp only [fe_787, fe_788, fe_789, fe_790, true_and, and_true, or_true, true_or, false_or, or_false, false_and, and_false, not_true_eq_false, not_false_eq_true] <;> first | omega | (simp only [Int32.lt_iff_toInt_lt, Int32.le_iff_toInt_le, Int32.reduceToInt, ← Int32.toInt_inj, true_and, and_true, or_true, true_or, false_or, or_false, false_and, and_false, not_true_eq_false, not_false_eq_true] <;> omega)), (by simp only [fe_791, true_and, and_true, or_true, true_or, false_or, or_false, false_and, and_false, not_true_eq_false, not_false_eq_true] <;> first | omega | (simp only [Int32.lt_iff_toInt_lt, Int32.le_iff_toInt_le, Int32.reduceToInt, ← Int32.toInt_inj, true_and, and_true, or_true, true_or, false_or, or_false, false_and, and_false, not_true_eq_false, not_false_eq_true] <;> omega)), (by simp only [fe_792, mz_44, true_and, and_true, or_true, true_or, false_or, or_false, false_and, and_false, not_true_eq_false, not_false_eq_true] <;> first | omega | (simp only [Int32.lt_iff_toInt_lt, Int32.le_iff_toInt_le, Int32.reduceToInt, ← Int32.toInt_inj, true_and, and_true, or_true, true_or, false_or, or_false, false_and, and_false, not_true_eq_false, not_false_eq_true] <;> omega))⟩
        · simp only [Int32.lt_iff_toInt_lt, Int32.le_iff_toInt_le, Int32.reduceToInt, ← Int32.toInt_inj] at h_725
          refine v_aload_n hC dX12_number_42 rfl ?_
          refine v_iconst hC dX12_number_43 (v := 2) (by decide) ?_
          refine v_vv hC (rest := []) m_1 e_607 rfl mi_X12_errs ms_X12_errs (p_X12_errs hW_601 k_0 (by decide)) mx_X12_errs ml_X12_162 (by decide) rfl (cells1 := 0) (slots1 := 0) (by decide) (by decide) (Nat.le_of_ble_eq_true rfl) (Nat.le_of_ble_eq_true rfl) rfl (Nat.le_of_ble_eq_true rfl) dX12_number_44 (fun L_794 f_795 h_796 => ?_)
          obtain ⟨rfl, hW_802, hF_803, x_797, x_798, x_799, x_800, x_801⟩ := h_796
          have fe_804 : fld (f_594 a_0) 8 = (v_613 : Int32).toInt := by rw [e_607]; rfl
          have fe_805 : fld (f_594 a_0) 9 = (v_615 : Int32).toInt := by rw [e_607]; rfl
          have fe_806 : fld (f_594 a_0) 10 = (v_617 : Int32).toInt := by rw [e_607]; rfl
          have fe_807 : fld (f_594 a_0) 20 = (v_624 : Int32).toInt := by rw [e_607]; rfl
          obtain ⟨v_809, v_810, v_812, v_814, v_816, v_818, v_820, v_821, v_822, v_823, v_825, e_808, b_811, b_813, b_815, b_817, b_819, b_824, b_826⟩ := hW_802.at m_1 t_2
          have fe_827 : fld (f_795 a_0) 8 = (v_814 : Int32).toInt := by rw [e_808]; rfl
          have fe_828 : fld (f_795 a_0) 9 = (v_816 : Int32).toInt := by rw [e_808]; rfl
          have fe_829 : fld (f_795 a_0) 10 = (v_818 : Int32).toInt := by rw [e_808]; rfl
          have fe_830 : fld (f_795 a_0) 12 = (v_821 : Int32).toInt := by rw [e_808]; rfl
          have fe_831 : fld (f_795 a_0) 20 = (v_825 : Int32).toInt := by rw [e_808]; rfl
          rw [fe_830] at x_797
          rw [fe_827, fe_804] at x_798
          rw [fe_828, fe_805] at x_799
          rw [fe_829, fe_806] at x_800
          rw [fe_831, fe_807] at x_801
          clear fe_804 fe_805 fe_806 fe_807 fe_827 fe_828 fe_829 fe_830 fe_831
          refine v_aload_n hC dX12_number_47 rfl ?_
          refine v_vi hC (rest := []) m_1 e_808 rfl mi_X12_good ms_X12_good (p_X12_good hW_802 k_0) mx_X12_good ml_X12_139 (by decide) rfl (cells1 := 0) (slots1 := 0) (by decide) (by decide) (Nat.le_of_ble_eq_true rfl) (Nat.le_of_ble_eq_true rfl) rfl (Nat.le_of_ble_eq_true rfl) dX12_number_48 (fun r_832 L_833 f_834 h_835 => ?_)
          obtain ⟨rfl, rfl, b_836, x_837⟩ := h_835
          have fe_840 : fld (f_795 a_0) 12 = (v_821 : Int32).toInt := by rw [e_808]; rfl
          rw [fe_840] at x_837
          clear fe_840
          try simp only [Int32.reduceToInt, Int64.reduceToInt] at x_837
          refine v_if_ne hC dX12_number_51 (tgt := 56) (by decide) (fun h_841 => ?_) (fun h_841 => ?_)
          · simp only [Int32.lt_iff_toInt_lt, Int32.le_iff_toInt_le, Int32.reduceToInt, ← Int32.toInt_inj] at h_841
            refine v_aload_n hC dX12_number_56 rfl ?_
            refine v_get hC fl_X12_131 m_1 e_808 rfl dX12_number_57 ?_
            refine v_istore_n hC dX12_number_60 (by decide) (lv' := [(3, .int v_820), (0, .ref a_0), (1, .int a_1), (2, .int a_2)]) rfl ?_
            refine v_aload_n hC dX12_number_61 rfl ?_
            refine v_vv hC (rest := []) m_1 e_808 rfl mi_X12_advance ms_X12_advance (p_X12_advance hW_802 k_0) mx_X12_advance ml_X12_156 (by decide) rfl (cells1 := 0) (slots1 := 0) (by decide) (by decide) (Nat.le_of_ble_eq_true rfl) (Nat.le_of_ble_eq_true rfl) rfl (Nat.le_of_ble_eq_true rfl) dX12_number_62 (fun L_843 f_844 h_845 => ?_)
            obtain ⟨rfl, hW_850, hF_851, x_846, x_847, x_848, x_849⟩ := h_845
            have fe_852 : fld (f_795 a_0) 8 = (v_814 : Int32).toInt := by rw [e_808]; rfl
            have fe_853 : fld (f_795 a_0) 12 = (v_821 : Int32).toInt := by rw [e_808]; rfl
            have fe_854 : fld (f_795 a_0) 20 = (v_825 : Int32).toInt := by rw [e_808]; rfl
            obtain ⟨v_856, v_857, v_859, v_861, v_863, v_865, v_867, v_868, v_869, v_870, v_872, e_855, b_858, b_860, b_862, b_864, b_866, b_871, b_873⟩ := hW_850.at m_1 t_2
            have fe_874 : fld (f_844 a_0) 8 = (v_861 : Int32).toInt := by rw [e_855]; rfl
            have fe_875 : fld (f_844 a_0) 9 = (v_863 : Int32).toInt := by rw [e_855]; rfl
            have fe_876 : fld (f_844 a_0) 10 = (v_865 : Int32).toInt := by rw [e_855]; rfl
            have fe_877 : fld (f_844 a_0) 12 = (v_868 : Int32).toInt := by rw [e_855]; rfl
            have fe_878 : fld (f_844 a_0) 20 = (v_872 : Int32).toInt := by rw [e_855]; rfl
            rw [fe_852, fe_875, fe_874] at x_846
            rw [fe_876, fe_875, fe_874] at x_847
            rw [fe_877, fe_853] at x_848
            rw [fe_878, fe_854] at x_849
            clear fe_852 fe_853 fe_854 fe_874 fe_875 fe_876 fe_877 fe_878
            refine v_iload_n hC dX12_number_65 rfl ?_
            have fe_879 : fld (f_844 a_0) 12 = (v_868 : Int32).toInt := by rw [e_855]; rfl
            have fe_880 : fld (f_844 a_0) 8 = (v_861 : Int32).toInt := by rw [e_855]; rfl
            have fe_881 : fld (f_844 a_0) 9 = (v_863 : Int32).toInt := by rw [e_855]; rfl
            have fe_882 : fld (f_844 a_0) 12 = (v_868 : Int32).toInt := by rw [e_855]; rfl
            have fe_883 : fld (f_844 a_0) 8 = (v_861 : Int32).toInt := by rw [e_855]; rfl
            have fe_884 : fld (f_844 a_0) 9 = (v_863 : Int32).toInt := by rw [e_855]; rfl
            have fe_885 : fld (f_844 a_0) 10 = (v_865 : Int32).toInt := by rw [e_855]; rfl
            have fe_886 : fld (f_844 a_0) 12 = (v_868 : Int32).toInt := by rw [e_855]; rfl
            have fe_887 : fld (f_844 a_0) 12 = (v_868 : Int32).toInt := by rw [e_855]; rfl
            have fe_888 : fld (f_844 a_0) 20 = (v_872 : Int32).toInt := by rw [e_855]; rfl
            exact hR _ _ _ _ _ _ _ dX12_number_66 rfl (Nat.le_of_ble_eq_true rfl) (Nat.le_of_ble_eq_true rfl) ⟨rfl, hW_850, (((hF_602.tr hF_803).tr hF_851).mono rfl), (by simp only [fe_879, mz_43, true_and, and_true, or_true, true_or, false_or, or_false, false_and, and_false, not_true_eq_false, not_false_eq_true] <;> first | omega | (simp only [Int32.lt_iff_toInt_lt, Int32.le_iff_toInt_le, Int32.reduceToInt, ← Int32.toInt_inj, true_and, and_true, or_true, true_or, false_or, or_false, false_and, and_false, not_true_eq_false, not_false_eq_true] <;> omega)), (by simp only [fe_880, fe_881, fe_882, mz_41, mz_42, true_and, and_true, or_true, true_or, false_or, or_false, false_and, and_false, not_true_eq_false, not_false_eq_true] <;> first | omega | (simp only [Int32.lt_iff_toInt_lt, Int32.le_iff_toInt_le, Int32.reduceToInt, ← Int32.toInt_inj, true_and, and_true, or_true, true_or, false_or, or_false, false_and, and_false, not_true_eq_false, not_false_eq_true] <;> omega)), (by simp only [fe_883, fe_884, fe_885, fe_886, true_and, and_true, or_true, true_or, false_or, or_false, false_and, and_false, not_true_eq_false, not_false_eq_true] <;> first | omega | (simp only [Int32.lt_iff_toInt_lt, Int32.le_iff_toInt_le, Int32.reduceToInt, ← Int32.toInt_inj, true_and, and_true, or_true, true_or, false_or, or_false, false_and, and_false, not_true_eq_false, not_false_eq_true] <;> omega)), (by simp only [fe_887, true_and, and_true, or_true, true_or, false_or, or_false, false_and, and_false, not_true_eq_false, not_false_eq_true] <;> first | omega | (simp only [Int32.lt_iff_toInt_lt, Int32.le_iff_toInt_le, Int32.reduceToInt, ← Int32.toInt_inj, true_and, and_true, or_true, true_or, false_or, or_false, false_and, and_false, not_true_eq_false, not_false_eq_true] <;> omega)), (by simp only [fe_888, mz_44, true_and, and_true, or_true, true_or, false_or, or_false, false_and, and_false, not_true_eq_false, not_false_eq_true] <;> first | omega | (simp only [Int32.lt_iff_toInt_lt, Int32.le_iff_toInt_le, Int32.reduceToInt, ← Int32.toInt_inj, true_and, and_true, or_true, true_or, false_or, or_false, false_and, and_false, not_true_eq_false, not_false_eq_true] <;> omega))⟩
          · simp only [Int32.lt_iff_toInt_lt, Int32.le_iff_toInt_le, Int32.reduceToInt, ← Int32.toInt_inj] at h_841
            refine v_iconst hC dX12_number_54 (v := 0) (by decide) ?_
            have fe_889 : fld (f_795 a_0) 12 = (v_821 : Int32).toInt := by rw [e_808]; rfl
            have fe_890 : fld (f_795 a_0) 8 = (v_814 : Int32).toInt := by rw [e_808]; rfl
            have fe_891 : fld (f_795 a_0) 9 = (v_816 : Int32).toInt := by rw [e_808]; rfl
            have fe_892 : fld (f_795 a_0) 12 = (v_821 : Int32).toInt := by rw [e_808]; rfl
            have fe_893 : fld (f_795 a_0) 8 = (v_814 : Int32).toInt := by rw [e_808]; rfl
            have fe_894 : fld (f_795 a_0) 9 = (v_816 : Int32).toInt := by rw [e_808]; rfl
            have fe_895 : fld (f_795 a_0) 10 = (v_818 : Int32).toInt := by rw [e_808]; rfl
            have fe_896 : fld (f_795 a_0) 12 = (v_821 : Int32).toInt := by rw [e_808]; rfl
            have fe_897 : fld (f_795 a_0) 12 = (v_821 : Int32).toInt := by rw [e_808]; rfl
            have fe_898 : fld (f_795 a_0) 20 = (v_825 : Int32).toInt := by rw [e_808]; rfl
            exact hR _ _ _ _ _ _ _ dX12_number_55 rfl (Nat.le_of_ble_eq_true rfl) (Nat.le_of_ble_eq_true rfl) ⟨rfl, hW_802, ((hF_602.tr hF_803).mono rfl), (by simp only [fe_889, mz_43, true_and, and_true, or_true, true_or, false_or, or_false, false_and, and_false, not_true_eq_false, not_false_eq_true] <;> first | omega | (simp only [Int32.lt_iff_toInt_lt, Int32.le_iff_toInt_le, Int32.reduceToInt, ← Int32.toInt_inj, true_and, and_true, or_true, true_or, false_or, or_false, false_and, and_false, not_true_eq_false, not_false_eq_true] <;> omega)), (by simp only [fe_890, fe_891, fe_892, mz_41, mz_42, true_and, and_true, or_true, true_or, false_or, or_false, false_and, and_false, not_true_eq_false, not_false_eq_true] <;> first | omega | (simp only [Int32.lt_iff_toInt_lt, Int32.le_iff_toInt_le, Int32.reduceToInt, ← Int32.toInt_inj, true_and, and_true, or_true, true_or, false_or, or_false, false_and, and_false, not_true_eq_false, not_false_eq_true] <;> omega)), (by simp only [fe_893, fe_894, fe_895, fe_896, true_and, and_true, or_true, true_or, false_or, or_false, false_and, and_false, not_true_eq_false, not_false_eq_true] <;> first | omega | (simp only [Int32.lt_iff_toInt_lt, Int32.le_iff_toInt_le, Int32.reduceToInt, ← Int32.toInt_inj, true_and, and_true, or_true, true_or, false_or, or_false, false_and, and_false, not_true_eq_false, not_false_eq_true] <;> omega)), (by simp only [fe_897, true_and, and_true, or_true, true_or, false_or, or_false, false_and, and_false, not_true_eq_false, not_false_eq_true] <;> first | omega | (simp only [Int32.lt_iff_toInt_lt, Int32.le_iff_toInt_le, Int32.reduceToInt, ← Int32.toInt_inj, true_and, and_true, or_true, true_or, false_or, or_false, false_and, and_false, not_true_eq_false, not_false_eq_true] <;> omega)), (by simp only [fe_898, mz_44, true_and, and_true, or_true, true_or, false_or, or_false, false_and, and_false, not_true_eq_false, not_false_eq_true] <;> first | omega | (simp only [Int32.lt_iff_toInt_lt, Int32.le_iff_toInt_le, Int32.reduceToInt, ← Int32.toInt_inj, true_and, and_true, or_true, true_or, false_or, or_false, false_and, and_false, not_true_eq_false, not_false_eq_true] <;> omega))⟩
set_option maxRecDepth 100000 in
set_option maxHeartbeats 1500000 in
theorem p_X12_needs {l : Launch} {E : Ez} {L : List Nat} {f : Nat → va_E} {T : Nat → va_E → Prop} {a_0 : Nat} {a_1 : Nat} {q : Nat → Nat} (hW : WT T L f) (k_0 : isM T L E a_0 q) (ha_1 : a_1 < 77) : CV l yX12_needs cX12_needs 2 6 0 0 E [.ref a_0, .ref (eK E a_1)] L f (fun L1 f1 => L = L1 ∧ WT T L f1 ∧ FR [12] f f1 ∧ (¬ fld (f1 a_0) 12 = 0 ∨ ((iw (f a_0) (f (q 4)) a_1).toInt = 1 ∧ fld (f a_0) 8 ≤ fld (f1 a_0) 9 ∧ fld (f1 a_0) 9 ≤ fld (f1 a_0) 8)) ∧ (¬ fld (f1 a_0) 12 = 0 ∨ fld (f1 a_0) 10 = 0 ∨ fld (f1 a_0) 9 < fld (f1 a_0) 8) ∧ (¬ fld (f1 a_0) 12 = 0 ∨ fld (f a_0) 12 = 0) ∧ fld (f1 a_0) 20 = fld (f a_0) 20) := by
  refine cv_of (by decide) (Nat.le_of_ble_eq_true rfl) (fun z hz hnm hC hR => ?_)
  have hC : Cx z E cX12_needs RX12 2 6 0 0 := hC
  subst hz
  show V z E 2 0 0 L f 0 [(0, .ref a_0), (1, .ref (eK E a_1))] []
  obtain ⟨m_1, t_2, nq_21, k_3, k_4, k_5, k_6, k_7, k_8, k_9, k_10, k_11, k_12, k_13, k_14, k_15, k_16, k_17, k_18, k_19, k_20⟩ := id k_0
  obtain ⟨v_23, v_24, v_26, v_28, v_30, v_32, v_34, v_35, v_36, v_37, v_39, e_22, b_25, b_27, b_29, b_31, b_33, b_38, b_40⟩ := hW.at m_1 t_2
  have mz_41 : fld (f a_0) 8 = v_28.toInt := by rw [e_22]; rfl
  have mz_42 : fld (f a_0) 12 = v_35.toInt := by rw [e_22]; rfl
  have mz_43 : fld (f a_0) 20 = v_39.toInt := by rw [e_22]; rfl
  refine v_aload_n hC dX12_needs_0 rfl ?_
  refine v_aload_n hC dX12_needs_1 rfl ?_
  refine v_vi hC (rest := []) m_1 e_22 rfl mi_X12_takes ms_X12_takes (p_X12_takes hW k_0 ha_1) mx_X12_takes ml_X12_159 (by decide) rfl (cells1 := 0) (slots1 := 0) (by decide) (by decide) (Nat.le_of_ble_eq_true rfl) (Nat.le_of_ble_eq_true rfl) rfl (Nat.le_of_ble_eq_true rfl) dX12_needs_2 (fun r_44 L_45 f_46 h_47 => ?_)
  obtain ⟨rfl, hW_52, hF_53, rfl, x_48, x_49, x_50, x_51⟩ := h_47
  have fe_54 : fld (f a_0) 8 = (v_28 : Int32).toInt := by rw [e_22]; rfl
  have fe_55 : fld (f a_0) 9 = (v_30 : Int32).toInt := by rw [e_22]; rfl
  have fe_56 : fld (f a_0) 10 = (v_32 : Int32).toInt := by rw [e_22]; rfl
  have fe_57 : fld (f a_0) 12 = (v_35 : Int32).toInt := by rw [e_22]; rfl
  have fe_58 : fld (f a_0) 20 = (v_39 : Int32).toInt := by rw [e_22]; rfl
  have ib_59 := iw_b (f a_0) (f (q 4)) a_1
  rw [fe_57, fe_56, fe_54, fe_55] at ib_59
  obtain ⟨v_61, v_62, v_64, v_66, v_68, v_70, v_72, v_73, v_74, v_75, v_77, e_60, b_63, b_65, b_67, b_69, b_71, b_76, b_78⟩ := hW_52.at m_1 t_2
  have fe_79 : fld (f_46 a_0) 8 = (v_66 : Int32).toInt := by rw [e_60]; rfl
  have fe_80 : fld (f_46 a_0) 9 = (v_68 : Int32).toInt := by rw [e_60]; rfl
  have fe_81 : fld (f_46 a_0) 10 = (v_70 : Int32).toInt := by rw [e_60]; rfl
  have fe_82 : fld (f_46 a_0) 12 = (v_73 : Int32).toInt := by rw [e_60]; rfl
  have fe_83 : fld (f_46 a_0) 20 = (v_77 : Int32).toInt := by rw [e_60]; rfl
  rw [fe_54, fe_80, fe_79, fe_81] at x_48
  rw [fe_79, fe_54, fe_80, fe_55, fe_81, fe_56] at x_49
  rw [fe_82, fe_57] at x_50
  rw [fe_83, fe_58] at x_51
  clear fe_54 fe_55 fe_56 fe_57 fe_58 fe_79 fe_80 fe_81 fe_82 fe_83
  try simp only [Int32.reduceToInt, Int64.reduceToInt] at x_48
  try simp only [Int32.reduceToInt, Int64.reduceToInt] at x_49
  try simp only [Int32.reduceToInt, Int64.reduceToInt] at x_50
  try simp only [Int32.reduceToInt, Int64.reduceToInt] at x_51
  refine v_if_ne hC dX12_needs_5 (tgt := 13) (by decide) (fun h_84 => ?_) (fun h_84 => ?_)
  · simp only [Int32.lt_iff_toInt_lt, Int32.le_iff_toInt_le, Int32.reduceToInt, ← Int32.toInt_inj] at h_84
    have fe_85 : fld (f_46 a_0) 8 = (v_66 : Int32).toInt := by rw [e_60]; rfl
    have fe_86 : fld (f_46 a_0) 9 = (v_68 : Int32).toInt := by rw [e_60]; rfl
    have fe_87 : fld (f_46 a_0) 12 = (v_73 : Int32).toInt := by rw [e_60]; rfl
    have fe_88 : fld (f_46 a_0) 8 = (v_66 : Int32).toInt := by rw [e_60]; rfl
    have fe_89 : fld (f_46 a_0) 9 = (v_68 : Int32).toInt := by rw [e_60]; rfl
    have fe_90 : fld (f_46 a_0) 10 = (v_70 : Int32).toInt := by rw [e_60]; rfl
    have fe_91 : fld (f_46 a_0) 12 = (v_73 : Int32).toInt := by rw [e_60]; rfl
    have fe_92 : fld (f_46 a_0) 12 = (v_73 : Int32).toInt := by rw [e_60]; rfl
    have fe_93 : fld (f_46 a_0) 20 = (v_77 : Int32).toInt := by rw [e_60]; rfl
    exact hR _ _ _ _ _ _ dX12_needs_13 (Nat.le_of_ble_eq_true rfl) (Nat.le_of_ble_eq_true rfl) ⟨rfl, hW_52, (hF_53.mono rfl), (by simp only [fe_85, fe_86, fe_87, mz_41, true_and, and_true, or_true, true_or, false_or, or_false, false_and, and_false, not_true_eq_false, not_false_eq_true] <;> first | omega | (simp only [Int32.lt_iff_toInt_lt, Int32.le_iff_toInt_le, Int32.reduceToInt, ← Int32.toInt_inj, true_and, and_true, or_true, true_or, false_or, or_false, false_and, and_false, not_true_eq_false, not_false_eq_true] <;> omega)), (by simp only [fe_88, fe_89, fe_90, fe_91, true_and, and_true, or_true, true_or, false_or, or_false, false_and, and_false, not_true_eq_false, not_false_eq_true] <;> first | omega | (simp only [Int32.lt_iff_toInt_lt, Int32.le_iff_toInt_le, Int32.reduceToInt, ← Int32.toInt_inj, true_and, and_true, or_true, true_or, false_or, or_false, false_and, and_false, not_true_eq_false, not_false_eq_true] <;> omega)), (by simp only [fe_92, mz_42, true_and, and_true, or_true, true_or, false_or, or_false, false_and, and_false, not_true_eq_false, not_false_eq_true] <;> first | omega | (simp only [Int32.lt_iff_toInt_lt, Int32.le_iff_toInt_le, Int32.reduceToInt, ← Int32.toInt_inj, true_and, and_true, or_true, true_or, false_or, or_false, false_and, and_false, not_true_eq_false, not_false_eq_true] <;> omega)), (by simp only [fe_93, mz_43, true_and, and_true, or_true, true_or, false_or, or_false, false_and, and_false, not_true_eq_false, not_false_eq_true] <;> first | omega | (simp only [Int32.lt_iff_toInt_lt, Int32.le_iff_toInt_le, Int32.reduceToInt, ← Int32.toInt_inj, true_and, and_true, or_true, true_or, false_or, or_false, false_and, and_false, not_true_eq_false, not_false_eq_true] <;> omega))⟩
  · simp only [Int32.lt_iff_toInt_lt, Int32.le_iff_toInt_le, Int32.reduceToInt, ← Int32.toInt_inj] at h_84
    refine v_aload_n hC dX12_needs_8 rfl ?_
    refine v_iconst hC dX12_needs_9 (v := 1) (by decide) ?_
    refine v_vv hC (rest := []) m_1 e_60 rfl mi_X12_errs ms_X12_errs (p_X12_errs hW_52 k_0 (by decide)) mx_X12_errs ml_X12_162 (by decide) rfl (cells1 := 0) (slots1 := 0) (by decide) (by decide) (Nat.le_of_ble_eq_true rfl) (Nat.le_of_ble_eq_true rfl) rfl (Nat.le_of_ble_eq_true rfl) dX12_needs_10 (fun L_95 f_96 h_97 => ?_)
    obtain ⟨rfl, hW_103, hF_104, x_98, x_99, x_100, x_101, x_102⟩ := h_97
    have fe_105 : fld (f_46 a_0) 8 = (v_66 : Int32).toInt := by rw [e_60]; rfl
    have fe_106 : fld (f_46 a_0) 9 = (v_68 : Int32).toInt := by rw [e_60]; rfl
    have fe_107 : fld (f_46 a_0) 10 = (v_70 : Int32).toInt := by rw [e_60]; rfl
    have fe_108 : fld (f_46 a_0) 20 = (v_77 : Int32).toInt := by rw [e_60]; rfl
    obtain ⟨v_110, v_111, v_113, v_115, v_117, v_119, v_121, v_122, v_123, v_124, v_126, e_109, b_112, b_114, b_116, b_118, b_120, b_125, b_127⟩ := hW_103.at m_1 t_2
    have fe_128 : fld (f_96 a_0) 8 = (v_115 : Int32).toInt := by rw [e_109]; rfl
    have fe_129 : fld (f_96 a_0) 9 = (v_117 : Int32).toInt := by rw [e_109]; rfl
    have fe_130 : fld (f_96 a_0) 10 = (v_119 : Int32).toInt := by rw [e_109]; rfl
    have fe_131 : fld (f_96 a_0) 12 = (v_122 : Int32).toInt := by rw [e_109]; rfl
    have fe_132 : fld (f_96 a_0) 20 = (v_126 : Int32).toInt := by rw [e_109]; rfl
    rw [fe_131] at x_98
    rw [fe_128, fe_105] at x_99
    rw [fe_129, fe_106] at x_100
    rw [fe_130, fe_107] at x_101
    rw [fe_132, fe_108] at x_102
    clear fe_105 fe_106 fe_107 fe_108 fe_128 fe_129 fe_130 fe_131 fe_132
    have fe_133 : fld (f_96 a_0) 8 = (v_115 : Int32).toInt := by rw [e_109]; rfl
    have fe_134 : fld (f_96 a_0) 9 = (v_117 : Int32).toInt := by rw [e_109]; rfl
    have fe_135 : fld (f_96 a_0) 12 = (v_122 : Int32).toInt := by rw [e_109]; rfl
    have fe_136 : fld (f_96 a_0) 8 = (v_115 : Int32).toInt := by rw [e_109]; rfl
    have fe_137 : fld (f_96 a_0) 9 = (v_117 : Int32).toInt := by rw [e_109]; rfl
    have fe_138 : fld (f_96 a_0) 10 = (v_119 : Int32).toInt := by rw [e_109]; rfl
    have fe_139 : fld (f_96 a_0) 12 = (v_122 : Int32).toInt := by rw [e_109]; rfl
    have fe_140 : fld (f_96 a_0) 12 = (v_122 : Int32).toInt := by rw [e_109]; rfl
    have fe_141 : fld (f_96 a_0) 20 = (v_126 : Int32).toInt := by rw [e_109]; rfl
    exact hR _ _ _ _ _ _ dX12_needs_13 (Nat.le_of_ble_eq_true rfl) (Nat.le_of_ble_eq_true rfl) ⟨rfl, hW_103, ((hF_53.tr hF_104).mono rfl), (by simp only [fe_133, fe_134, fe_135, mz_41, true_and, and_true, or_true, true_or, false_or, or_false, false_and, and_false, not_true_eq_false, not_false_eq_true] <;> first | omega | (simp only [Int32.lt_iff_toInt_lt, Int32.le_iff_toInt_le, Int32.reduceToInt, ← Int32.toInt_inj, true_and, and_true, or_true, true_or, false_or, or_false, false_and, and_false, not_true_eq_false, not_false_eq_true] <;> omega)), (by simp only [fe_136, fe_137, fe_138, fe_139, true_and, and_true, or_true, true_or, false_or, or_false, false_and, and_false, not_true_eq_false, not_false_eq_true] <;> first | omega | (simp only [Int32.lt_iff_toInt_lt, Int32.le_iff_toInt_le, Int32.reduceToInt, ← Int32.toInt_inj, true_and, and_true, or_true, true_or, false_or, or_false, false_and, and_false, not_true_eq_false, not_false_eq_true] <;> omega)), (by simp only [fe_140, mz_42, true_and, and_true, or_true, true_or, false_or, or_false, false_and, and_false, not_true_eq_false, not_false_eq_true] <;> first | omega | (simp only [Int32.lt_iff_toInt_lt, Int32.le_iff_toInt_le, Int32.reduceToInt, ← Int32.toInt_inj, true_and, and_true, or_true, true_or, false_or, or_false, false_and, and_false, not_true_eq_false, not_false_eq_true] <;> omega)), (by simp only [fe_141, mz_43, true_and, and_true, or_true, true_or, false_or, or_false, false_and, and_false, not_true_eq_false, not_false_eq_true] <;> first | omega | (simp only [Int32.lt_iff_toInt_lt, Int32.le_iff_toInt_le, Int32.reduceToInt, ← Int32.toInt_inj, true_and, and_true, or_true, true_or, false_or, or_false, false_and, and_false, not_true_eq_false, not_false_eq_true] <;> omega))⟩
set_option maxRecDepth 100000 in
set_option maxHeartbeats 1500000 in
theorem p_X12_told {l : Launch} {E : Ez} {L : List Nat} {f : Nat → va_E} {T : Nat → va_E → Prop} {a_0 : Nat} {a_1 : Nat} {a_2 : Int32} {a_3 : Int32} {q : Nat → Nat} (hW : WT T L f) (k_0 : isM T L E a_0 q) (ha_1 : a_1 < 77) : CI l yX12_told cX12_told 4 .int 7 0 0 E [.ref a_0, .ref (eK E a_1), .int a_2, .int a_3] L f (fun r L1 f1 => L = L1 ∧ WT T L f1 ∧ FR [12] f f1 ∧ (¬ fld (f1 a_0) 12 = 0 ∨ (fld (f a_0) 12 = 0 ∧ a_2.toInt ≤ r.toInt ∧ r.toInt ≤ a_3.toInt)) ∧ (¬ fld (f1 a_0) 12 = 0 ∨ (fld (f a_0) 8 ≤ fld (f1 a_0) 9 ∧ fld (f1 a_0) 9 ≤ fld (f1 a_0) 8)) ∧ (¬ fld (f1 a_0) 12 = 0 ∨ fld (f1 a_0) 10 = 0 ∨ fld (f1 a_0) 9 < fld (f1 a_0) 8) ∧ (fld (f1 a_0) 12 = 0 ∨ r.toInt = 0) ∧ fld (f1 a_0) 20 = fld (f a_0) 20) := by
  refine ci_of (by decide) (Nat.le_of_ble_eq_true rfl) (fun z hz hnm hC hR => ?_)
  have hC : Cx z E cX12_told RX12 4 7 0 0 := hC
  subst hz
  show V z E 4 0 0 L f 0 [(0, .ref a_0), (1, .ref (eK E a_1)), (2, .int a_2), (3, .int a_3)] []
  obtain ⟨m_1, t_2, nq_21, k_3, k_4, k_5, k_6, k_7, k_8, k_9, k_10, k_11, k_12, k_13, k_14, k_15, k_16, k_17, k_18, k_19, k_20⟩ := id k_0
  obtain ⟨v_23, v_24, v_26, v_28, v_30, v_32, v_34, v_35, v_36, v_37, v_39, e_22, b_25, b_27, b_29, b_31, b_33, b_38, b_40⟩ := hW.at m_1 t_2
  have mz_41 : fld (f a_0) 8 = v_28.toInt := by rw [e_22]; rfl
  have mz_42 : fld (f a_0) 12 = v_35.toInt := by rw [e_22]; rfl
  have mz_43 : fld (f a_0) 20 = v_39.toInt := by rw [e_22]; rfl
  refine v_aload_n hC dX12_told_0 rfl ?_
  refine v_aload_n hC dX12_told_1 rfl ?_
  refine v_vv hC (rest := []) m_1 e_22 rfl mi_X12_needs ms_X12_needs (p_X12_needs hW k_0 ha_1) mx_X12_needs ml_X12_166 (by decide) rfl (cells1 := 0) (slots1 := 0) (by decide) (by decide) (Nat.le_of_ble_eq_true rfl) (Nat.le_of_ble_eq_true rfl) rfl (Nat.le_of_ble_eq_true rfl) dX12_told_2 (fun L_45 f_46 h_47 => ?_)
  obtain ⟨rfl, hW_52, hF_53, x_48, x_49, x_50, x_51⟩ := h_47
  have fe_54 : fld (f a_0) 8 = (v_28 : Int32).toInt := by rw [e_22]; rfl
  have fe_55 : fld (f a_0) 9 = (v_30 : Int32).toInt := by rw [e_22]; rfl
  have fe_56 : fld (f a_0) 10 = (v_32 : Int32).toInt := by rw [e_22]; rfl
  have fe_57 : fld (f a_0) 12 = (v_35 : Int32).toInt := by rw [e_22]; rfl
  have fe_58 : fld (f a_0) 20 = (v_39 : Int32).toInt := by rw [e_22]; rfl
  have ib_59 := iw_b (f a_0) (f (q 4)) a_1
  rw [fe_57, fe_56, fe_54, fe_55] at ib_59
  obtain ⟨v_61, v_62, v_64, v_66, v_68, v_70, v_72, v_73, v_74, v_75, v_77, e_60, b_63, b_65, b_67, b_69, b_71, b_76, b_78⟩ := hW_52.at m_1 t_2
  have fe_79 : fld (f_46 a_0) 8 = (v_66 : Int32).toInt := by rw [e_60]; rfl
  have fe_80 : fld (f_46 a_0) 9 = (v_68 : Int32).toInt := by rw [e_60]; rfl
  have fe_81 : fld (f_46 a_0) 10 = (v_70 : Int32).toInt := by rw [e_60]; rfl
  have fe_82 : fld (f_46 a_0) 12 = (v_73 : Int32).toInt := by rw [e_60]; rfl
  have fe_83 : fld (f_46 a_0) 20 = (v_77 : Int32).toInt := by rw [e_60]; rfl
  rw [fe_82, fe_54, fe_80, fe_79] at x_48
  rw [fe_82, fe_81, fe_80, fe_79] at x_49
  rw [fe_82, fe_57] at x_50
  rw [fe_83, fe_58] at x_51
  clear fe_54 fe_55 fe_56 fe_57 fe_58 fe_79 fe_80 fe_81 fe_82 fe_83
  refine v_aload_n hC dX12_told_5 rfl ?_
  refine v_iload_n hC dX12_told_6 rfl ?_
  refine v_iload_n hC dX12_told_7 rfl ?_
  refine v_vi hC (rest := []) m_1 e_60 rfl mi_X12_number ms_X12_number (p_X12_number hW_52 k_0) mx_X12_number ml_X12_170 (by decide) rfl (cells1 := 0) (slots1 := 0) (by decide) (by decide) (Nat.le_of_ble_eq_true rfl) (Nat.le_of_ble_eq_true rfl) rfl (Nat.le_of_ble_eq_true rfl) dX12_told_8 (fun r_84 L_85 f_86 h_87 => ?_)
  obtain ⟨rfl, hW_93, hF_94, x_88, x_89, x_90, x_91, x_92⟩ := h_87
  have fe_95 : fld (f_46 a_0) 8 = (v_66 : Int32).toInt := by rw [e_60]; rfl
  have fe_96 : fld (f_46 a_0) 10 = (v_70 : Int32).toInt := by rw [e_60]; rfl
  have fe_97 : fld (f_46 a_0) 12 = (v_73 : Int32).toInt := by rw [e_60]; rfl
  have fe_98 : fld (f_46 a_0) 20 = (v_77 : Int32).toInt := by rw [e_60]; rfl
  obtain ⟨v_100, v_101, v_103, v_105, v_107, v_109, v_111, v_112, v_113, v_114, v_116, e_99, b_102, b_104, b_106, b_108, b_110, b_115, b_117⟩ := hW_93.at m_1 t_2
  have fe_118 : fld (f_86 a_0) 8 = (v_105 : Int32).toInt := by rw [e_99]; rfl
  have fe_119 : fld (f_86 a_0) 9 = (v_107 : Int32).toInt := by rw [e_99]; rfl
  have fe_120 : fld (f_86 a_0) 10 = (v_109 : Int32).toInt := by rw [e_99]; rfl
  have fe_121 : fld (f_86 a_0) 12 = (v_112 : Int32).toInt := by rw [e_99]; rfl
  have fe_122 : fld (f_86 a_0) 20 = (v_116 : Int32).toInt := by rw [e_99]; rfl
  rw [fe_121, fe_97] at x_88
  rw [fe_121, fe_96, fe_95, fe_119, fe_118] at x_89
  rw [fe_121, fe_120, fe_119, fe_118] at x_90
  rw [fe_121] at x_91
  rw [fe_122, fe_98] at x_92
  clear fe_95 fe_96 fe_97 fe_98 fe_118 fe_119 fe_120 fe_121 fe_122
  try simp only [Int32.reduceToInt, Int64.reduceToInt] at x_88
  try simp only [Int32.reduceToInt, Int64.reduceToInt] at x_89
  try simp only [Int32.reduceToInt, Int64.reduceToInt] at x_90
  try simp only [Int32.reduceToInt, Int64.reduceToInt] at x_91
  try simp only [Int32.reduceToInt, Int64.reduceToInt] at x_92
  have fe_123 : fld (f_86 a_0) 12 = (v_112 : Int32).toInt := by rw [e_99]; rfl
  have fe_124 : fld (f_86 a_0) 8 = (v_105 : Int32).toInt := by rw [e_99]; rfl
  have fe_125 : fld (f_86 a_0) 9 = (v_107 : Int32).toInt := by rw [e_99]; rfl
  have fe_126 : fld (f_86 a_0) 12 = (v_112 : Int32).toInt := by rw [e_99]; rfl
  have fe_127 : fld (f_86 a_0) 8 = (v_105 : Int32).toInt := by rw [e_99]; rfl
  have fe_128 : fld (f_86 a_0) 9 = (v_107 : Int32).toInt := by rw [e_99]; rfl
  have fe_129 : fld (f_86 a_0) 10 = (v_109 : Int32).toInt := by rw [e_99]; rfl
  have fe_130 : fld (f_86 a_0) 12 = (v_112 : Int32).toInt := by rw [e_99]; rfl
  have fe_131 : fld (f_86 a_0) 12 = (v_112 : Int32).toInt := by rw [e_99]; rfl
  have fe_132 : fld (f_86 a_0) 20 = (v_116 : Int32).toInt := by rw [e_99]; rfl
  exact hR _ _ _ _ _ _ _ dX12_told_11 rfl (Nat.le_of_ble_eq_true rfl) (Nat.le_of_ble_eq_true rfl) ⟨rfl, hW_93, ((hF_53.tr hF_94).mono rfl), (by simp only [fe_123, mz_42, true_and, and_true, or_true, true_or, false_or, or_false, false_and, and_false, not_true_eq_false, not_false_eq_true] <;> first | omega | (simp only [Int32.lt_iff_toInt_lt, Int32.le_iff_toInt_le, Int32.reduceToInt, ← Int32.toInt_inj, true_and, and_true, or_true, true_or, false_or, or_false, false_and, and_false, not_true_eq_false, not_false_eq_true] <;> omega)), (by simp only [fe_124, fe_125, fe_126, mz_41, true_and, and_true, or_true, true_or, false_or, or_false, false_and, and_false, not_true_eq_false, not_false_eq_true] <;> first | omega | (simp only [Int32.lt_iff_toInt_lt, Int32.le_iff_toInt_le, Int32.reduceToInt, ← Int32.toInt_inj, true_and, and_true, or_true, true_or, false_or, or_false, false_and, and_false, not_true_eq_false, not_false_eq_true] <;> omega)), (by simp only [fe_127, fe_128, fe_129, fe_130, true_and, and_true, or_true, true_or, false_or, or_false, false_and, and_false, not_true_eq_false, not_false_eq_true] <;> first | omega | (simp only [Int32.lt_iff_toInt_lt, Int32.le_iff_toInt_le, Int32.reduceToInt, ← Int32.toInt_inj, true_and, and_true, or_true, true_or, false_or, or_false, false_and, and_false, not_true_eq_false, not_false_eq_true] <;> omega)), (by simp only [fe_131, true_and, and_true, or_true, true_or, false_or, or_false, false_and, and_false, not_true_eq_false, not_false_eq_true] <;> first | omega | (simp only [Int32.lt_iff_toInt_lt, Int32.le_iff_toInt_le, Int32.reduceToInt, ← Int32.toInt_inj, true_and, and_true, or_true, true_or, false_or, or_false, false_and, and_false, not_true_eq_false, not_false_eq_true] <;> omega)), (by simp only [fe_132, mz_43, true_and, and_true, or_true, true_or, false_or, or_false, false_and, and_false, not_true_eq_false, not_false_eq_true] <;> first | omega | (simp only [Int32.lt_iff_toInt_lt, Int32.le_iff_toInt_le, Int32.reduceToInt, ← Int32.toInt_inj, true_and, and_true, or_true, true_or, false_or, or_false, false_and, and_false, not_true_eq_false, not_false_eq_true] <;> omega))⟩
set_option maxRecDepth 100000 in
set_option maxHeartbeats 1500000 in
theorem p_X12_readLoss {l : Launch} {E : Ez} {L : List Nat} {f : Nat → va_E} {T : Nat → va_E → Prop} {a_0 : Nat} {q : Nat → Nat} {g_f : Nat → Int32} (hW : WT T L f) (k_0 : isM T L E a_0 q) (e_f : f (q 14) = aI E 2076 g_f) (o_f : FOK g_f) (hLB : 0 ≤ (g_f 6).toInt ∧ (g_f 6).toInt ≤ 12) (hLO : LO g_f) : CV l yX12_readLoss cX12_readLoss 4 8 0 0 E [.ref a_0] L f (fun L1 f1 => L = L1 ∧ WT T L f1 ∧ FR [12, 2176] f f1 ∧ (∃ g9 : Nat → Int32, f1 (q 14) = aI E 2076 g9 ∧ FOK g9 ∧ (0 ≤ (g9 6).toInt ∧ (g9 6).toInt ≤ 12) ∧ (¬ fld (f1 a_0) 12 = 0 ∨ LO g9)) ∧ (¬ fld (f1 a_0) 12 = 0 ∨ (fld (f a_0) 12 = 0 ∧ fld (f a_0) 8 < fld (f1 a_0) 8)) ∧ fld (f1 a_0) 20 = fld (f a_0) 20) := by
  refine cv_of (by decide) (Nat.le_of_ble_eq_true rfl) (fun z hz hnm hC hR => ?_)
  have hC : Cx z E cX12_readLoss RX12 4 8 0 0 := hC
  subst hz
  show V z E 4 0 0 L f 0 [(0, .ref a_0)] []
  obtain ⟨m_1, t_2, nq_21, k_3, k_4, k_5, k_6, k_7, k_8, k_9, k_10, k_11, k_12, k_13, k_14, k_15, k_16, k_17, k_18, k_19, k_20⟩ := id k_0
  obtain ⟨m_22, t_23⟩ := id k_8
  obtain ⟨v_25, v_26, v_28, v_30, v_32, v_34, v_36, v_37, v_38, v_39, v_41, e_24, b_27, b_29, b_31, b_33, b_35, b_40, b_42⟩ := hW.at m_1 t_2
  have mz_43 : fld (f a_0) 8 = v_30.toInt := by rw [e_24]; rfl
  have mz_44 : fld (f a_0) 12 = v_37.toInt := by rw [e_24]; rfl
  have mz_45 : fld (f a_0) 20 = v_41.toInt := by rw [e_24]; rfl
  refine v_sipush hC dX12_readLoss_0 (v := 1012) (by decide) ?_
  refine v_iconst hC dX12_readLoss_3 (v := 3) (by decide) ?_
  refine v_aload_n hC dX12_readLoss_4 rfl ?_
  refine v_get hC fl_X12_34 m_1 e_24 rfl dX12_readLoss_5 ?_
  refine v_bipush hC dX12_readLoss_8 (v := 6) (by decide) ?_
  refine v_iald hC m_22 e_f (vp_in_iff.mpr (by decide)) (v := g_f 6) rfl dX12_readLoss_10 ?_
  obtain ⟨v_46, h_47⟩ : ∃ v9 : Int32, (3 : Int32) * (g_f 6) = v9 := ⟨_, rfl⟩
  refine v_imul hC dX12_readLoss_11 h_47 ?_
  have h_48 := mul_v 3 12 36 h_47 (by decide) (by first | omega | (simp only [Int32.lt_iff_toInt_lt, Int32.le_iff_toInt_le, Int32.reduceToInt, ← Int32.toInt_inj, true_and, and_true, or_true, true_or, false_or, or_false, false_and, and_false, not_true_eq_false, not_false_eq_true] <;> omega)) (by decide) (by decide)
  try simp only [Int32.reduceToInt] at h_48
  obtain ⟨v_49, h_50⟩ : ∃ v9 : Int32, (1012 : Int32) + v_46 = v9 := ⟨_, rfl⟩
  refine v_iadd hC dX12_readLoss_12 h_50 ?_
  have h_51 := add_v h_50 (by first | omega | (simp only [Int32.lt_iff_toInt_lt, Int32.le_iff_toInt_le, Int32.reduceToInt, ← Int32.toInt_inj, true_and, and_true, or_true, true_or, false_or, or_false, false_and, and_false, not_true_eq_false, not_false_eq_true] <;> omega)) (by first | omega | (simp only [Int32.lt_iff_toInt_lt, Int32.le_iff_toInt_le, Int32.reduceToInt, ← Int32.toInt_inj, true_and, and_true, or_true, true_or, false_or, or_false, false_and, and_false, not_true_eq_false, not_false_eq_true] <;> omega))
  try simp only [Int32.reduceToInt] at h_51
  refine v_istore_n hC dX12_readLoss_13 (by decide) (lv' := [(1, .int v_49), (0, .ref a_0)]) rfl ?_
  refine v_aload_n hC dX12_readLoss_14 rfl ?_
  refine v_ldcwS hC sr_X12_287 dX12_readLoss_15 ?_
  refine v_vi hC (rest := []) m_1 e_24 rfl mi_X12_is ms_X12_is (p_X12_is hW k_0 (by decide)) mx_X12_is ml_X12_152 (by decide) rfl (cells1 := 0) (slots1 := 0) (by decide) (by decide) (Nat.le_of_ble_eq_true rfl) (Nat.le_of_ble_eq_true rfl) rfl (Nat.le_of_ble_eq_true rfl) dX12_readLoss_18 (fun r_52 L_53 f_54 h_55 => ?_)
  obtain ⟨rfl, rfl, rfl⟩ := h_55
  have jn_73 : ∀ (v_74 : Int32) (b_75 : (0 ≤ v_74.toInt ∧ v_74.toInt ≤ 1)), V z E 4 0 0 L f 49 [(1, .int v_49), (0, .ref a_0)] [.int v_74] := by
    intro v_74 b_75
    refine v_istore_n hC dX12_readLoss_49 (by decide) (lv' := [(2, .int v_74), (1, .int v_49), (0, .ref a_0)]) rfl ?_
    refine v_iload_n hC dX12_readLoss_50 rfl ?_
    refine v_if_ne hC dX12_readLoss_51 (tgt := 59) (by decide) (fun h_76 => ?_) (fun h_76 => ?_)
    · simp only [Int32.lt_iff_toInt_lt, Int32.le_iff_toInt_le, Int32.reduceToInt, ← Int32.toInt_inj] at h_76
      refine v_iload_n hC dX12_readLoss_59 rfl ?_
      refine v_if_eq_f hC dX12_readLoss_60 (tgt := 80) (by decide) (by first | omega | (simp only [Int32.lt_iff_toInt_lt, Int32.le_iff_toInt_le, Int32.reduceToInt, ← Int32.toInt_inj, true_and, and_true, or_true, true_or, false_or, or_false, false_and, and_false, not_true_eq_false, not_false_eq_true] <;> omega)) ?_
      refine v_aload_n hC dX12_readLoss_63 rfl ?_
      refine v_get hC fl_X12_34 m_1 e_24 rfl dX12_readLoss_64 ?_
      refine v_bipush hC dX12_readLoss_67 (v := 6) (by decide) ?_
      refine v_iald hC m_22 e_f (vp_in_iff.mpr (by decide)) (v := g_f 6) rfl dX12_readLoss_69 ?_
      refine v_bipush hC dX12_readLoss_70 (v := 12) (by decide) ?_
      refine v_icmp_ne hC dX12_readLoss_72 (tgt := 80) (by decide) (fun h_77 => ?_) (fun h_77 => ?_)
      · simp only [Int32.lt_iff_toInt_lt, Int32.le_iff_toInt_le, Int32.reduceToInt, ← Int32.toInt_inj] at h_77
        refine v_aload_n hC dX12_readLoss_80 rfl ?_
        refine v_vi hC (rest := []) m_1 e_24 rfl mi_X12_good ms_X12_good (p_X12_good hW k_0) mx_X12_good ml_X12_139 (by decide) rfl (cells1 := 0) (slots1 := 0) (by decide) (by decide) (Nat.le_of_ble_eq_true rfl) (Nat.le_of_ble_eq_true rfl) rfl (Nat.le_of_ble_eq_true rfl) dX12_readLoss_81 (fun r_78 L_79 f_80 h_81 => ?_)
        obtain ⟨rfl, rfl, b_82, x_83⟩ := h_81
        have fe_86 : fld (f a_0) 12 = (v_37 : Int32).toInt := by rw [e_24]; rfl
        rw [fe_86] at x_83
        clear fe_86
        try simp only [Int32.reduceToInt, Int64.reduceToInt] at x_83
        refine v_if_ne hC dX12_readLoss_84 (tgt := 88) (by decide) (fun h_87 => ?_) (fun h_87 => ?_)
        · simp only [Int32.lt_iff_toInt_lt, Int32.le_iff_toInt_le, Int32.reduceToInt, ← Int32.toInt_inj] at h_87
          refine v_aload_n hC dX12_readLoss_88 rfl ?_
          refine v_ldcwS hC sr_X12_287 dX12_readLoss_89 ?_
          refine v_vi hC (rest := []) m_1 e_24 rfl mi_X12_takes ms_X12_takes (p_X12_takes hW k_0 (by decide)) mx_X12_takes ml_X12_159 (by decide) rfl (cells1 := 0) (slots1 := 0) (by decide) (by decide) (Nat.le_of_ble_eq_true rfl) (Nat.le_of_ble_eq_true rfl) rfl (Nat.le_of_ble_eq_true rfl) dX12_readLoss_92 (fun r_88 L_89 f_90 h_91 => ?_)
          obtain ⟨rfl, hW_94, hF_95, rfl, x_92, -, x_93, -⟩ := h_91
          have fe_96 : fld (f a_0) 8 = (v_30 : Int32).toInt := by rw [e_24]; rfl
          have fe_97 : fld (f a_0) 12 = (v_37 : Int32).toInt := by rw [e_24]; rfl
          have hf_98 := hF_95.at e_f rfl
          obtain ⟨v_100, v_101, v_103, v_105, v_107, v_109, v_111, v_112, v_113, v_114, v_116, e_99, b_102, b_104, b_106, b_108, b_110, b_115, b_117⟩ := hW_94.at m_1 t_2
          have fe_118 : fld (f_90 a_0) 8 = (v_105 : Int32).toInt := by rw [e_99]; rfl
          have fe_119 : fld (f_90 a_0) 9 = (v_107 : Int32).toInt := by rw [e_99]; rfl
          have fe_120 : fld (f_90 a_0) 10 = (v_109 : Int32).toInt := by rw [e_99]; rfl
          have fe_121 : fld (f_90 a_0) 12 = (v_112 : Int32).toInt := by rw [e_99]; rfl
          rw [fe_96, fe_119, fe_118, fe_120] at x_92
          rw [fe_121, fe_97] at x_93
          clear fe_96 fe_97 fe_118 fe_119 fe_120 fe_121
          try simp only [Int32.reduceToInt, Int64.reduceToInt] at x_92
          try simp only [Int32.reduceToInt, Int64.reduceToInt] at x_93
          refine v_if_eq hC dX12_readLoss_95 (tgt := 193) (by decide) (fun h_122 => ?_) (fun h_122 => ?_)
          · simp only [Int32.lt_iff_toInt_lt, Int32.le_iff_toInt_le, Int32.reduceToInt, ← Int32.toInt_inj] at h_122
            refine v_aload_n hC dX12_readLoss_193 rfl ?_
            refine v_ldcwS hC sr_X12_289 dX12_readLoss_194 ?_
            refine v_vi hC (rest := []) m_1 e_99 rfl mi_X12_takes ms_X12_takes (p_X12_takes hW_94 k_0 (by decide)) mx_X12_takes ml_X12_159 (by decide) rfl (cells1 := 0) (slots1 := 0) (by decide) (by decide) (Nat.le_of_ble_eq_true rfl) (Nat.le_of_ble_eq_true rfl) rfl (Nat.le_of_ble_eq_true rfl) dX12_readLoss_197 (fun r_123 L_124 f_125 h_126 => ?_)
            obtain ⟨rfl, hW_129, hF_130, rfl, x_127, -, x_128, -⟩ := h_126
            have fe_131 : fld (f_90 a_0) 8 = (v_105 : Int32).toInt := by rw [e_99]; rfl
            have fe_132 : fld (f_90 a_0) 12 = (v_112 : Int32).toInt := by rw [e_99]; rfl
            have hf_133 := hF_130.at hf_98 rfl
            obtain ⟨v_135, v_136, v_138, v_140, v_142, v_144, v_146, v_147, v_148, v_149, v_151, e_134, b_137, b_139, b_141, b_143, b_145, b_150, b_152⟩ := hW_129.at m_1 t_2
            have fe_153 : fld (f_125 a_0) 8 = (v_140 : Int32).toInt := by rw [e_134]; rfl
            have fe_154 : fld (f_125 a_0) 9 = (v_142 : Int32).toInt := by rw [e_134]; rfl
            have fe_155 : fld (f_125 a_0) 10 = (v_144 : Int32).toInt := by rw [e_134]; rfl
            have fe_156 : fld (f_125 a_0) 12 = (v_147 : Int32).toInt := by rw [e_134]; rfl
            rw [fe_131, fe_154, fe_153, fe_155] at x_127
            rw [fe_156, fe_132] at x_128
            clear fe_131 fe_132 fe_153 fe_154 fe_155 fe_156
            try simp only [Int32.reduceToInt, Int64.reduceToInt] at x_127
            try simp only [Int32.reduceToInt, Int64.reduceToInt] at x_128
            refine v_if_eq hC dX12_readLoss_200 (tgt := 247) (by decide) (fun h_157 => ?_) (fun h_157 => ?_)
            · simp only [Int32.lt_iff_toInt_lt, Int32.le_iff_toInt_le, Int32.reduceToInt, ← Int32.toInt_inj] at h_157
              refine v_aload_n hC dX12_readLoss_247 rfl ?_
              refine v_vv hC (rest := []) m_1 e_134 rfl mi_X12_advance ms_X12_advance (p_X12_advance hW_129 k_0) mx_X12_advance ml_X12_156 (by decide) rfl (cells1 := 0) (slots1 := 0) (by decide) (by decide) (Nat.le_of_ble_eq_true rfl) (Nat.le_of_ble_eq_true rfl) rfl (Nat.le_of_ble_eq_true rfl) dX12_readLoss_248 (fun L_159 f_160 h_161 => ?_)
              obtain ⟨rfl, hW_165, hF_166, x_162, x_163, x_164, -⟩ := h_161
              have fe_167 : fld (f_125 a_0) 8 = (v_140 : Int32).toInt := by rw [e_134]; rfl
              have fe_168 : fld (f_125 a_0) 12 = (v_147 : Int32).toInt := by rw [e_134]; rfl
              have hf_169 := hF_166.at hf_133 rfl
              obtain ⟨v_171, v_172, v_174, v_176, v_178, v_180, v_182, v_183, v_184, v_185, v_187, e_170, b_173, b_175, b_177, b_179, b_181, b_186, b_188⟩ := hW_165.at m_1 t_2
              have fe_189 : fld (f_160 a_0) 8 = (v_176 : Int32).toInt := by rw [e_170]; rfl
              have fe_190 : fld (f_160 a_0) 9 = (v_178 : Int32).toInt := by rw [e_170]; rfl
              have fe_191 : fld (f_160 a_0) 10 = (v_180 : Int32).toInt := by rw [e_170]; rfl
              have fe_192 : fld (f_160 a_0) 12 = (v_183 : Int32).toInt := by rw [e_170]; rfl
              rw [fe_167, fe_190, fe_189] at x_162
              rw [fe_191, fe_190, fe_189] at x_163
              rw [fe_192, fe_168] at x_164
              clear fe_167 fe_168 fe_189 fe_190 fe_191 fe_192
              refine v_aload_n hC dX12_readLoss_251 rfl ?_
              refine v_get hC fl_X12_34 m_1 e_170 rfl dX12_readLoss_252 ?_
              refine v_iload_n hC dX12_readLoss_255 rfl ?_
              refine v_iconst hC dX12_readLoss_256 (v := 3) (by decide) ?_
              refine v_iast hC m_22 hf_169 (vp_in_iff.mpr (by first | omega | (simp only [Int32.lt_iff_toInt_lt, Int32.le_iff_toInt_le, Int32.reduceToInt, ← Int32.toInt_inj, true_and, and_true, or_true, true_or, false_or, or_false, false_and, and_false, not_true_eq_false, not_false_eq_true] <;> omega))) dX12_readLoss_257 (fun f_193 hf_194 hk_195 => ?_)
              have hW_197 := hW_165.up hf_194 hk_195 t_23 ⟨_, rfl, (o_f.up (by first | omega | (simp only [Int32.lt_iff_toInt_lt, Int32.le_iff_toInt_le, Int32.reduceToInt, ← Int32.toInt_inj, true_and, and_true, or_true, true_or, false_or, or_false, false_and, and_false, not_true_eq_false, not_false_eq_true] <;> omega)) (fun q1 q2 => (by first | omega | (simp only [Int32.lt_iff_toInt_lt, Int32.le_iff_toInt_le, Int32.reduceToInt, ← Int32.toInt_inj] at *; omega))) (fun k9 q1 q2 q3 => (by first | omega | (simp only [Int32.lt_iff_toInt_lt, Int32.le_iff_toInt_le, Int32.reduceToInt, ← Int32.toInt_inj] at *; omega))))⟩
              obtain ⟨g_196, hf_194, ok_198, eg_199⟩ : ∃ g9, f_193 (q 14) = aI E 2076 g9 ∧ FOK g9 ∧ g9 = upd g_f (v_49 : Int32).toNatClampNeg 3 := ⟨_, hf_194, (o_f.up (by first | omega | (simp only [Int32.lt_iff_toInt_lt, Int32.le_iff_toInt_le, Int32.reduceToInt, ← Int32.toInt_inj, true_and, and_true, or_true, true_or, false_or, or_false, false_and, and_false, not_true_eq_false, not_false_eq_true] <;> omega)) (fun q1 q2 => (by first | omega | (simp only [Int32.lt_iff_toInt_lt, Int32.le_iff_toInt_le, Int32.reduceToInt, ← Int32.toInt_inj] at *; omega))) (fun k9 q1 q2 q3 => (by first | omega | (simp only [Int32.lt_iff_toInt_lt, Int32.le_iff_toInt_le, Int32.reduceToInt, ← Int32.toInt_inj] at *; omega)))), rfl⟩
              have hf_200 := (hk_195 a_0 (ne_kd e_170 hf_169 rfl)).trans e_170
              have fr_201 := FR.w hk_195 hf_169 (k := 2176) rfl
              have lk_202 := lk_at (g0 := g_f) eg_199 (by omega) (by omega)
              have ag_203 := (AG.rf o_f).st eg_199 (by omega) (by omega)
              try simp only [Int32.reduceToInt] at lk_202
              refine v_aload_n hC dX12_readLoss_258 rfl ?_
              refine v_vv hC (rest := []) m_1 hf_200 rfl mi_X12_ends ms_X12_ends (p_X12_ends hW_197 k_0) mx_X12_ends ml_X12_178 (by decide) rfl (cells1 := 0) (slots1 := 0) (by decide) (by decide) (Nat.le_of_ble_eq_true rfl) (Nat.le_of_ble_eq_true rfl) rfl (Nat.le_of_ble_eq_true rfl) dX12_readLoss_259 (fun L_205 f_206 h_207 => ?_)
              obtain ⟨rfl, hW_210, hF_211, x_208, x_209, -, -⟩ := h_207
              have fe_212 : fld (f_193 a_0) 8 = (v_176 : Int32).toInt := by rw [hf_200]; rfl
              have fe_213 : fld (f_193 a_0) 10 = (v_180 : Int32).toInt := by rw [hf_200]; rfl
              have fe_214 : fld (f_193 a_0) 12 = (v_183 : Int32).toInt := by rw [hf_200]; rfl
              have hf_215 := hF_211.at hf_194 rfl
              obtain ⟨v_217, v_218, v_220, v_222, v_224, v_226, v_228, v_229, v_230, v_231, v_233, e_216, b_219, b_221, b_223, b_225, b_227, b_232, b_234⟩ := hW_210.at m_1 t_2
              have fe_235 : fld (f_206 a_0) 8 = (v_222 : Int32).toInt := by rw [e_216]; rfl
              have fe_236 : fld (f_206 a_0) 9 = (v_224 : Int32).toInt := by rw [e_216]; rfl
              have fe_237 : fld (f_206 a_0) 12 = (v_229 : Int32).toInt := by rw [e_216]; rfl
              rw [fe_237, fe_214] at x_208
              rw [fe_237, fe_213, fe_212, fe_236, fe_235] at x_209
              clear fe_212 fe_213 fe_214 fe_235 fe_236 fe_237
              refine v_aload_n hC dX12_readLoss_262 rfl ?_
              refine v_get hC fl_X12_34 m_1 e_216 rfl dX12_readLoss_263 ?_
              refine v_bipush hC dX12_readLoss_266 (v := 6) (by decide) ?_
              refine v_dup2 hC dX12_readLoss_268 rfl rfl ?_
              have l6_238 : (g_196 6).toInt = (g_f 6).toInt := congrArg Int32.toInt ag_203.2.1
              refine v_iald hC m_22 hf_215 (vp_in_iff.mpr (by decide)) (v := g_196 6) rfl dX12_readLoss_269 ?_
              refine v_iconst hC dX12_readLoss_270 (v := 1) (by decide) ?_
              obtain ⟨v_239, h_240⟩ : ∃ v9 : Int32, (g_196 6) + 1 = v9 := ⟨_, rfl⟩
              refine v_iadd hC dX12_readLoss_271 h_240 ?_
              have h_241 := add_v h_240 (by first | omega | (simp only [Int32.lt_iff_toInt_lt, Int32.le_iff_toInt_le, Int32.reduceToInt, ← Int32.toInt_inj, true_and, and_true, or_true, true_or, false_or, or_false, false_and, and_false, not_true_eq_false, not_false_eq_true] <;> omega)) (by first | omega | (simp only [Int32.lt_iff_toInt_lt, Int32.le_iff_toInt_le, Int32.reduceToInt, ← Int32.toInt_inj, true_and, and_true, or_true, true_or, false_or, or_false, false_and, and_false, not_true_eq_false, not_false_eq_true] <;> omega))
              try simp only [Int32.reduceToInt] at h_241
              refine v_iast hC m_22 hf_215 (vp_in_iff.mpr (by decide)) dX12_readLoss_272 (fun f_242 hf_243 hk_244 => ?_)
              have hW_246 := hW_210.up hf_243 hk_244 t_23 ⟨_, rfl, (ok_198.up (i := 6) (by decide) (fun q1 q2 => absurd (And.intro q1 q2) (by decide)) (fun k9 q1 q2 q3 => by simp only [Int32.reduceToInt] at q3; omega))⟩
              obtain ⟨g_245, hf_243, ok_247, eg_248⟩ : ∃ g9, f_242 (q 14) = aI E 2076 g9 ∧ FOK g9 ∧ g9 = upd g_196 (6 : Int32).toNatClampNeg v_239 := ⟨_, hf_243, (ok_198.up (i := 6) (by decide) (fun q1 q2 => absurd (And.intro q1 q2) (by decide)) (fun k9 q1 q2 q3 => by simp only [Int32.reduceToInt] at q3; omega)), rfl⟩
              have hf_249 := (hk_244 a_0 (ne_kd e_216 hf_215 rfl)).trans e_216
              have fr_250 := FR.w hk_244 hf_215 (k := 2176) rfl
              have ln6_251 := FOK.n6 ag_203.1 eg_248
              have ln6_251_t : (g_245 6).toInt = v_239.toInt := congrArg Int32.toInt ln6_251.2
              have fe_252 : fld (f_242 a_0) 12 = (v_229 : Int32).toInt := by rw [hf_249]; rfl
              have fe_253 : fld (f_242 a_0) 8 = (v_222 : Int32).toInt := by rw [hf_249]; rfl
              have fe_254 : fld (f_242 a_0) 12 = (v_229 : Int32).toInt := by rw [hf_249]; rfl
              have fe_255 : fld (f_242 a_0) 20 = (v_233 : Int32).toInt := by rw [hf_249]; rfl
              exact hR _ _ _ _ _ _ dX12_readLoss_273 (Nat.le_of_ble_eq_true rfl) (Nat.le_of_ble_eq_true rfl) ⟨rfl, hW_246, ((((((hF_95.tr hF_130).tr hF_166).tr fr_201).tr hF_211).tr fr_250).mono rfl), ⟨_, hf_243, ln6_251.1, (by omega), (by rw [fe_252]; by_cases q9 : v_229.toInt = 0; exact .inr (LO.fin hLO ag_203 eg_248 (by omega) (by omega) (fun q8 => by omega)); exact .inl q9)⟩, (by simp only [fe_253, fe_254, mz_43, mz_44, true_and, and_true, or_true, true_or, false_or, or_false, false_and, and_false, not_true_eq_false, not_false_eq_true] <;> first | omega | (simp only [Int32.lt_iff_toInt_lt, Int32.le_iff_toInt_le, Int32.reduceToInt, ← Int32.toInt_inj, true_and, and_true, or_true, true_or, false_or, or_false, false_and, and_false, not_true_eq_false, not_false_eq_true] <;> omega)), (by simp only [fe_255, mz_45, true_and, and_true, or_true, true_or, false_or, or_false, false_and, and_false, not_true_eq_false, not_false_eq_true] <;> first | omega | (simp only [Int32.lt_iff_toInt_lt, Int32.le_iff_toInt_le, Int32.reduceToInt, ← Int32.toInt_inj, true_and, and_true, or_true, true_or, false_or, or_false, false_and, and_false, not_true_eq_false, not_false_eq_true] <;> omega))⟩
            · simp only [Int32.lt_iff_toInt_lt, Int32.le_iff_toInt_le, Int32.reduceToInt, ← Int32.toInt_inj] at h_157
              refine v_aload_n hC dX12_readLoss_203 rfl ?_
              refine v_get hC fl_X12_34 m_1 e_134 rfl dX12_readLoss_204 ?_
              refine v_iload_n hC dX12_readLoss_207 rfl ?_
              refine v_iconst hC dX12_readLoss_208 (v := 2) (by decide) ?_
              refine v_iast hC m_22 hf_133 (vp_in_iff.mpr (by first | omega | (simp only [Int32.lt_iff_toInt_lt, Int32.le_iff_toInt_le, Int32.reduceToInt, ← Int32.toInt_inj, true_and, and_true, or_true, true_or, false_or, or_false, false_and, and_false, not_true_eq_false, not_false_eq_true] <;> omega))) dX12_readLoss_209 (fun f_256 hf_257 hk_258 => ?_)
              have hW_260 := hW_129.up hf_257 hk_258 t_23 ⟨_, rfl, (o_f.up (by first | omega | (simp only [Int32.lt_iff_toInt_lt, Int32.le_iff_toInt_le, Int32.reduceToInt, ← Int32.toInt_inj, true_and, and_true, or_true, true_or, false_or, or_false, false_and, and_false, not_true_eq_false, not_false_eq_true] <;> omega)) (fun q1 q2 => (by first | omega | (simp only [Int32.lt_iff_toInt_lt, Int32.le_iff_toInt_le, Int32.reduceToInt, ← Int32.toInt_inj] at *; omega))) (fun k9 q1 q2 q3 => (by first | omega | (simp only [Int32.lt_iff_toInt_lt, Int32.le_iff_toInt_le, Int32.reduceToInt, ← Int32.toInt_inj] at *; omega))))⟩
              obtain ⟨g_259, hf_257, ok_261, eg_262⟩ : ∃ g9, f_256 (q 14) = aI E 2076 g9 ∧ FOK g9 ∧ g9 = upd g_f (v_49 : Int32).toNatClampNeg 2 := ⟨_, hf_257, (o_f.up (by first | omega | (simp only [Int32.lt_iff_toInt_lt, Int32.le_iff_toInt_le, Int32.reduceToInt, ← Int32.toInt_inj, true_and, and_true, or_true, true_or, false_or, or_false, false_and, and_false, not_true_eq_false, not_false_eq_true] <;> omega)) (fun q1 q2 => (by first | omega | (simp only [Int32.lt_iff_toInt_lt, Int32.le_iff_toInt_le, Int32.reduceToInt, ← Int32.toInt_inj] at *; omega))) (fun k9 q1 q2 q3 => (by first | omega | (simp only [Int32.lt_iff_toInt_lt, Int32.le_iff_toInt_le, Int32.reduceToInt, ← Int32.toInt_inj] at *; omega)))), rfl⟩
              have hf_263 := (hk_258 a_0 (ne_kd e_134 hf_133 rfl)).trans e_134
              have fr_264 := FR.w hk_258 hf_133 (k := 2176) rfl
              have lk_265 := lk_at (g0 := g_f) eg_262 (by omega) (by omega)
              have ag_266 := (AG.rf o_f).st eg_262 (by omega) (by omega)
              try simp only [Int32.reduceToInt] at lk_265
              refine v_aload_n hC dX12_readLoss_210 rfl ?_
              refine v_get hC fl_X12_34 m_1 hf_263 rfl dX12_readLoss_211 ?_
              refine v_iload_n hC dX12_readLoss_214 rfl ?_
              refine v_iconst hC dX12_readLoss_215 (v := 1) (by decide) ?_
              obtain ⟨v_267, h_268⟩ : ∃ v9 : Int32, v_49 + 1 = v9 := ⟨_, rfl⟩
              refine v_iadd hC dX12_readLoss_216 h_268 ?_
              have h_269 := add_v h_268 (by first | omega | (simp only [Int32.lt_iff_toInt_lt, Int32.le_iff_toInt_le, Int32.reduceToInt, ← Int32.toInt_inj, true_and, and_true, or_true, true_or, false_or, or_false, false_and, and_false, not_true_eq_false, not_false_eq_true] <;> omega)) (by first | omega | (simp only [Int32.lt_iff_toInt_lt, Int32.le_iff_toInt_le, Int32.reduceToInt, ← Int32.toInt_inj, true_and, and_true, or_true, true_or, false_or, or_false, false_and, and_false, not_true_eq_false, not_false_eq_true] <;> omega))
              try simp only [Int32.reduceToInt] at h_269
              refine v_aload_n hC dX12_readLoss_217 rfl ?_
              refine v_iconst hC dX12_readLoss_218 (v := 1) (by decide) ?_
              refine v_bipush hC dX12_readLoss_219 (v := 99) (by decide) ?_
              refine v_vi hC (rest := [.int v_267, .ref (q 14)]) m_1 hf_263 rfl mi_X12_number ms_X12_number (p_X12_number hW_260 k_0) mx_X12_number ml_X12_170 (by decide) rfl (cells1 := 0) (slots1 := 0) (by decide) (by decide) (Nat.le_of_ble_eq_true rfl) (Nat.le_of_ble_eq_true rfl) rfl (Nat.le_of_ble_eq_true rfl) dX12_readLoss_221 (fun r_270 L_271 f_272 h_273 => ?_)
              obtain ⟨rfl, hW_277, hF_278, x_274, x_275, x_276, -, -⟩ := h_273
              have fe_279 : fld (f_256 a_0) 8 = (v_140 : Int32).toInt := by rw [hf_263]; rfl
              have fe_280 : fld (f_256 a_0) 10 = (v_144 : Int32).toInt := by rw [hf_263]; rfl
              have fe_281 : fld (f_256 a_0) 12 = (v_147 : Int32).toInt := by rw [hf_263]; rfl
              have hf_282 := hF_278.at hf_257 rfl
              obtain ⟨v_284, v_285, v_287, v_289, v_291, v_293, v_295, v_296, v_297, v_298, v_300, e_283, b_286, b_288, b_290, b_292, b_294, b_299, b_301⟩ := hW_277.at m_1 t_2
              have fe_302 : fld (f_272 a_0) 8 = (v_289 : Int32).toInt := by rw [e_283]; rfl
              have fe_303 : fld (f_272 a_0) 9 = (v_291 : Int32).toInt := by rw [e_283]; rfl
              have fe_304 : fld (f_272 a_0) 10 = (v_293 : Int32).toInt := by rw [e_283]; rfl
              have fe_305 : fld (f_272 a_0) 12 = (v_296 : Int32).toInt := by rw [e_283]; rfl
              rw [fe_305, fe_281] at x_274
              rw [fe_305, fe_280, fe_279, fe_303, fe_302] at x_275
              rw [fe_305, fe_304, fe_303, fe_302] at x_276
              clear fe_279 fe_280 fe_281 fe_302 fe_303 fe_304 fe_305
              try simp only [Int32.reduceToInt, Int64.reduceToInt] at x_274
              try simp only [Int32.reduceToInt, Int64.reduceToInt] at x_275
              try simp only [Int32.reduceToInt, Int64.reduceToInt] at x_276
              refine v_iast hC m_22 hf_282 (vp_in_iff.mpr (by first | omega | (simp only [Int32.lt_iff_toInt_lt, Int32.le_iff_toInt_le, Int32.reduceToInt, ← Int32.toInt_inj, true_and, and_true, or_true, true_or, false_or, or_false, false_and, and_false, not_true_eq_false, not_false_eq_true] <;> omega))) dX12_readLoss_224 (fun f_306 hf_307 hk_308 => ?_)
              have hW_310 := hW_277.up hf_307 hk_308 t_23 ⟨_, rfl, (ok_261.up (by first | omega | (simp only [Int32.lt_iff_toInt_lt, Int32.le_iff_toInt_le, Int32.reduceToInt, ← Int32.toInt_inj, true_and, and_true, or_true, true_or, false_or, or_false, false_and, and_false, not_true_eq_false, not_false_eq_true] <;> omega)) (fun q1 q2 => (by first | omega | (simp only [Int32.lt_iff_toInt_lt, Int32.le_iff_toInt_le, Int32.reduceToInt, ← Int32.toInt_inj] at *; omega))) (fun k9 q1 q2 q3 => (by first | omega | (simp only [Int32.lt_iff_toInt_lt, Int32.le_iff_toInt_le, Int32.reduceToInt, ← Int32.toInt_inj] at *; omega))))⟩
              obtain ⟨g_309, hf_307, ok_311, eg_312⟩ : ∃ g9, f_306 (q 14) = aI E 2076 g9 ∧ FOK g9 ∧ g9 = upd g_259 (v_267 : Int32).toNatClampNeg r_270 := ⟨_, hf_307, (ok_261.up (by first | omega | (simp only [Int32.lt_iff_toInt_lt, Int32.le_iff_toInt_le, Int32.reduceToInt, ← Int32.toInt_inj, true_and, and_true, or_true, true_or, false_or, or_false, false_and, and_false, not_true_eq_false, not_false_eq_true] <;> omega)) (fun q1 q2 => (by first | omega | (simp only [Int32.lt_iff_toInt_lt, Int32.le_iff_toInt_le, Int32.reduceToInt, ← Int32.toInt_inj] at *; omega))) (fun k9 q1 q2 q3 => (by first | omega | (simp only [Int32.lt_iff_toInt_lt, Int32.le_iff_toInt_le, Int32.reduceToInt, ← Int32.toInt_inj] at *; omega)))), rfl⟩
              have hf_313 := (hk_308 a_0 (ne_kd e_283 hf_282 rfl)).trans e_283
              have fr_314 := FR.w hk_308 hf_282 (k := 2176) rfl
              have lk_315 := lf_at (g0 := g_f) eg_312 (by omega) (by omega)
              have ag_316 := ag_266.st eg_312 (by omega) (by omega)
              try simp only [Int32.reduceToInt] at lk_315
              refine v_aload_n hC dX12_readLoss_225 rfl ?_
              refine v_get hC fl_X12_34 m_1 hf_313 rfl dX12_readLoss_226 ?_
              refine v_iload_n hC dX12_readLoss_229 rfl ?_
              refine v_iconst hC dX12_readLoss_230 (v := 2) (by decide) ?_
              obtain ⟨v_317, h_318⟩ : ∃ v9 : Int32, v_49 + 2 = v9 := ⟨_, rfl⟩
              refine v_iadd hC dX12_readLoss_231 h_318 ?_
              have h_319 := add_v h_318 (by first | omega | (simp only [Int32.lt_iff_toInt_lt, Int32.le_iff_toInt_le, Int32.reduceToInt, ← Int32.toInt_inj, true_and, and_true, or_true, true_or, false_or, or_false, false_and, and_false, not_true_eq_false, not_false_eq_true] <;> omega)) (by first | omega | (simp only [Int32.lt_iff_toInt_lt, Int32.le_iff_toInt_le, Int32.reduceToInt, ← Int32.toInt_inj, true_and, and_true, or_true, true_or, false_or, or_false, false_and, and_false, not_true_eq_false, not_false_eq_true] <;> omega))
              try simp only [Int32.reduceToInt] at h_319
              refine v_aload_n hC dX12_readLoss_232 rfl ?_
              refine v_ldcwS hC sr_X12_297 dX12_readLoss_233 ?_
              refine v_iconst hC dX12_readLoss_236 (v := 0) (by decide) ?_
              refine v_sipush hC dX12_readLoss_237 (v := 255) (by decide) ?_
              refine v_vi hC (rest := [.int v_317, .ref (q 14)]) m_1 hf_313 rfl mi_X12_told ms_X12_told (p_X12_told hW_310 k_0 (by decide)) mx_X12_told ml_X12_189 (by decide) rfl (cells1 := 0) (slots1 := 0) (by decide) (by decide) (Nat.le_of_ble_eq_true rfl) (Nat.le_of_ble_eq_true rfl) rfl (Nat.le_of_ble_eq_true rfl) dX12_readLoss_240 (fun r_320 L_321 f_322 h_323 => ?_)
              obtain ⟨rfl, hW_327, hF_328, x_324, x_325, x_326, -, -⟩ := h_323
              have fe_329 : fld (f_306 a_0) 8 = (v_289 : Int32).toInt := by rw [hf_313]; rfl
              have fe_330 : fld (f_306 a_0) 12 = (v_296 : Int32).toInt := by rw [hf_313]; rfl
              have hf_331 := hF_328.at hf_307 rfl
              obtain ⟨v_333, v_334, v_336, v_338, v_340, v_342, v_344, v_345, v_346, v_347, v_349, e_332, b_335, b_337, b_339, b_341, b_343, b_348, b_350⟩ := hW_327.at m_1 t_2
              have fe_351 : fld (f_322 a_0) 8 = (v_338 : Int32).toInt := by rw [e_332]; rfl
              have fe_352 : fld (f_322 a_0) 9 = (v_340 : Int32).toInt := by rw [e_332]; rfl
              have fe_353 : fld (f_322 a_0) 10 = (v_342 : Int32).toInt := by rw [e_332]; rfl
              have fe_354 : fld (f_322 a_0) 12 = (v_345 : Int32).toInt := by rw [e_332]; rfl
              rw [fe_354, fe_330] at x_324
              rw [fe_354, fe_329, fe_352, fe_351] at x_325
              rw [fe_354, fe_353, fe_352, fe_351] at x_326
              clear fe_329 fe_330 fe_351 fe_352 fe_353 fe_354
              try simp only [Int32.reduceToInt, Int64.reduceToInt] at x_324
              try simp only [Int32.reduceToInt, Int64.reduceToInt] at x_325
              try simp only [Int32.reduceToInt, Int64.reduceToInt] at x_326
              refine v_iast hC m_22 hf_331 (vp_in_iff.mpr (by first | omega | (simp only [Int32.lt_iff_toInt_lt, Int32.le_iff_toInt_le, Int32.reduceToInt, ← Int32.toInt_inj, true_and, and_true, or_true, true_or, false_or, or_false, false_and, and_false, not_true_eq_false, not_false_eq_true] <;> omega))) dX12_readLoss_243 (fun f_355 hf_356 hk_357 => ?_)
              have hW_359 := hW_327.up hf_356 hk_357 t_23 ⟨_, rfl, (ok_311.up (by first | omega | (simp only [Int32.lt_iff_toInt_lt, Int32.le_iff_toInt_le, Int32.reduceToInt, ← Int32.toInt_inj, true_and, and_true, or_true, true_or, false_or, or_false, false_and, and_false, not_true_eq_false, not_false_eq_true] <;> omega)) (fun q1 q2 => (by first | omega | (simp only [Int32.lt_iff_toInt_lt, Int32.le_iff_toInt_le, Int32.reduceToInt, ← Int32.toInt_inj] at *; omega))) (fun k9 q1 q2 q3 => (by first | omega | (simp only [Int32.lt_iff_toInt_lt, Int32.le_iff_toInt_le, Int32.reduceToInt, ← Int32.toInt_inj] at *; omega))))⟩
              obtain ⟨g_358, hf_356, ok_360, eg_361⟩ : ∃ g9, f_355 (q 14) = aI E 2076 g9 ∧ FOK g9 ∧ g9 = upd g_309 (v_317 : Int32).toNatClampNeg r_320 := ⟨_, hf_356, (ok_311.up (by first | omega | (simp only [Int32.lt_iff_toInt_lt, Int32.le_iff_toInt_le, Int32.reduceToInt, ← Int32.toInt_inj, true_and, and_true, or_true, true_or, false_or, or_false, false_and, and_false, not_true_eq_false, not_false_eq_true] <;> omega)) (fun q1 q2 => (by first | omega | (simp only [Int32.lt_iff_toInt_lt, Int32.le_iff_toInt_le, Int32.reduceToInt, ← Int32.toInt_inj] at *; omega))) (fun k9 q1 q2 q3 => (by first | omega | (simp only [Int32.lt_iff_toInt_lt, Int32.le_iff_toInt_le, Int32.reduceToInt, ← Int32.toInt_inj] at *; omega)))), rfl⟩
              have hf_362 := (hk_357 a_0 (ne_kd e_332 hf_331 rfl)).trans e_332
              have fr_363 := FR.w hk_357 hf_331 (k := 2176) rfl
              have lk_364 := l2_at (g0 := g_f) eg_361 (by omega) (by omega)
              have ag_365 := ag_316.st eg_361 (by omega) (by omega)
              try simp only [Int32.reduceToInt] at lk_364
              refine v_goto hC dX12_readLoss_244 (tgt := 258) (by decide) ?_
              refine v_aload_n hC dX12_readLoss_258 rfl ?_
              refine v_vv hC (rest := []) m_1 hf_362 rfl mi_X12_ends ms_X12_ends (p_X12_ends hW_359 k_0) mx_X12_ends ml_X12_178 (by decide) rfl (cells1 := 0) (slots1 := 0) (by decide) (by decide) (Nat.le_of_ble_eq_true rfl) (Nat.le_of_ble_eq_true rfl) rfl (Nat.le_of_ble_eq_true rfl) dX12_readLoss_259 (fun L_367 f_368 h_369 => ?_)
              obtain ⟨rfl, hW_372, hF_373, x_370, x_371, -, -⟩ := h_369
              have fe_374 : fld (f_355 a_0) 8 = (v_338 : Int32).toInt := by rw [hf_362]; rfl
              have fe_375 : fld (f_355 a_0) 10 = (v_342 : Int32).toInt := by rw [hf_362]; rfl
              have fe_376 : fld (f_355 a_0) 12 = (v_345 : Int32).toInt := by rw [hf_362]; rfl
              have hf_377 := hF_373.at hf_356 rfl
              obtain ⟨v_379, v_380, v_382, v_384, v_386, v_388, v_390, v_391, v_392, v_393, v_395, e_378, b_381, b_383, b_385, b_387, b_389, b_394, b_396⟩ := hW_372.at m_1 t_2
              have fe_397 : fld (f_368 a_0) 8 = (v_384 : Int32).toInt := by rw [e_378]; rfl
              have fe_398 : fld (f_368 a_0) 9 = (v_386 : Int32).toInt := by rw [e_378]; rfl
              have fe_399 : fld (f_368 a_0) 12 = (v_391 : Int32).toInt := by rw [e_378]; rfl
              rw [fe_399, fe_376] at x_370
              rw [fe_399, fe_375, fe_374, fe_398, fe_397] at x_371
              clear fe_374 fe_375 fe_376 fe_397 fe_398 fe_399
              refine v_aload_n hC dX12_readLoss_262 rfl ?_
              refine v_get hC fl_X12_34 m_1 e_378 rfl dX12_readLoss_263 ?_
              refine v_bipush hC dX12_readLoss_266 (v := 6) (by decide) ?_
              refine v_dup2 hC dX12_readLoss_268 rfl rfl ?_
              have l6_400 : (g_358 6).toInt = (g_f 6).toInt := congrArg Int32.toInt ag_365.2.1
              refine v_iald hC m_22 hf_377 (vp_in_iff.mpr (by decide)) (v := g_358 6) rfl dX12_readLoss_269 ?_
              refine v_iconst hC dX12_readLoss_270 (v := 1) (by decide) ?_
              obtain ⟨v_401, h_402⟩ : ∃ v9 : Int32, (g_358 6) + 1 = v9 := ⟨_, rfl⟩
              refine v_iadd hC dX12_readLoss_271 h_402 ?_
              have h_403 := add_v h_402 (by first | omega | (simp only [Int32.lt_iff_toInt_lt, Int32.le_iff_toInt_le, Int32.reduceToInt, ← Int32.toInt_inj, true_and, and_true, or_true, true_or, false_or, or_false, false_and, and_false, not_true_eq_false, not_false_eq_true] <;> omega)) (by first | omega | (simp only [Int32.lt_iff_toInt_lt, Int32.le_iff_toInt_le, Int32.reduceToInt, ← Int32.toInt_inj, true_and, and_true, or_true, true_or, false_or, or_false, false_and, and_false, not_true_eq_false, not_false_eq_true] <;> omega))
              try simp only [Int32.reduceToInt] at h_403
              refine v_iast hC m_22 hf_377 (vp_in_iff.mpr (by decide)) dX12_readLoss_272 (fun f_404 hf_405 hk_406 => ?_)
              have hW_408 := hW_372.up hf_405 hk_406 t_23 ⟨_, rfl, (ok_360.up (i := 6) (by decide) (fun q1 q2 => absurd (And.intro q1 q2) (by decide)) (fun k9 q1 q2 q3 => by simp only [Int32.reduceToInt] at q3; omega))⟩
              obtain ⟨g_407, hf_405, ok_409, eg_410⟩ : ∃ g9, f_404 (q 14) = aI E 2076 g9 ∧ FOK g9 ∧ g9 = upd g_358 (6 : Int32).toNatClampNeg v_401 := ⟨_, hf_405, (ok_360.up (i := 6) (by decide) (fun q1 q2 => absurd (And.intro q1 q2) (by decide)) (fun k9 q1 q2 q3 => by simp only [Int32.reduceToInt] at q3; omega)), rfl⟩
              have hf_411 := (hk_406 a_0 (ne_kd e_378 hf_377 rfl)).trans e_378
              have fr_412 := FR.w hk_406 hf_377 (k := 2176) rfl
              have ln6_413 := FOK.n6 ag_365.1 eg_410
              have ln6_413_t : (g_407 6).toInt = v_401.toInt := congrArg Int32.toInt ln6_413.2
              have fe_414 : fld (f_404 a_0) 12 = (v_391 : Int32).toInt := by rw [hf_411]; rfl
              have fe_415 : fld (f_404 a_0) 8 = (v_384 : Int32).toInt := by rw [hf_411]; rfl
              have fe_416 : fld (f_404 a_0) 12 = (v_391 : Int32).toInt := by rw [hf_411]; rfl
              have fe_417 : fld (f_404 a_0) 20 = (v_395 : Int32).toInt := by rw [hf_411]; rfl
              exact hR _ _ _ _ _ _ dX12_readLoss_273 (Nat.le_of_ble_eq_true rfl) (Nat.le_of_ble_eq_true rfl) ⟨rfl, hW_408, (((((((((hF_95.tr hF_130).tr fr_264).tr hF_278).tr fr_314).tr hF_328).tr fr_363).tr hF_373).tr fr_412).mono rfl), ⟨_, hf_405, ln6_413.1, (by omega), (by rw [fe_414]; by_cases q9 : v_391.toInt = 0; exact .inr (LO.fin hLO ag_365 eg_410 (by omega) (by omega) (fun q8 => by omega)); exact .inl q9)⟩, (by simp only [fe_415, fe_416, mz_43, mz_44, true_and, and_true, or_true, true_or, false_or, or_false, false_and, and_false, not_true_eq_false, not_false_eq_true] <;> first | omega | (simp only [Int32.lt_iff_toInt_lt, Int32.le_iff_toInt_le, Int32.reduceToInt, ← Int32.toInt_inj, true_and, and_true, or_true, true_or, false_or, or_false, false_and, and_false, not_true_eq_false, not_false_eq_true] <;> omega)), (by simp only [fe_417, mz_45, true_and, and_true, or_true, true_or, false_or, or_false, false_and, and_false, not_true_eq_false, not_false_eq_true] <;> first | omega | (simp only [Int32.lt_iff_toInt_lt, Int32.le_iff_toInt_le, Int32.reduceToInt, ← Int32.toInt_inj, true_and, and_true, or_true, true_or, false_or, or_false, false_and, and_false, not_true_eq_false, not_false_eq_true] <;> omega))⟩
          · simp only [Int32.lt_iff_toInt_lt, Int32.le_iff_toInt_le, Int32.reduceToInt, ← Int32.toInt_inj] at h_122
            refine v_aload_n hC dX12_readLoss_98 rfl ?_
            refine v_ldcwS hC sr_X12_293 dX12_readLoss_99 ?_
            refine v_vi hC (rest := []) m_1 e_99 rfl mi_X12_is ms_X12_is (p_X12_is hW_94 k_0 (by decide)) mx_X12_is ml_X12_152 (by decide) rfl (cells1 := 0) (slots1 := 0) (by decide) (by decide) (Nat.le_of_ble_eq_true rfl) (Nat.le_of_ble_eq_true rfl) rfl (Nat.le_of_ble_eq_true rfl) dX12_readLoss_102 (fun r_418 L_419 f_420 h_421 => ?_)
            obtain ⟨rfl, rfl, rfl⟩ := h_421
            refine v_istore_n hC dX12_readLoss_105 (by decide) (lv' := [(3, .int (iw (f_90 a_0) (f_90 (q 4)) 74)), (2, .int v_74), (1, .int v_49), (0, .ref a_0)]) rfl ?_
            refine v_iload_n hC dX12_readLoss_106 rfl ?_
            refine v_if_ne hC dX12_readLoss_107 (tgt := 124) (by decide) (fun h_424 => ?_) (fun h_424 => ?_)
            · simp only [Int32.lt_iff_toInt_lt, Int32.le_iff_toInt_le, Int32.reduceToInt, ← Int32.toInt_inj] at h_424
              refine v_aload_n hC dX12_readLoss_124 rfl ?_
              refine v_vi hC (rest := []) m_1 e_99 rfl mi_X12_good ms_X12_good (p_X12_good hW_94 k_0) mx_X12_good ml_X12_139 (by decide) rfl (cells1 := 0) (slots1 := 0) (by decide) (by decide) (Nat.le_of_ble_eq_true rfl) (Nat.le_of_ble_eq_true rfl) rfl (Nat.le_of_ble_eq_true rfl) dX12_readLoss_125 (fun r_425 L_426 f_427 h_428 => ?_)
              obtain ⟨rfl, rfl, b_429, x_430⟩ := h_428
              have fe_433 : fld (f_90 a_0) 12 = (v_112 : Int32).toInt := by rw [e_99]; rfl
              rw [fe_433] at x_430
              clear fe_433
              try simp only [Int32.reduceToInt, Int64.reduceToInt] at x_430
              refine v_if_eq hC dX12_readLoss_128 (tgt := 135) (by decide) (fun h_434 => ?_) (fun h_434 => ?_)
              · simp only [Int32.lt_iff_toInt_lt, Int32.le_iff_toInt_le, Int32.reduceToInt, ← Int32.toInt_inj] at h_434
                refine v_aload_n hC dX12_readLoss_135 rfl ?_
                refine v_get hC fl_X12_34 m_1 e_99 rfl dX12_readLoss_136 ?_
                refine v_iload_n hC dX12_readLoss_139 rfl ?_
                refine v_iload_n hC dX12_readLoss_140 rfl ?_
                refine v_if_eq_f hC dX12_readLoss_141 (tgt := 148) (by decide) (by first | omega | (simp only [Int32.lt_iff_toInt_lt, Int32.le_iff_toInt_le, Int32.reduceToInt, ← Int32.toInt_inj, true_and, and_true, or_true, true_or, false_or, or_false, false_and, and_false, not_true_eq_false, not_false_eq_true] <;> omega)) ?_
                refine v_iconst hC dX12_readLoss_144 (v := 1) (by decide) ?_
                refine v_goto hC dX12_readLoss_145 (tgt := 149) (by decide) ?_
                refine v_iast hC m_22 hf_98 (vp_in_iff.mpr (by first | omega | (simp only [Int32.lt_iff_toInt_lt, Int32.le_iff_toInt_le, Int32.reduceToInt, ← Int32.toInt_inj, true_and, and_true, or_true, true_or, false_or, or_false, false_and, and_false, not_true_eq_false, not_false_eq_true] <;> omega))) dX12_readLoss_149 (fun f_435 hf_436 hk_437 => ?_)
                have hW_439 := hW_94.up hf_436 hk_437 t_23 ⟨_, rfl, (o_f.up (by first | omega | (simp only [Int32.lt_iff_toInt_lt, Int32.le_iff_toInt_le, Int32.reduceToInt, ← Int32.toInt_inj, true_and, and_true, or_true, true_or, false_or, or_false, false_and, and_false, not_true_eq_false, not_false_eq_true] <;> omega)) (fun q1 q2 => (by first | omega | (simp only [Int32.lt_iff_toInt_lt, Int32.le_iff_toInt_le, Int32.reduceToInt, ← Int32.toInt_inj] at *; omega))) (fun k9 q1 q2 q3 => (by first | omega | (simp only [Int32.lt_iff_toInt_lt, Int32.le_iff_toInt_le, Int32.reduceToInt, ← Int32.toInt_inj] at *; omega))))⟩
                obtain ⟨g_438, hf_436, ok_440, eg_441⟩ : ∃ g9, f_435 (q 14) = aI E 2076 g9 ∧ FOK g9 ∧ g9 = upd g_f (v_49 : Int32).toNatClampNeg 1 := ⟨_, hf_436, (o_f.up (by first | omega | (simp only [Int32.lt_iff_toInt_lt, Int32.le_iff_toInt_le, Int32.reduceToInt, ← Int32.toInt_inj, true_and, and_true, or_true, true_or, false_or, or_false, false_and, and_false, not_true_eq_false, not_false_eq_true] <;> omega)) (fun q1 q2 => (by first | omega | (simp only [Int32.lt_iff_toInt_lt, Int32.le_iff_toInt_le, Int32.reduceToInt, ← Int32.toInt_inj] at *; omega))) (fun k9 q1 q2 q3 => (by first | omega | (simp only [Int32.lt_iff_toInt_lt, Int32.le_iff_toInt_le, Int32.reduceToInt, ← Int32.toInt_inj] at *; omega)))), rfl⟩
                have hf_442 := (hk_437 a_0 (ne_kd e_99 hf_98 rfl)).trans e_99
                have fr_443 := FR.w hk_437 hf_98 (k := 2176) rfl
                have lk_444 := lk_at (g0 := g_f) eg_441 (by omega) (by omega)
                have ag_445 := (AG.rf o_f).st eg_441 (by omega) (by omega)
                try simp only [Int32.reduceToInt] at lk_444
                refine v_aload_n hC dX12_readLoss_150 rfl ?_
                refine v_get hC fl_X12_34 m_1 hf_442 rfl dX12_readLoss_151 ?_
                refine v_iload_n hC dX12_readLoss_154 rfl ?_
                refine v_iconst hC dX12_readLoss_155 (v := 1) (by decide) ?_
                obtain ⟨v_446, h_447⟩ : ∃ v9 : Int32, v_49 + 1 = v9 := ⟨_, rfl⟩
                refine v_iadd hC dX12_readLoss_156 h_447 ?_
                have h_448 := add_v h_447 (by first | omega | (simp only [Int32.lt_iff_toInt_lt, Int32.le_iff_toInt_le, Int32.reduceToInt, ← Int32.toInt_inj, true_and, and_true, or_true, true_or, false_or, or_false, false_and, and_false, not_true_eq_false, not_false_eq_true] <;> omega)) (by first | omega | (simp only [Int32.lt_iff_toInt_lt, Int32.le_iff_toInt_le, Int32.reduceToInt, ← Int32.toInt_inj, true_and, and_true, or_true, true_or, false_or, or_false, false_and, and_false, not_true_eq_false, not_false_eq_true] <;> omega))
                try simp only [Int32.reduceToInt] at h_448
                refine v_aload_n hC dX12_readLoss_157 rfl ?_
                refine v_iconst hC dX12_readLoss_158 (v := 0) (by decide) ?_
                refine v_bipush hC dX12_readLoss_159 (v := 15) (by decide) ?_
                refine v_vi hC (rest := [.int v_446, .ref (q 14)]) m_1 hf_442 rfl mi_X12_number ms_X12_number (p_X12_number hW_439 k_0) mx_X12_number ml_X12_170 (by decide) rfl (cells1 := 0) (slots1 := 0) (by decide) (by decide) (Nat.le_of_ble_eq_true rfl) (Nat.le_of_ble_eq_true rfl) rfl (Nat.le_of_ble_eq_true rfl) dX12_readLoss_161 (fun r_449 L_450 f_451 h_452 => ?_)
                obtain ⟨rfl, hW_456, hF_457, x_453, x_454, x_455, -, -⟩ := h_452
                have fe_458 : fld (f_435 a_0) 8 = (v_105 : Int32).toInt := by rw [hf_442]; rfl
                have fe_459 : fld (f_435 a_0) 10 = (v_109 : Int32).toInt := by rw [hf_442]; rfl
                have fe_460 : fld (f_435 a_0) 12 = (v_112 : Int32).toInt := by rw [hf_442]; rfl
                have hf_461 := hF_457.at hf_436 rfl
                obtain ⟨v_463, v_464, v_466, v_468, v_470, v_472, v_474, v_475, v_476, v_477, v_479, e_462, b_465, b_467, b_469, b_471, b_473, b_478, b_480⟩ := hW_456.at m_1 t_2
                have fe_481 : fld (f_451 a_0) 8 = (v_468 : Int32).toInt := by rw [e_462]; rfl
                have fe_482 : fld (f_451 a_0) 9 = (v_470 : Int32).toInt := by rw [e_462]; rfl
                have fe_483 : fld (f_451 a_0) 10 = (v_472 : Int32).toInt := by rw [e_462]; rfl
                have fe_484 : fld (f_451 a_0) 12 = (v_475 : Int32).toInt := by rw [e_462]; rfl
                rw [fe_484, fe_460] at x_453
                rw [fe_484, fe_459, fe_458, fe_482, fe_481] at x_454
                rw [fe_484, fe_483, fe_482, fe_481] at x_455
                clear fe_458 fe_459 fe_460 fe_481 fe_482 fe_483 fe_484
                try simp only [Int32.reduceToInt, Int64.reduceToInt] at x_453
                try simp only [Int32.reduceToInt, Int64.reduceToInt] at x_454
                try simp only [Int32.reduceToInt, Int64.reduceToInt] at x_455
                refine v_iast hC m_22 hf_461 (vp_in_iff.mpr (by first | omega | (simp only [Int32.lt_iff_toInt_lt, Int32.le_iff_toInt_le, Int32.reduceToInt, ← Int32.toInt_inj, true_and, and_true, or_true, true_or, false_or, or_false, false_and, and_false, not_true_eq_false, not_false_eq_true] <;> omega))) dX12_readLoss_164 (fun f_485 hf_486 hk_487 => ?_)
                have hW_489 := hW_456.up hf_486 hk_487 t_23 ⟨_, rfl, (ok_440.up (by first | omega | (simp only [Int32.lt_iff_toInt_lt, Int32.le_iff_toInt_le, Int32.reduceToInt, ← Int32.toInt_inj, true_and, and_true, or_true, true_or, false_or, or_false, false_and, and_false, not_true_eq_false, not_false_eq_true] <;> omega)) (fun q1 q2 => (by first | omega | (simp only [Int32.lt_iff_toInt_lt, Int32.le_iff_toInt_le, Int32.reduceToInt, ← Int32.toInt_inj] at *; omega))) (fun k9 q1 q2 q3 => (by first | omega | (simp only [Int32.lt_iff_toInt_lt, Int32.le_iff_toInt_le, Int32.reduceToInt, ← Int32.toInt_inj] at *; omega))))⟩
                obtain ⟨g_488, hf_486, ok_490, eg_491⟩ : ∃ g9, f_485 (q 14) = aI E 2076 g9 ∧ FOK g9 ∧ g9 = upd g_438 (v_446 : Int32).toNatClampNeg r_449 := ⟨_, hf_486, (ok_440.up (by first | omega | (simp only [Int32.lt_iff_toInt_lt, Int32.le_iff_toInt_le, Int32.reduceToInt, ← Int32.toInt_inj, true_and, and_true, or_true, true_or, false_or, or_false, false_and, and_false, not_true_eq_false, not_false_eq_true] <;> omega)) (fun q1 q2 => (by first | omega | (simp only [Int32.lt_iff_toInt_lt, Int32.le_iff_toInt_le, Int32.reduceToInt, ← Int32.toInt_inj] at *; omega))) (fun k9 q1 q2 q3 => (by first | omega | (simp only [Int32.lt_iff_toInt_lt, Int32.le_iff_toInt_le, Int32.reduceToInt, ← Int32.toInt_inj] at *; omega)))), rfl⟩
                have hf_492 := (hk_487 a_0 (ne_kd e_462 hf_461 rfl)).trans e_462
                have fr_493 := FR.w hk_487 hf_461 (k := 2176) rfl
                have lk_494 := lf_at (g0 := g_f) eg_491 (by omega) (by omega)
                have ag_495 := ag_445.st eg_491 (by omega) (by omega)
                try simp only [Int32.reduceToInt] at lk_494
                refine v_aload_n hC dX12_readLoss_165 rfl ?_
                refine v_get hC fl_X12_34 m_1 hf_492 rfl dX12_readLoss_166 ?_
                refine v_iload_n hC dX12_readLoss_169 rfl ?_
                refine v_iconst hC dX12_readLoss_170 (v := 2) (by decide) ?_
                obtain ⟨v_496, h_497⟩ : ∃ v9 : Int32, v_49 + 2 = v9 := ⟨_, rfl⟩
                refine v_iadd hC dX12_readLoss_171 h_497 ?_
                have h_498 := add_v h_497 (by first | omega | (simp only [Int32.lt_iff_toInt_lt, Int32.le_iff_toInt_le, Int32.reduceToInt, ← Int32.toInt_inj, true_and, and_true, or_true, true_or, false_or, or_false, false_and, and_false, not_true_eq_false, not_false_eq_true] <;> omega)) (by first | omega | (simp only [Int32.lt_iff_toInt_lt, Int32.le_iff_toInt_le, Int32.reduceToInt, ← Int32.toInt_inj, true_and, and_true, or_true, true_or, false_or, or_false, false_and, and_false, not_true_eq_false, not_false_eq_true] <;> omega))
                try simp only [Int32.reduceToInt] at h_498
                refine v_aload_n hC dX12_readLoss_172 rfl ?_
                refine v_ldcwS hC sr_X12_295 dX12_readLoss_173 ?_
                refine v_aload_n hC dX12_readLoss_176 rfl ?_
                refine v_get hC fl_X12_34 m_1 hf_492 rfl dX12_readLoss_177 ?_
                refine v_iload_n hC dX12_readLoss_180 rfl ?_
                refine v_iconst hC dX12_readLoss_181 (v := 1) (by decide) ?_
                obtain ⟨v_499, h_500⟩ : ∃ v9 : Int32, v_49 + 1 = v9 := ⟨_, rfl⟩
                refine v_iadd hC dX12_readLoss_182 h_500 ?_
                have h_501 := add_v h_500 (by first | omega | (simp only [Int32.lt_iff_toInt_lt, Int32.le_iff_toInt_le, Int32.reduceToInt, ← Int32.toInt_inj, true_and, and_true, or_true, true_or, false_or, or_false, false_and, and_false, not_true_eq_false, not_false_eq_true] <;> omega)) (by first | omega | (simp only [Int32.lt_iff_toInt_lt, Int32.le_iff_toInt_le, Int32.reduceToInt, ← Int32.toInt_inj, true_and, and_true, or_true, true_or, false_or, or_false, false_and, and_false, not_true_eq_false, not_false_eq_true] <;> omega))
                try simp only [Int32.reduceToInt] at h_501
                obtain ⟨v_502, h_503⟩ : ∃ v9 : Int32, g_488 (v_499 : Int32).toNatClampNeg = v9 := ⟨_, rfl⟩
                refine v_iald hC m_22 hf_486 (vp_in_iff.mpr (by first | omega | (simp only [Int32.lt_iff_toInt_lt, Int32.le_iff_toInt_le, Int32.reduceToInt, ← Int32.toInt_inj, true_and, and_true, or_true, true_or, false_or, or_false, false_and, and_false, not_true_eq_false, not_false_eq_true] <;> omega))) h_503 dX12_readLoss_183 ?_
                refine v_bipush hC dX12_readLoss_184 (v := 15) (by decide) ?_
                refine v_vi hC (rest := [.int v_496, .ref (q 14)]) m_1 hf_492 rfl mi_X12_told ms_X12_told (p_X12_told hW_489 k_0 (by decide)) mx_X12_told ml_X12_189 (by decide) rfl (cells1 := 0) (slots1 := 0) (by decide) (by decide) (Nat.le_of_ble_eq_true rfl) (Nat.le_of_ble_eq_true rfl) rfl (Nat.le_of_ble_eq_true rfl) dX12_readLoss_186 (fun r_504 L_505 f_506 h_507 => ?_)
                obtain ⟨rfl, hW_511, hF_512, x_508, x_509, x_510, -, -⟩ := h_507
                have fe_513 : fld (f_485 a_0) 8 = (v_468 : Int32).toInt := by rw [hf_492]; rfl
                have fe_514 : fld (f_485 a_0) 12 = (v_475 : Int32).toInt := by rw [hf_492]; rfl
                have hf_515 := hF_512.at hf_486 rfl
                obtain ⟨v_517, v_518, v_520, v_522, v_524, v_526, v_528, v_529, v_530, v_531, v_533, e_516, b_519, b_521, b_523, b_525, b_527, b_532, b_534⟩ := hW_511.at m_1 t_2
                have fe_535 : fld (f_506 a_0) 8 = (v_522 : Int32).toInt := by rw [e_516]; rfl
                have fe_536 : fld (f_506 a_0) 9 = (v_524 : Int32).toInt := by rw [e_516]; rfl
                have fe_537 : fld (f_506 a_0) 10 = (v_526 : Int32).toInt := by rw [e_516]; rfl
                have fe_538 : fld (f_506 a_0) 12 = (v_529 : Int32).toInt := by rw [e_516]; rfl
                rw [fe_538, fe_514] at x_508
                rw [fe_538, fe_513, fe_536, fe_535] at x_509
                rw [fe_538, fe_537, fe_536, fe_535] at x_510
                clear fe_513 fe_514 fe_535 fe_536 fe_537 fe_538
                try simp only [Int32.reduceToInt, Int64.reduceToInt] at x_508
                try simp only [Int32.reduceToInt, Int64.reduceToInt] at x_509
                try simp only [Int32.reduceToInt, Int64.reduceToInt] at x_510
                refine v_iast hC m_22 hf_515 (vp_in_iff.mpr (by first | omega | (simp only [Int32.lt_iff_toInt_lt, Int32.le_iff_toInt_le, Int32.reduceToInt, ← Int32.toInt_inj, true_and, and_true, or_true, true_or, false_or, or_false, false_and, and_false, not_true_eq_false, not_false_eq_true] <;> omega))) dX12_readLoss_189 (fun f_539 hf_540 hk_541 => ?_)
                have hW_543 := hW_511.up hf_540 hk_541 t_23 ⟨_, rfl, (ok_490.up (by first | omega | (simp only [Int32.lt_iff_toInt_lt, Int32.le_iff_toInt_le, Int32.reduceToInt, ← Int32.toInt_inj, true_and, and_true, or_true, true_or, false_or, or_false, false_and, and_false, not_true_eq_false, not_false_eq_true] <;> omega)) (fun q1 q2 => (by first | omega | (simp only [Int32.lt_iff_toInt_lt, Int32.le_iff_toInt_le, Int32.reduceToInt, ← Int32.toInt_inj] at *; omega))) (fun k9 q1 q2 q3 => (by first | omega | (simp only [Int32.lt_iff_toInt_lt, Int32.le_iff_toInt_le, Int32.reduceToInt, ← Int32.toInt_inj] at *; omega))))⟩
                obtain ⟨g_542, hf_540, ok_544, eg_545⟩ : ∃ g9, f_539 (q 14) = aI E 2076 g9 ∧ FOK g9 ∧ g9 = upd g_488 (v_496 : Int32).toNatClampNeg r_504 := ⟨_, hf_540, (ok_490.up (by first | omega | (simp only [Int32.lt_iff_toInt_lt, Int32.le_iff_toInt_le, Int32.reduceToInt, ← Int32.toInt_inj, true_and, and_true, or_true, true_or, false_or, or_false, false_and, and_false, not_true_eq_false, not_false_eq_true] <;> omega)) (fun q1 q2 => (by first | omega | (simp only [Int32.lt_iff_toInt_lt, Int32.le_iff_toInt_le, Int32.reduceToInt, ← Int32.toInt_inj] at *; omega))) (fun k9 q1 q2 q3 => (by first | omega | (simp only [Int32.lt_iff_toInt_lt, Int32.le_iff_toInt_le, Int32.reduceToInt, ← Int32.toInt_inj] at *; omega)))), rfl⟩
                have hf_546 := (hk_541 a_0 (ne_kd e_516 hf_515 rfl)).trans e_516
                have fr_547 := FR.w hk_541 hf_515 (k := 2176) rfl
                have lk_548 := l2_at (g0 := g_f) eg_545 (by omega) (by omega)
                have ag_549 := ag_495.st eg_545 (by omega) (by omega)
                try simp only [Int32.reduceToInt] at lk_548
                refine v_goto hC dX12_readLoss_190 (tgt := 258) (by decide) ?_
                refine v_aload_n hC dX12_readLoss_258 rfl ?_
                refine v_vv hC (rest := []) m_1 hf_546 rfl mi_X12_ends ms_X12_ends (p_X12_ends hW_543 k_0) mx_X12_ends ml_X12_178 (by decide) rfl (cells1 := 0) (slots1 := 0) (by decide) (by decide) (Nat.le_of_ble_eq_true rfl) (Nat.le_of_ble_eq_true rfl) rfl (Nat.le_of_ble_eq_true rfl) dX12_readLoss_259 (fun L_551 f_552 h_553 => ?_)
                obtain ⟨rfl, hW_556, hF_557, x_554, x_555, -, -⟩ := h_553
                have fe_558 : fld (f_539 a_0) 8 = (v_522 : Int32).toInt := by rw [hf_546]; rfl
                have fe_559 : fld (f_539 a_0) 10 = (v_526 : Int32).toInt := by rw [hf_546]; rfl
                have fe_560 : fld (f_539 a_0) 12 = (v_529 : Int32).toInt := by rw [hf_546]; rfl
                have hf_561 := hF_557.at hf_540 rfl
                obtain ⟨v_563, v_564, v_566, v_568, v_570, v_572, v_574, v_575, v_576, v_577, v_579, e_562, b_565, b_567, b_569, b_571, b_573, b_578, b_580⟩ := hW_556.at m_1 t_2
                have fe_581 : fld (f_552 a_0) 8 = (v_568 : Int32).toInt := by rw [e_562]; rfl
                have fe_582 : fld (f_552 a_0) 9 = (v_570 : Int32).toInt := by rw [e_562]; rfl
                have fe_583 : fld (f_552 a_0) 12 = (v_575 : Int32).toInt := by rw [e_562]; rfl
                rw [fe_583, fe_560] at x_554
                rw [fe_583, fe_559, fe_558, fe_582, fe_581] at x_555
                clear fe_558 fe_559 fe_560 fe_581 fe_582 fe_583
                refine v_aload_n hC dX12_readLoss_262 rfl ?_
                refine v_get hC fl_X12_34 m_1 e_562 rfl dX12_readLoss_263 ?_
                refine v_bipush hC dX12_readLoss_266 (v := 6) (by decide) ?_
                refine v_dup2 hC dX12_readLoss_268 rfl rfl ?_
                have l6_584 : (g_542 6).toInt = (g_f 6).toInt := congrArg Int32.toInt ag_549.2.1
                refine v_iald hC m_22 hf_561 (vp_in_iff.mpr (by decide)) (v := g_542 6) rfl dX12_readLoss_269 ?_
                refine v_iconst hC dX12_readLoss_270 (v := 1) (by decide) ?_
                obtain ⟨v_585, h_586⟩ : ∃ v9 : Int32, (g_542 6) + 1 = v9 := ⟨_, rfl⟩
                refine v_iadd hC dX12_readLoss_271 h_586 ?_
                have h_587 := add_v h_586 (by first | omega | (simp only [Int32.lt_iff_toInt_lt, Int32.le_iff_toInt_le, Int32.reduceToInt, ← Int32.toInt_inj, true_and, and_true, or_true, true_or, false_or, or_false, false_and, and_false, not_true_eq_false, not_false_eq_true] <;> omega)) (by first | omega | (simp only [Int32.lt_iff_toInt_lt, Int32.le_iff_toInt_le, Int32.reduceToInt, ← Int32.toInt_inj, true_and, and_true, or_true, true_or, false_or, or_false, false_and, and_false, not_true_eq_false, not_false_eq_true] <;> omega))
                try simp only [Int32.reduceToInt] at h_587
                refine v_iast hC m_22 hf_561 (vp_in_iff.mpr (by decide)) dX12_readLoss_272 (fun f_588 hf_589 hk_590 => ?_)
                have hW_592 := hW_556.up hf_589 hk_590 t_23 ⟨_, rfl, (ok_544.up (i := 6) (by decide) (fun q1 q2 => absurd (And.intro q1 q2) (by decide)) (fun k9 q1 q2 q3 => by simp only [Int32.reduceToInt] at q3; omega))⟩
                obtain ⟨g_591, hf_589, ok_593, eg_594⟩ : ∃ g9, f_588 (q 14) = aI E 2076 g9 ∧ FOK g9 ∧ g9 = upd g_542 (6 : Int32).toNatClampNeg v_585 := ⟨_, hf_589, (ok_544.up (i := 6) (by decide) (fun q1 q2 => absurd (And.intro q1 q2) (by decide)) (fun k9 q1 q2 q3 => by simp only [Int32.reduceToInt] at q3; omega)), rfl⟩
                have hf_595 := (hk_590 a_0 (ne_kd e_562 hf_561 rfl)).trans e_562
                have fr_596 := FR.w hk_590 hf_561 (k := 2176) rfl
                have ln6_597 := FOK.n6 ag_549.1 eg_594
                have ln6_597_t : (g_591 6).toInt = v_585.toInt := congrArg Int32.toInt ln6_597.2
                have fe_598 : fld (f_588 a_0) 12 = (v_575 : Int32).toInt := by rw [hf_595]; rfl
                have fe_599 : fld (f_588 a_0) 8 = (v_568 : Int32).toInt := by rw [hf_595]; rfl
                have fe_600 : fld (f_588 a_0) 12 = (v_575 : Int32).toInt := by rw [hf_595]; rfl
                have fe_601 : fld (f_588 a_0) 20 = (v_579 : Int32).toInt := by rw [hf_595]; rfl
                exact hR _ _ _ _ _ _ dX12_readLoss_273 (Nat.le_of_ble_eq_true rfl) (Nat.le_of_ble_eq_true rfl) ⟨rfl, hW_592, ((((((((hF_95.tr fr_443).tr hF_457).tr fr_493).tr hF_512).tr fr_547).tr hF_557).tr fr_596).mono rfl), ⟨_, hf_589, ln6_597.1, (by omega), (by rw [fe_598]; by_cases q9 : v_575.toInt = 0; exact .inr (LO.fin hLO ag_549 eg_594 (by omega) (by omega) (fun q8 => by omega)); exact .inl q9)⟩, (by simp only [fe_599, fe_600, mz_43, mz_44, true_and, and_true, or_true, true_or, false_or, or_false, false_and, and_false, not_true_eq_false, not_false_eq_true] <;> first | omega | (simp only [Int32.lt_iff_toInt_lt, Int32.le_iff_toInt_le, Int32.reduceToInt, ← Int32.toInt_inj, true_and, and_true, or_true, true_or, false_or, or_false, false_and, and_false, not_true_eq_false, not_false_eq_true] <;> omega)), (by simp only [fe_601, mz_45, true_and, and_true, or_true, true_or, false_or, or_false, false_and, and_false, not_true_eq_false, not_false_eq_true] <;> first | omega | (simp only [Int32.lt_iff_toInt_lt, Int32.le_iff_toInt_le, Int32.reduceToInt, ← Int32.toInt_inj, true_and, and_true, or_true, true_or, false_or, or_false, false_and, and_false, not_true_eq_false, not_false_eq_true] <;> omega))⟩
              · simp only [Int32.lt_iff_toInt_lt, Int32.le_iff_toInt_le, Int32.reduceToInt, ← Int32.toInt_inj] at h_434
                refine v_aload_n hC dX12_readLoss_131 rfl ?_
                refine v_vv hC (rest := []) m_1 e_99 rfl mi_X12_advance ms_X12_advance (p_X12_advance hW_94 k_0) mx_X12_advance ml_X12_156 (by decide) rfl (cells1 := 0) (slots1 := 0) (by decide) (by decide) (Nat.le_of_ble_eq_true rfl) (Nat.le_of_ble_eq_true rfl) rfl (Nat.le_of_ble_eq_true rfl) dX12_readLoss_132 (fun L_603 f_604 h_605 => ?_)
                obtain ⟨rfl, hW_609, hF_610, x_606, x_607, x_608, -⟩ := h_605
                have fe_611 : fld (f_90 a_0) 8 = (v_105 : Int32).toInt := by rw [e_99]; rfl
                have fe_612 : fld (f_90 a_0) 12 = (v_112 : Int32).toInt := by rw [e_99]; rfl
                have hf_613 := hF_610.at hf_98 rfl
                obtain ⟨v_615, v_616, v_618, v_620, v_622, v_624, v_626, v_627, v_628, v_629, v_631, e_614, b_617, b_619, b_621, b_623, b_625, b_630, b_632⟩ := hW_609.at m_1 t_2
                have fe_633 : fld (f_604 a_0) 8 = (v_620 : Int32).toInt := by rw [e_614]; rfl
                have fe_634 : fld (f_604 a_0) 9 = (v_622 : Int32).toInt := by rw [e_614]; rfl
                have fe_635 : fld (f_604 a_0) 10 = (v_624 : Int32).toInt := by rw [e_614]; rfl
                have fe_636 : fld (f_604 a_0) 12 = (v_627 : Int32).toInt := by rw [e_614]; rfl
                rw [fe_611, fe_634, fe_633] at x_606
                rw [fe_635, fe_634, fe_633] at x_607
                rw [fe_636, fe_612] at x_608
                clear fe_611 fe_612 fe_633 fe_634 fe_635 fe_636
                refine v_aload_n hC dX12_readLoss_135 rfl ?_
                refine v_get hC fl_X12_34 m_1 e_614 rfl dX12_readLoss_136 ?_
                refine v_iload_n hC dX12_readLoss_139 rfl ?_
                refine v_iload_n hC dX12_readLoss_140 rfl ?_
                refine v_if_eq_f hC dX12_readLoss_141 (tgt := 148) (by decide) (by first | omega | (simp only [Int32.lt_iff_toInt_lt, Int32.le_iff_toInt_le, Int32.reduceToInt, ← Int32.toInt_inj, true_and, and_true, or_true, true_or, false_or, or_false, false_and, and_false, not_true_eq_false, not_false_eq_true] <;> omega)) ?_
                refine v_iconst hC dX12_readLoss_144 (v := 1) (by decide) ?_
                refine v_goto hC dX12_readLoss_145 (tgt := 149) (by decide) ?_
                refine v_iast hC m_22 hf_613 (vp_in_iff.mpr (by first | omega | (simp only [Int32.lt_iff_toInt_lt, Int32.le_iff_toInt_le, Int32.reduceToInt, ← Int32.toInt_inj, true_and, and_true, or_true, true_or, false_or, or_false, false_and, and_false, not_true_eq_false, not_false_eq_true] <;> omega))) dX12_readLoss_149 (fun f_637 hf_638 hk_639 => ?_)
                have hW_641 := hW_609.up hf_638 hk_639 t_23 ⟨_, rfl, (o_f.up (by first | omega | (simp only [Int32.lt_iff_toInt_lt, Int32.le_iff_toInt_le, Int32.reduceToInt, ← Int32.toInt_inj, true_and, and_true, or_true, true_or, false_or, or_false, false_and, and_false, not_true_eq_false, not_false_eq_true] <;> omega)) (fun q1 q2 => (by first | omega | (simp only [Int32.lt_iff_toInt_lt, Int32.le_iff_toInt_le, Int32.reduceToInt, ← Int32.toInt_inj] at *; omega))) (fun k9 q1 q2 q3 => (by first | omega | (simp only [Int32.lt_iff_toInt_lt, Int32.le_iff_toInt_le, Int32.reduceToInt, ← Int32.toInt_inj] at *; omega))))⟩
                obtain ⟨g_640, hf_638, ok_642, eg_643⟩ : ∃ g9, f_637 (q 14) = aI E 2076 g9 ∧ FOK g9 ∧ g9 = upd g_f (v_49 : Int32).toNatClampNeg 1 := ⟨_, hf_638, (o_f.up (by first | omega | (simp only [Int32.lt_iff_toInt_lt, Int32.le_iff_toInt_le, Int32.reduceToInt, ← Int32.toInt_inj, true_and, and_true, or_true, true_or, false_or, or_false, false_and, and_false, not_true_eq_false, not_false_eq_true] <;> omega)) (fun q1 q2 => (by first | omega | (simp only [Int32.lt_iff_toInt_lt, Int32.le_iff_toInt_le, Int32.reduceToInt, ← Int32.toInt_inj] at *; omega))) (fun k9 q1 q2 q3 => (by first | omega | (simp only [Int32.lt_iff_toInt_lt, Int32.le_iff_toInt_le, Int32.reduceToInt, ← Int32.toInt_inj] at *; omega)))), rfl⟩
                have hf_644 := (hk_639 a_0 (ne_kd e_614 hf_613 rfl)).trans e_614
                have fr_645 := FR.w hk_639 hf_613 (k := 2176) rfl
                have lk_646 := lk_at (g0 := g_f) eg_643 (by omega) (by omega)
                have ag_647 := (AG.rf o_f).st eg_643 (by omega) (by omega)
                try simp only [Int32.reduceToInt] at lk_646
                refine v_aload_n hC dX12_readLoss_150 rfl ?_
                refine v_get hC fl_X12_34 m_1 hf_644 rfl dX12_readLoss_151 ?_
                refine v_iload_n hC dX12_readLoss_154 rfl ?_
                refine v_iconst hC dX12_readLoss_155 (v := 1) (by decide) ?_
                obtain ⟨v_648, h_649⟩ : ∃ v9 : Int32, v_49 + 1 = v9 := ⟨_, rfl⟩
                refine v_iadd hC dX12_readLoss_156 h_649 ?_
                have h_650 := add_v h_649 (by first | omega | (simp only [Int32.lt_iff_toInt_lt, Int32.le_iff_toInt_le, Int32.reduceToInt, ← Int32.toInt_inj, true_and, and_true, or_true, true_or, false_or, or_false, false_and, and_false, not_true_eq_false, not_false_eq_true] <;> omega)) (by first | omega | (simp only [Int32.lt_iff_toInt_lt, Int32.le_iff_toInt_le, Int32.reduceToInt, ← Int32.toInt_inj, true_and, and_true, or_true, true_or, false_or, or_false, false_and, and_false, not_true_eq_false, not_false_eq_true] <;> omega))
                try simp only [Int32.reduceToInt] at h_650
                refine v_aload_n hC dX12_readLoss_157 rfl ?_
                refine v_iconst hC dX12_readLoss_158 (v := 0) (by decide) ?_
                refine v_bipush hC dX12_readLoss_159 (v := 15) (by decide) ?_
                refine v_vi hC (rest := [.int v_648, .ref (q 14)]) m_1 hf_644 rfl mi_X12_number ms_X12_number (p_X12_number hW_641 k_0) mx_X12_number ml_X12_170 (by decide) rfl (cells1 := 0) (slots1 := 0) (by decide) (by decide) (Nat.le_of_ble_eq_true rfl) (Nat.le_of_ble_eq_true rfl) rfl (Nat.le_of_ble_eq_true rfl) dX12_readLoss_161 (fun r_651 L_652 f_653 h_654 => ?_)
                obtain ⟨rfl, hW_658, hF_659, x_655, x_656, x_657, -, -⟩ := h_654
                have fe_660 : fld (f_637 a_0) 8 = (v_620 : Int32).toInt := by rw [hf_644]; rfl
                have fe_661 : fld (f_637 a_0) 10 = (v_624 : Int32).toInt := by rw [hf_644]; rfl
                have fe_662 : fld (f_637 a_0) 12 = (v_627 : Int32).toInt := by rw [hf_644]; rfl
                have hf_663 := hF_659.at hf_638 rfl
                obtain ⟨v_665, v_666, v_668, v_670, v_672, v_674, v_676, v_677, v_678, v_679, v_681, e_664, b_667, b_669, b_671, b_673, b_675, b_680, b_682⟩ := hW_658.at m_1 t_2
                have fe_683 : fld (f_653 a_0) 8 = (v_670 : Int32).toInt := by rw [e_664]; rfl
                have fe_684 : fld (f_653 a_0) 9 = (v_672 : Int32).toInt := by rw [e_664]; rfl
                have fe_685 : fld (f_653 a_0) 10 = (v_674 : Int32).toInt := by rw [e_664]; rfl
                have fe_686 : fld (f_653 a_0) 12 = (v_677 : Int32).toInt := by rw [e_664]; rfl
                rw [fe_686, fe_662] at x_655
                rw [fe_686, fe_661, fe_660, fe_684, fe_683] at x_656
                rw [fe_686, fe_685, fe_684, fe_683] at x_657
                clear fe_660 fe_661 fe_662 fe_683 fe_684 fe_685 fe_686
                try simp only [Int32.reduceToInt, Int64.reduceToInt] at x_655
                try simp only [Int32.reduceToInt, Int64.reduceToInt] at x_656
                try simp only [Int32.reduceToInt, Int64.reduceToInt] at x_657
                refine v_iast hC m_22 hf_663 (vp_in_iff.mpr (by first | omega | (simp only [Int32.lt_iff_toInt_lt, Int32.le_iff_toInt_le, Int32.reduceToInt, ← Int32.toInt_inj, true_and, and_true, or_true, true_or, false_or, or_false, false_and, and_false, not_true_eq_false, not_false_eq_true] <;> omega))) dX12_readLoss_164 (fun f_687 hf_688 hk_689 => ?_)
                have hW_691 := hW_658.up hf_688 hk_689 t_23 ⟨_, rfl, (ok_642.up (by first | omega | (simp only [Int32.lt_iff_toInt_lt, Int32.le_iff_toInt_le, Int32.reduceToInt, ← Int32.toInt_inj, true_and, and_true, or_true, true_or, false_or, or_false, false_and, and_false, not_true_eq_false, not_false_eq_true] <;> omega)) (fun q1 q2 => (by first | omega | (simp only [Int32.lt_iff_toInt_lt, Int32.le_iff_toInt_le, Int32.reduceToInt, ← Int32.toInt_inj] at *; omega))) (fun k9 q1 q2 q3 => (by first | omega | (simp only [Int32.lt_iff_toInt_lt, Int32.le_iff_toInt_le, Int32.reduceToInt, ← Int32.toInt_inj] at *; omega))))⟩
                obtain ⟨g_690, hf_688, ok_692, eg_693⟩ : ∃ g9, f_687 (q 14) = aI E 2076 g9 ∧ FOK g9 ∧ g9 = upd g_640 (v_648 : Int32).toNatClampNeg r_651 := ⟨_, hf_688, (ok_642.up (by first | omega | (simp only [Int32.lt_iff_toInt_lt, Int32.le_iff_toInt_le, Int32.reduceToInt, ← Int32.toInt_inj, true_and, and_true, or_true, true_or, false_or, or_false, false_and, and_false, not_true_eq_false, not_false_eq_true] <;> omega)) (fun q1 q2 => (by first | omega | (simp only [Int32.lt_iff_toInt_lt, Int32.le_iff_toInt_le, Int32.reduceToInt, ← Int32.toInt_inj] at *; omega))) (fun k9 q1 q2 q3 => (by first | omega | (simp only [Int32.lt_iff_toInt_lt, Int32.le_iff_toInt_le, Int32.reduceToInt, ← Int32.toInt_inj] at *; omega)))), rfl⟩
                have hf_694 := (hk_689 a_0 (ne_kd e_664 hf_663 rfl)).trans e_664
                have fr_695 := FR.w hk_689 hf_663 (k := 2176) rfl
                have lk_696 := lf_at (g0 := g_f) eg_693 (by omega) (by omega)
                have ag_697 := ag_647.st eg_693 (by omega) (by omega)
                try simp only [Int32.reduceToInt] at lk_696
                refine v_aload_n hC dX12_readLoss_165 rfl ?_
                refine v_get hC fl_X12_34 m_1 hf_694 rfl dX12_readLoss_166 ?_
                refine v_iload_n hC dX12_readLoss_169 rfl ?_
                refine v_iconst hC dX12_readLoss_170 (v := 2) (by decide) ?_
                obtain ⟨v_698, h_699⟩ : ∃ v9 : Int32, v_49 + 2 = v9 := ⟨_, rfl⟩
                refine v_iadd hC dX12_readLoss_171 h_699 ?_
                have h_700 := add_v h_699 (by first | omega | (simp only [Int32.lt_iff_toInt_lt, Int32.le_iff_toInt_le, Int32.reduceToInt, ← Int32.toInt_inj, true_and, and_true, or_true, true_or, false_or, or_false, false_and, and_false, not_true_eq_false, not_false_eq_true] <;> omega)) (by first | omega | (simp only [Int32.lt_iff_toInt_lt, Int32.le_iff_toInt_le, Int32.reduceToInt, ← Int32.toInt_inj, true_and, and_true, or_true, true_or, false_or, or_false, false_and, and_false, not_true_eq_false, not_false_eq_true] <;> omega))
                try simp only [Int32.reduceToInt] at h_700
                refine v_aload_n hC dX12_readLoss_172 rfl ?_
                refine v_ldcwS hC sr_X12_295 dX12_readLoss_173 ?_
                refine v_aload_n hC dX12_readLoss_176 rfl ?_
                refine v_get hC fl_X12_34 m_1 hf_694 rfl dX12_readLoss_177 ?_
                refine v_iload_n hC dX12_readLoss_180 rfl ?_
                refine v_iconst hC dX12_readLoss_181 (v := 1) (by decide) ?_
                obtain ⟨v_701, h_702⟩ : ∃ v9 : Int32, v_49 + 1 = v9 := ⟨_, rfl⟩
                refine v_iadd hC dX12_readLoss_182 h_702 ?_
                have h_703 := add_v h_702 (by first | omega | (simp only [Int32.lt_iff_toInt_lt, Int32.le_iff_toInt_le, Int32.reduceToInt, ← Int32.toInt_inj, true_and, and_true, or_true, true_or, false_or, or_false, false_and, and_false, not_true_eq_false, not_false_eq_true] <;> omega)) (by first | omega | (simp only [Int32.lt_iff_toInt_lt, Int32.le_iff_toInt_le, Int32.reduceToInt, ← Int32.toInt_inj, true_and, and_true, or_true, true_or, false_or, or_false, false_and, and_false, not_true_eq_false, not_false_eq_true] <;> omega))
                try simp only [Int32.reduceToInt] at h_703
                obtain ⟨v_704, h_705⟩ : ∃ v9 : Int32, g_690 (v_701 : Int32).toNatClampNeg = v9 := ⟨_, rfl⟩
                refine v_iald hC m_22 hf_688 (vp_in_iff.mpr (by first | omega | (simp only [Int32.lt_iff_toInt_lt, Int32.le_iff_toInt_le, Int32.reduceToInt, ← Int32.toInt_inj, true_and, and_true, or_true, true_or, false_or, or_false, false_and, and_false, not_true_eq_false, not_false_eq_true] <;> omega))) h_705 dX12_readLoss_183 ?_
                refine v_bipush hC dX12_readLoss_184 (v := 15) (by decide) ?_
                refine v_vi hC (rest := [.int v_698, .ref (q 14)]) m_1 hf_694 rfl mi_X12_told ms_X12_told (p_X12_told hW_691 k_0 (by decide)) mx_X12_told ml_X12_189 (by decide) rfl (cells1 := 0) (slots1 := 0) (by decide) (by decide) (Nat.le_of_ble_eq_true rfl) (Nat.le_of_ble_eq_true rfl) rfl (Nat.le_of_ble_eq_true rfl) dX12_readLoss_186 (fun r_706 L_707 f_708 h_709 => ?_)
                obtain ⟨rfl, hW_713, hF_714, x_710, x_711, x_712, -, -⟩ := h_709
                have fe_715 : fld (f_687 a_0) 8 = (v_670 : Int32).toInt := by rw [hf_694]; rfl
                have fe_716 : fld (f_687 a_0) 12 = (v_677 : Int32).toInt := by rw [hf_694]; rfl
                have hf_717 := hF_714.at hf_688 rfl
                obtain ⟨v_719, v_720, v_722, v_724, v_726, v_728, v_730, v_731, v_732, v_733, v_735, e_718, b_721, b_723, b_725, b_727, b_729, b_734, b_736⟩ := hW_713.at m_1 t_2
                have fe_737 : fld (f_708 a_0) 8 = (v_724 : Int32).toInt := by rw [e_718]; rfl
                have fe_738 : fld (f_708 a_0) 9 = (v_726 : Int32).toInt := by rw [e_718]; rfl
                have fe_739 : fld (f_708 a_0) 10 = (v_728 : Int32).toInt := by rw [e_718]; rfl
                have fe_740 : fld (f_708 a_0) 12 = (v_731 : Int32).toInt := by rw [e_718]; rfl
                rw [fe_740, fe_716] at x_710
                rw [fe_740, fe_715, fe_738, fe_737] at x_711
                rw [fe_740, fe_739, fe_738, fe_737] at x_712
                clear fe_715 fe_716 fe_737 fe_738 fe_739 fe_740
                try simp only [Int32.reduceToInt, Int64.reduceToInt] at x_710
                try simp only [Int32.reduceToInt, Int64.reduceToInt] at x_711
                try simp only [Int32.reduceToInt, Int64.reduceToInt] at x_712
                refine v_iast hC m_22 hf_717 (vp_in_iff.mpr (by first | omega | (simp only [Int32.lt_iff_toInt_lt, Int32.le_iff_toInt_le, Int32.reduceToInt, ← Int32.toInt_inj, true_and, and_true, or_true, true_or, false_or, or_false, false_and, and_false, not_true_eq_false, not_false_eq_true] <;> omega))) dX12_readLoss_189 (fun f_741 hf_742 hk_743 => ?_)
                have hW_745 := hW_713.up hf_742 hk_743 t_23 ⟨_, rfl, (ok_692.up (by first | omega | (simp only [Int32.lt_iff_toInt_lt, Int32.le_iff_toInt_le, Int32.reduceToInt, ← Int32.toInt_inj, true_and, and_true, or_true, true_or, false_or, or_false, false_and, and_false, not_true_eq_false, not_false_eq_true] <;> omega)) (fun q1 q2 => (by first | omega | (simp only [Int32.lt_iff_toInt_lt, Int32.le_iff_toInt_le, Int32.reduceToInt, ← Int32.toInt_inj] at *; omega))) (fun k9 q1 q2 q3 => (by first | omega | (simp only [Int32.lt_iff_toInt_lt, Int32.le_iff_toInt_le, Int32.reduceToInt, ← Int32.toInt_inj] at *; omega))))⟩
                obtain ⟨g_744, hf_742, ok_746, eg_747⟩ : ∃ g9, f_741 (q 14) = aI E 2076 g9 ∧ FOK g9 ∧ g9 = upd g_690 (v_698 : Int32).toNatClampNeg r_706 := ⟨_, hf_742, (ok_692.up (by first | omega | (simp only [Int32.lt_iff_toInt_lt, Int32.le_iff_toInt_le, Int32.reduceToInt, ← Int32.toInt_inj, true_and, and_true, or_true, true_or, false_or, or_false, false_and, and_false, not_true_eq_false, not_false_eq_true] <;> omega)) (fun q1 q2 => (by first | omega | (simp only [Int32.lt_iff_toInt_lt, Int32.le_iff_toInt_le, Int32.reduceToInt, ← Int32.toInt_inj] at *; omega))) (fun k9 q1 q2 q3 => (by first | omega | (simp only [Int32.lt_iff_toInt_lt, Int32.le_iff_toInt_le, Int32.reduceToInt, ← Int32.toInt_inj] at *; omega)))), rfl⟩
                have hf_748 := (hk_743 a_0 (ne_kd e_718 hf_717 rfl)).trans e_718
                have fr_749 := FR.w hk_743 hf_717 (k := 2176) rfl
                have lk_750 := l2_at (g0 := g_f) eg_747 (by omega) (by omega)
                have ag_751 := ag_697.st eg_747 (by omega) (by omega)
                try simp only [Int32.reduceToInt] at lk_750
                refine v_goto hC dX12_readLoss_190 (tgt := 258) (by decide) ?_
                refine v_aload_n hC dX12_readLoss_258 rfl ?_
                refine v_vv hC (rest := []) m_1 hf_748 rfl mi_X12_ends ms_X12_ends (p_X12_ends hW_745 k_0) mx_X12_ends ml_X12_178 (by decide) rfl (cells1 := 0) (slots1 := 0) (by decide) (by decide) (Nat.le_of_ble_eq_true rfl) (Nat.le_of_ble_eq_true rfl) rfl (Nat.le_of_ble_eq_true rfl) dX12_readLoss_259 (fun L_753 f_754 h_755 => ?_)
                obtain ⟨rfl, hW_758, hF_759, x_756, x_757, -, -⟩ := h_755
                have fe_760 : fld (f_741 a_0) 8 = (v_724 : Int32).toInt := by rw [hf_748]; rfl
                have fe_761 : fld (f_741 a_0) 10 = (v_728 : Int32).toInt := by rw [hf_748]; rfl
                have fe_762 : fld (f_741 a_0) 12 = (v_731 : Int32).toInt := by rw [hf_748]; rfl
                have hf_763 := hF_759.at hf_742 rfl
                obtain ⟨v_765, v_766, v_768, v_770, v_772, v_774, v_776, v_777, v_778, v_779, v_781, e_764, b_767, b_769, b_771, b_773, b_775, b_780, b_782⟩ := hW_758.at m_1 t_2
                have fe_783 : fld (f_754 a_0) 8 = (v_770 : Int32).toInt := by rw [e_764]; rfl
                have fe_784 : fld (f_754 a_0) 9 = (v_772 : Int32).toInt := by rw [e_764]; rfl
                have fe_785 : fld (f_754 a_0) 12 = (v_777 : Int32).toInt := by rw [e_764]; rfl
                rw [fe_785, fe_762] at x_756
                rw [fe_785, fe_761, fe_760, fe_784, fe_783] at x_757
                clear fe_760 fe_761 fe_762 fe_783 fe_784 fe_785
                refine v_aload_n hC dX12_readLoss_262 rfl ?_
                refine v_get hC fl_X12_34 m_1 e_764 rfl dX12_readLoss_263 ?_
                refine v_bipush hC dX12_readLoss_266 (v := 6) (by decide) ?_
                refine v_dup2 hC dX12_readLoss_268 rfl rfl ?_
                have l6_786 : (g_744 6).toInt = (g_f 6).toInt := congrArg Int32.toInt ag_751.2.1
                refine v_iald hC m_22 hf_763 (vp_in_iff.mpr (by decide)) (v := g_744 6) rfl dX12_readLoss_269 ?_
                refine v_iconst hC dX12_readLoss_270 (v := 1) (by decide) ?_
                obtain ⟨v_787, h_788⟩ : ∃ v9 : Int32, (g_744 6) + 1 = v9 := ⟨_, rfl⟩
                refine v_iadd hC dX12_readLoss_271 h_788 ?_
                have h_789 := add_v h_788 (by first | omega | (simp only [Int32.lt_iff_toInt_lt, Int32.le_iff_toInt_le, Int32.reduceToInt, ← Int32.toInt_inj, true_and, and_true, or_true, true_or, false_or, or_false, false_and, and_false, not_true_eq_false, not_false_eq_true] <;> omega)) (by first | omega | (simp only [Int32.lt_iff_toInt_lt, Int32.le_iff_toInt_le, Int32.reduceToInt, ← Int32.toInt_inj, true_and, and_true, or_true, true_or, false_or, or_false, false_and, and_false, not_true_eq_false, not_false_eq_true] <;> omega))
                try simp only [Int32.reduceToInt] at h_789
                refine v_iast hC m_22 hf_763 (vp_in_iff.mpr (by decide)) dX12_readLoss_272 (fun f_790 hf_791 hk_792 => ?_)
                have hW_794 := hW_758.up hf_791 hk_792 t_23 ⟨_, rfl, (ok_746.up (i := 6) (by decide) (fun q1 q2 => absurd (And.intro q1 q2) (by decide)) (fun k9 q1 q2 q3 => by simp only [Int32.reduceToInt] at q3; omega))⟩
                obtain ⟨g_793, hf_791, ok_795, eg_796⟩ : ∃ g9, f_790 (q 14) = aI E 2076 g9 ∧ FOK g9 ∧ g9 = upd g_744 (6 : Int32).toNatClampNeg v_787 := ⟨_, hf_791, (ok_746.up (i := 6) (by decide) (fun q1 q2 => absurd (And.intro q1 q2) (by decide)) (fun k9 q1 q2 q3 => by simp only [Int32.reduceToInt] at q3; omega)), rfl⟩
                have hf_797 := (hk_792 a_0 (ne_kd e_764 hf_763 rfl)).trans e_764
                have fr_798 := FR.w hk_792 hf_763 (k := 2176) rfl
                have ln6_799 := FOK.n6 ag_751.1 eg_796
                have ln6_799_t : (g_793 6).toInt = v_787.toInt := congrArg Int32.toInt ln6_799.2
                have fe_800 : fld (f_790 a_0) 12 = (v_777 : Int32).toInt := by rw [hf_797]; rfl
                have fe_801 : fld (f_790 a_0) 8 = (v_770 : Int32).toInt := by rw [hf_797]; rfl
                have fe_802 : fld (f_790 a_0) 12 = (v_777 : Int32).toInt := by rw [hf_797]; rfl
                have fe_803 : fld (f_790 a_0) 20 = (v_781 : Int32).toInt := by rw [hf_797]; rfl
                exact hR _ _ _ _ _ _ dX12_readLoss_273 (Nat.le_of_ble_eq_true rfl) (Nat.le_of_ble_eq_true rfl) ⟨rfl, hW_794, (((((((((hF_95.tr hF_610).tr fr_645).tr hF_659).tr fr_695).tr hF_714).tr fr_749).tr hF_759).tr fr_798).mono rfl), ⟨_, hf_791, ln6_799.1, (by omega), (by rw [fe_800]; by_cases q9 : v_777.toInt = 0; exact .inr (LO.fin hLO ag_751 eg_796 (by omega) (by omega) (fun q8 => by omega)); exact .inl q9)⟩, (by simp only [fe_801, fe_802, mz_43, mz_44, true_and, and_true, or_true, true_or, false_or, or_false, false_and, and_false, not_true_eq_false, not_false_eq_true] <;> first | omega | (simp only [Int32.lt_iff_toInt_lt, Int32.le_iff_toInt_le, Int32.reduceToInt, ← Int32.toInt_inj, true_and, and_true, or_true, true_or, false_or, or_false, false_and, and_false, not_true_eq_false, not_false_eq_true] <;> omega)), (by simp only [fe_803, mz_45, true_and, and_true, or_true, true_or, false_or, or_false, false_and, and_false, not_true_eq_false, not_false_eq_true] <;> first | omega | (simp only [Int32.lt_iff_toInt_lt, Int32.le_iff_toInt_le, Int32.reduceToInt, ← Int32.toInt_inj, true_and, and_true, or_true, true_or, false_or, or_false, false_and, and_false, not_true_eq_false, not_false_eq_true] <;> omega))⟩
            · simp only [Int32.lt_iff_toInt_lt, Int32.le_iff_toInt_le, Int32.reduceToInt, ← Int32.toInt_inj] at h_424
              refine v_aload_n hC dX12_readLoss_110 rfl ?_
              refine v_ldcS hC sr_X12_193 dX12_readLoss_111 ?_
              refine v_vi hC (rest := []) m_1 e_99 rfl mi_X12_is ms_X12_is (p_X12_is hW_94 k_0 (by decide)) mx_X12_is ml_X12_152 (by decide) rfl (cells1 := 0) (slots1 := 0) (by decide) (by decide) (Nat.le_of_ble_eq_true rfl) (Nat.le_of_ble_eq_true rfl) rfl (Nat.le_of_ble_eq_true rfl) dX12_readLoss_113 (fun r_804 L_805 f_806 h_807 => ?_)
              obtain ⟨rfl, rfl, rfl⟩ := h_807
              refine v_if_ne hC dX12_readLoss_116 (tgt := 124) (by decide) (fun h_810 => ?_) (fun h_810 => ?_)
              · simp only [Int32.lt_iff_toInt_lt, Int32.le_iff_toInt_le, Int32.reduceToInt, ← Int32.toInt_inj] at h_810
                refine v_aload_n hC dX12_readLoss_124 rfl ?_
                refine v_vi hC (rest := []) m_1 e_99 rfl mi_X12_good ms_X12_good (p_X12_good hW_94 k_0) mx_X12_good ml_X12_139 (by decide) rfl (cells1 := 0) (slots1 := 0) (by decide) (by decide) (Nat.le_of_ble_eq_true rfl) (Nat.le_of_ble_eq_true rfl) rfl (Nat.le_of_ble_eq_true rfl) dX12_readLoss_125 (fun r_811 L_812 f_813 h_814 => ?_)
                obtain ⟨rfl, rfl, b_815, x_816⟩ := h_814
                have fe_819 : fld (f_90 a_0) 12 = (v_112 : Int32).toInt := by rw [e_99]; rfl
                rw [fe_819] at x_816
                clear fe_819
                try simp only [Int32.reduceToInt, Int64.reduceToInt] at x_816
                refine v_if_eq hC dX12_readLoss_128 (tgt := 135) (by decide) (fun h_820 => ?_) (fun h_820 => ?_)
                · simp only [Int32.lt_iff_toInt_lt, Int32.le_iff_toInt_le, Int32.reduceToInt, ← Int32.toInt_inj] at h_820
                  refine v_aload_n hC dX12_readLoss_135 rfl ?_
                  refine v_get hC fl_X12_34 m_1 e_99 rfl dX12_readLoss_136 ?_
                  refine v_iload_n hC dX12_readLoss_139 rfl ?_
                  refine v_iload_n hC dX12_readLoss_140 rfl ?_
                  refine v_if_eq_t hC dX12_readLoss_141 (tgt := 148) (by decide) (by first | omega | (simp only [Int32.lt_iff_toInt_lt, Int32.le_iff_toInt_le, Int32.reduceToInt, ← Int32.toInt_inj, true_and, and_true, or_true, true_or, false_or, or_false, false_and, and_false, not_true_eq_false, not_false_eq_true] <;> omega)) ?_
                  refine v_iconst hC dX12_readLoss_148 (v := 0) (by decide) ?_
                  refine v_iast hC m_22 hf_98 (vp_in_iff.mpr (by first | omega | (simp only [Int32.lt_iff_toInt_lt, Int32.le_iff_toInt_le, Int32.reduceToInt, ← Int32.toInt_inj, true_and, and_true, or_true, true_or, false_or, or_false, false_and, and_false, not_true_eq_false, not_false_eq_true] <;> omega))) dX12_readLoss_149 (fun f_821 hf_822 hk_823 => ?_)
                  have hW_825 := hW_94.up hf_822 hk_823 t_23 ⟨_, rfl, (o_f.up (by first | omega | (simp only [Int32.lt_iff_toInt_lt, Int32.le_iff_toInt_le, Int32.reduceToInt, ← Int32.toInt_inj, true_and, and_true, or_true, true_or, false_or, or_false, false_and, and_false, not_true_eq_false, not_false_eq_true] <;> omega)) (fun q1 q2 => (by first | omega | (simp only [Int32.lt_iff_toInt_lt, Int32.le_iff_toInt_le, Int32.reduceToInt, ← Int32.toInt_inj] at *; omega))) (fun k9 q1 q2 q3 => (by first | omega | (simp only [Int32.lt_iff_toInt_lt, Int32.le_iff_toInt_le, Int32.reduceToInt, ← Int32.toInt_inj] at *; omega))))⟩
                  obtain ⟨g_824, hf_822, ok_826, eg_827⟩ : ∃ g9, f_821 (q 14) = aI E 2076 g9 ∧ FOK g9 ∧ g9 = upd g_f (v_49 : Int32).toNatClampNeg 0 := ⟨_, hf_822, (o_f.up (by first | omega | (simp only [Int32.lt_iff_toInt_lt, Int32.le_iff_toInt_le, Int32.reduceToInt, ← Int32.toInt_inj, true_and, and_true, or_true, true_or, false_or, or_false, false_and, and_false, not_true_eq_false, not_false_eq_true] <;> omega)) (fun q1 q2 => (by first | omega | (simp only [Int32.lt_iff_toInt_lt, Int32.le_iff_toInt_le, Int32.reduceToInt, ← Int32.toInt_inj] at *; omega))) (fun k9 q1 q2 q3 => (by first | omega | (simp only [Int32.lt_iff_toInt_lt, Int32.le_iff_toInt_le, Int32.reduceToInt, ← Int32.toInt_inj] at *; omega)))), rfl⟩
                  have hf_828 := (hk_823 a_0 (ne_kd e_99 hf_98 rfl)).trans e_99
                  have fr_829 := FR.w hk_823 hf_98 (k := 2176) rfl
                  have lk_830 := lk_at (g0 := g_f) eg_827 (by omega) (by omega)
                  have ag_831 := (AG.rf o_f).st eg_827 (by omega) (by omega)
                  try simp only [Int32.reduceToInt] at lk_830
                  refine v_aload_n hC dX12_readLoss_150 rfl ?_
                  refine v_get hC fl_X12_34 m_1 hf_828 rfl dX12_readLoss_151 ?_
                  refine v_iload_n hC dX12_readLoss_154 rfl ?_
                  refine v_iconst hC dX12_readLoss_155 (v := 1) (by decide) ?_
                  obtain ⟨v_832, h_833⟩ : ∃ v9 : Int32, v_49 + 1 = v9 := ⟨_, rfl⟩
                  refine v_iadd hC dX12_readLoss_156 h_833 ?_
                  have h_834 := add_v h_833 (by first | omega | (simp only [Int32.lt_iff_toInt_lt, Int32.le_iff_toInt_le, Int32.reduceToInt, ← Int32.toInt_inj, true_and, and_true, or_true, true_or, false_or, or_false, false_and, and_false, not_true_eq_false, not_false_eq_true] <;> omega)) (by first | omega | (simp only [Int32.lt_iff_toInt_lt, Int32.le_iff_toInt_le, Int32.reduceToInt, ← Int32.toInt_inj, true_and, and_true, or_true, true_or, false_or, or_false, false_and, and_false, not_true_eq_false, not_false_eq_true] <;> omega))
                  try simp only [Int32.reduceToInt] at h_834
                  refine v_aload_n hC dX12_readLoss_157 rfl ?_
                  refine v_iconst hC dX12_readLoss_158 (v := 0) (by decide) ?_
                  refine v_bipush hC dX12_readLoss_159 (v := 15) (by decide) ?_
                  refine v_vi hC (rest := [.int v_832, .ref (q 14)]) m_1 hf_828 rfl mi_X12_number ms_X12_number (p_X12_number hW_825 k_0) mx_X12_number ml_X12_170 (by decide) rfl (cells1 := 0) (slots1 := 0) (by decide) (by decide) (Nat.le_of_ble_eq_true rfl) (Nat.le_of_ble_eq_true rfl) rfl (Nat.le_of_ble_eq_true rfl) dX12_readLoss_161 (fun r_835 L_836 f_837 h_838 => ?_)
                  obtain ⟨rfl, hW_842, hF_843, x_839, x_840, x_841, -, -⟩ := h_838
                  have fe_844 : fld (f_821 a_0) 8 = (v_105 : Int32).toInt := by rw [hf_828]; rfl
                  have fe_845 : fld (f_821 a_0) 10 = (v_109 : Int32).toInt := by rw [hf_828]; rfl
                  have fe_846 : fld (f_821 a_0) 12 = (v_112 : Int32).toInt := by rw [hf_828]; rfl
                  have hf_847 := hF_843.at hf_822 rfl
                  obtain ⟨v_849, v_850, v_852, v_854, v_856, v_858, v_860, v_861, v_862, v_863, v_865, e_848, b_851, b_853, b_855, b_857, b_859, b_864, b_866⟩ := hW_842.at m_1 t_2
                  have fe_867 : fld (f_837 a_0) 8 = (v_854 : Int32).toInt := by rw [e_848]; rfl
                  have fe_868 : fld (f_837 a_0) 9 = (v_856 : Int32).toInt := by rw [e_848]; rfl
                  have fe_869 : fld (f_837 a_0) 10 = (v_858 : Int32).toInt := by rw [e_848]; rfl
                  have fe_870 : fld (f_837 a_0) 12 = (v_861 : Int32).toInt := by rw [e_848]; rfl
                  rw [fe_870, fe_846] at x_839
                  rw [fe_870, fe_845, fe_844, fe_868, fe_867] at x_840
                  rw [fe_870, fe_869, fe_868, fe_867] at x_841
                  clear fe_844 fe_845 fe_846 fe_867 fe_868 fe_869 fe_870
                  try simp only [Int32.reduceToInt, Int64.reduceToInt] at x_839
                  try simp only [Int32.reduceToInt, Int64.reduceToInt] at x_840
                  try simp only [Int32.reduceToInt, Int64.reduceToInt] at x_841
                  refine v_iast hC m_22 hf_847 (vp_in_iff.mpr (by first | omega | (simp only [Int32.lt_iff_toInt_lt, Int32.le_iff_toInt_le, Int32.reduceToInt, ← Int32.toInt_inj, true_and, and_true, or_true, true_or, false_or, or_false, false_and, and_false, not_true_eq_false, not_false_eq_true] <;> omega))) dX12_readLoss_164 (fun f_871 hf_872 hk_873 => ?_)
                  have hW_875 := hW_842.up hf_872 hk_873 t_23 ⟨_, rfl, (ok_826.up (by first | omega | (simp only [Int32.lt_iff_toInt_lt, Int32.le_iff_toInt_le, Int32.reduceToInt, ← Int32.toInt_inj, true_and, and_true, or_true, true_or, false_or, or_false, false_and, and_false, not_true_eq_false, not_false_eq_true] <;> omega)) (fun q1 q2 => (by first | omega | (simp only [Int32.lt_iff_toInt_lt, Int32.le_iff_toInt_le, Int32.reduceToInt, ← Int32.toInt_inj] at *; omega))) (fun k9 q1 q2 q3 => (by first | omega | (simp only [Int32.lt_iff_toInt_lt, Int32.le_iff_toInt_le, Int32.reduceToInt, ← Int32.toInt_inj] at *; omega))))⟩
                  obtain ⟨g_874, hf_872, ok_876, eg_877⟩ : ∃ g9, f_871 (q 14) = aI E 2076 g9 ∧ FOK g9 ∧ g9 = upd g_824 (v_832 : Int32).toNatClampNeg r_835 := ⟨_, hf_872, (ok_826.up (by first | omega | (simp only [Int32.lt_iff_toInt_lt, Int32.le_iff_toInt_le, Int32.reduceToInt, ← Int32.toInt_inj, true_and, and_true, or_true, true_or, false_or, or_false, false_and, and_false, not_true_eq_false, not_false_eq_true] <;> omega)) (fun q1 q2 => (by first | omega | (simp only [Int32.lt_iff_toInt_lt, Int32.le_iff_toInt_le, Int32.reduceToInt, ← Int32.toInt_inj] at *; omega))) (fun k9 q1 q2 q3 => (by first | omega | (simp only [Int32.lt_iff_toInt_lt, Int32.le_iff_toInt_le, Int32.reduceToInt, ← Int32.toInt_inj] at *; omega)))), rfl⟩
                  have hf_878 := (hk_873 a_0 (ne_kd e_848 hf_847 rfl)).trans e_848
                  have fr_879 := FR.w hk_873 hf_847 (k := 2176) rfl
                  have lk_880 := lf_at (g0 := g_f) eg_877 (by omega) (by omega)
                  have ag_881 := ag_831.st eg_877 (by omega) (by omega)
                  try simp only [Int32.reduceToInt] at lk_880
                  refine v_aload_n hC dX12_readLoss_165 rfl ?_
                  refine v_get hC fl_X12_34 m_1 hf_878 rfl dX12_readLoss_166 ?_
                  refine v_iload_n hC dX12_readLoss_169 rfl ?_
                  refine v_iconst hC dX12_readLoss_170 (v := 2) (by decide) ?_
                  obtain ⟨v_882, h_883⟩ : ∃ v9 : Int32, v_49 + 2 = v9 := ⟨_, rfl⟩
                  refine v_iadd hC dX12_readLoss_171 h_883 ?_
                  have h_884 := add_v h_883 (by first | omega | (simp only [Int32.lt_iff_toInt_lt, Int32.le_iff_toInt_le, Int32.reduceToInt, ← Int32.toInt_inj, true_and, and_true, or_true, true_or, false_or, or_false, false_and, and_false, not_true_eq_false, not_false_eq_true] <;> omega)) (by first | omega | (simp only [Int32.lt_iff_toInt_lt, Int32.le_iff_toInt_le, Int32.reduceToInt, ← Int32.toInt_inj, true_and, and_true, or_true, true_or, false_or, or_false, false_and, and_false, not_true_eq_false, not_false_eq_true] <;> omega))
                  try simp only [Int32.reduceToInt] at h_884
                  refine v_aload_n hC dX12_readLoss_172 rfl ?_
                  refine v_ldcwS hC sr_X12_295 dX12_readLoss_173 ?_
                  refine v_aload_n hC dX12_readLoss_176 rfl ?_
                  refine v_get hC fl_X12_34 m_1 hf_878 rfl dX12_readLoss_177 ?_
                  refine v_iload_n hC dX12_readLoss_180 rfl ?_
                  refine v_iconst hC dX12_readLoss_181 (v := 1) (by decide) ?_
                  obtain ⟨v_885, h_886⟩ : ∃ v9 : Int32, v_49 + 1 = v9 := ⟨_, rfl⟩
                  refine v_iadd hC dX12_readLoss_182 h_886 ?_
                  have h_887 := add_v h_886 (by first | omega | (simp only [Int32.lt_iff_toInt_lt, Int32.le_iff_toInt_le, Int32.reduceToInt, ← Int32.toInt_inj, true_and, and_true, or_true, true_or, false_or, or_false, false_and, and_false, not_true_eq_false, not_false_eq_true] <;> omega)) (by first | omega | (simp only [Int32.lt_iff_toInt_lt, Int32.le_iff_toInt_le, Int32.reduceToInt, ← Int32.toInt_inj, true_and, and_true, or_true, true_or, false_or, or_false, false_and, and_false, not_true_eq_false, not_false_eq_true] <;> omega))
                  try simp only [Int32.reduceToInt] at h_887
                  obtain ⟨v_888, h_889⟩ : ∃ v9 : Int32, g_874 (v_885 : Int32).toNatClampNeg = v9 := ⟨_, rfl⟩
                  refine v_iald hC m_22 hf_872 (vp_in_iff.mpr (by first | omega | (simp only [Int32.lt_iff_toInt_lt, Int32.le_iff_toInt_le, Int32.reduceToInt, ← Int32.toInt_inj, true_and, and_true, or_true, true_or, false_or, or_false, false_and, and_false, not_true_eq_false, not_false_eq_true] <;> omega))) h_889 dX12_readLoss_183 ?_
                  refine v_bipush hC dX12_readLoss_184 (v := 15) (by decide) ?_
                  refine v_vi hC (rest := [.int v_882, .ref (q 14)]) m_1 hf_878 rfl mi_X12_told ms_X12_told (p_X12_told hW_875 k_0 (by decide)) mx_X12_told ml_X12_189 (by decide) rfl (cells1 := 0) (slots1 := 0) (by decide) (by decide) (Nat.le_of_ble_eq_true rfl) (Nat.le_of_ble_eq_true rfl) rfl (Nat.le_of_ble_eq_true rfl) dX12_readLoss_186 (fun r_890 L_891 f_892 h_893 => ?_)
                  obtain ⟨rfl, hW_897, hF_898, x_894, x_895, x_896, -, -⟩ := h_893
                  have fe_899 : fld (f_871 a_0) 8 = (v_854 : Int32).toInt := by rw [hf_878]; rfl
                  have fe_900 : fld (f_871 a_0) 12 = (v_861 : Int32).toInt := by rw [hf_878]; rfl
                  have hf_901 := hF_898.at hf_872 rfl
                  obtain ⟨v_903, v_904, v_906, v_908, v_910, v_912, v_914, v_915, v_916, v_917, v_919, e_902, b_905, b_907, b_909, b_911, b_913, b_918, b_920⟩ := hW_897.at m_1 t_2
                  have fe_921 : fld (f_892 a_0) 8 = (v_908 : Int32).toInt := by rw [e_902]; rfl
                  have fe_922 : fld (f_892 a_0) 9 = (v_910 : Int32).toInt := by rw [e_902]; rfl
                  have fe_923 : fld (f_892 a_0) 10 = (v_912 : Int32).toInt := by rw [e_902]; rfl
                  have fe_924 : fld (f_892 a_0) 12 = (v_915 : Int32).toInt := by rw [e_902]; rfl
                  rw [fe_924, fe_900] at x_894
                  rw [fe_924, fe_899, fe_922, fe_921] at x_895
                  rw [fe_924, fe_923, fe_922, fe_921] at x_896
                  clear fe_899 fe_900 fe_921 fe_922 fe_923 fe_924
                  try simp only [Int32.reduceToInt, Int64.reduceToInt] at x_894
                  try simp only [Int32.reduceToInt, Int64.reduceToInt] at x_895
                  try simp only [Int32.reduceToInt, Int64.reduceToInt] at x_896
                  refine v_iast hC m_22 hf_901 (vp_in_iff.mpr (by first | omega | (simp only [Int32.lt_iff_toInt_lt, Int32.le_iff_toInt_le, Int32.reduceToInt, ← Int32.toInt_inj, true_and, and_true, or_true, true_or, false_or, or_false, false_and, and_false, not_true_eq_false, not_false_eq_true] <;> omega))) dX12_readLoss_189 (fun f_925 hf_926 hk_927 => ?_)
                  have hW_929 := hW_897.up hf_926 hk_927 t_23 ⟨_, rfl, (ok_876.up (by first | omega | (simp only [Int32.lt_iff_toInt_lt, Int32.le_iff_toInt_le, Int32.reduceToInt, ← Int32.toInt_inj, true_and, and_true, or_true, true_or, false_or, or_false, false_and, and_false, not_true_eq_false, not_false_eq_true] <;> omega)) (fun q1 q2 => (by first | omega | (simp only [Int32.lt_iff_toInt_lt, Int32.le_iff_toInt_le, Int32.reduceToInt, ← Int32.toInt_inj] at *; omega))) (fun k9 q1 q2 q3 => (by first | omega | (simp only [Int32.lt_iff_toInt_lt, Int32.le_iff_toInt_le, Int32.reduceToInt, ← Int32.toInt_inj] at *; omega))))⟩
                  obtain ⟨g_928, hf_926, ok_930, eg_931⟩ : ∃ g9, f_925 (q 14) = aI E 2076 g9 ∧ FOK g9 ∧ g9 = upd g_874 (v_882 : Int32).toNatClampNeg r_890 := ⟨_, hf_926, (ok_876.up (by first | omega | (simp only [Int32.lt_iff_toInt_lt, Int32.le_iff_toInt_le, Int32.reduceToInt, ← Int32.toInt_inj, true_and, and_true, or_true, true_or, false_or, or_false, false_and, and_false, not_true_eq_false, not_false_eq_true] <;> omega)) (fun q1 q2 => (by first | omega | (simp only [Int32.lt_iff_toInt_lt, Int32.le_iff_toInt_le, Int32.reduceToInt, ← Int32.toInt_inj] at *; omega))) (fun k9 q1 q2 q3 => (by first | omega | (simp only [Int32.lt_iff_toInt_lt, Int32.le_iff_toInt_le, Int32.reduceToInt, ← Int32.toInt_inj] at *; omega)))), rfl⟩
                  have hf_932 := (hk_927 a_0 (ne_kd e_902 hf_901 rfl)).trans e_902
                  have fr_933 := FR.w hk_927 hf_901 (k := 2176) rfl
                  have lk_934 := l2_at (g0 := g_f) eg_931 (by omega) (by omega)
                  have ag_935 := ag_881.st eg_931 (by omega) (by omega)
                  try simp only [Int32.reduceToInt] at lk_934
                  refine v_goto hC dX12_readLoss_190 (tgt := 258) (by decide) ?_
                  refine v_aload_n hC dX12_readLoss_258 rfl ?_
                  refine v_vv hC (rest := []) m_1 hf_932 rfl mi_X12_ends ms_X12_ends (p_X12_ends hW_929 k_0) mx_X12_ends ml_X12_178 (by decide) rfl (cells1 := 0) (slots1 := 0) (by decide) (by decide) (Nat.le_of_ble_eq_true rfl) (Nat.le_of_ble_eq_true rfl) rfl (Nat.le_of_ble_eq_true rfl) dX12_readLoss_259 (fun L_937 f_938 h_939 => ?_)
                  obtain ⟨rfl, hW_942, hF_943, x_940, x_941, -, -⟩ := h_939
                  have fe_944 : fld (f_925 a_0) 8 = (v_908 : Int32).toInt := by rw [hf_932]; rfl
                  have fe_945 : fld (f_925 a_0) 10 = (v_912 : Int32).toInt := by rw [hf_932]; rfl
                  have fe_946 : fld (f_925 a_0) 12 = (v_915 : Int32).toInt := by rw [hf_932]; rfl
                  have hf_947 := hF_943.at hf_926 rfl
                  obtain ⟨v_949, v_950, v_952, v_954, v_956, v_958, v_960, v_961, v_962, v_963, v_965, e_948, b_951, b_953, b_955, b_957, b_959, b_964, b_966⟩ := hW_942.at m_1 t_2
                  have fe_967 : fld (f_938 a_0) 8 = (v_954 : Int32).toInt := by rw [e_948]; rfl
                  have fe_968 : fld (f_938 a_0) 9 = (v_956 : Int32).toInt := by rw [e_948]; rfl
                  have fe_969 : fld (f_938 a_0) 12 = (v_961 : Int32).toInt := by rw [e_948]; rfl
                  rw [fe_969, fe_946] at x_940
                  rw [fe_969, fe_945, fe_944, fe_968, fe_967] at x_941
                  clear fe_944 fe_945 fe_946 fe_967 fe_968 fe_969
                  refine v_aload_n hC dX12_readLoss_262 rfl ?_
                  refine v_get hC fl_X12_34 m_1 e_948 rfl dX12_readLoss_263 ?_
                  refine v_bipush hC dX12_readLoss_266 (v := 6) (by decide) ?_
                  refine v_dup2 hC dX12_readLoss_268 rfl rfl ?_
                  have l6_970 : (g_928 6).toInt = (g_f 6).toInt := congrArg Int32.toInt ag_935.2.1
                  refine v_iald hC m_22 hf_947 (vp_in_iff.mpr (by decide)) (v := g_928 6) rfl dX12_readLoss_269 ?_
                  refine v_iconst hC dX12_readLoss_270 (v := 1) (by decide) ?_
                  obtain ⟨v_971, h_972⟩ : ∃ v9 : Int32, (g_928 6) + 1 = v9 := ⟨_, rfl⟩
                  refine v_iadd hC dX12_readLoss_271 h_972 ?_
                  have h_973 := add_v h_972 (by first | omega | (simp only [Int32.lt_iff_toInt_lt, Int32.le_iff_toInt_le, Int32.reduceToInt, ← Int32.toInt_inj, true_and, and_true, or_true, true_or, false_or, or_false, false_and, and_false, not_true_eq_false, not_false_eq_true] <;> omega)) (by first | omega | (simp only [Int32.lt_iff_toInt_lt, Int32.le_iff_toInt_le, Int32.reduceToInt, ← Int32.toInt_inj, true_and, and_true, or_true, true_or, false_or, or_false, false_and, and_false, not_true_eq_false, not_false_eq_true] <;> omega))
                  try simp only [Int32.reduceToInt] at h_973
                  refine v_iast hC m_22 hf_947 (vp_in_iff.mpr (by decide)) dX12_readLoss_272 (fun f_974 hf_975 hk_976 => ?_)
                  have hW_978 := hW_942.up hf_975 hk_976 t_23 ⟨_, rfl, (ok_930.up (i := 6) (by decide) (fun q1 q2 => absurd (And.intro q1 q2) (by decide)) (fun k9 q1 q2 q3 => by simp only [Int32.reduceToInt] at q3; omega))⟩
                  obtain ⟨g_977, hf_975, ok_979, eg_980⟩ : ∃ g9, f_974 (q 14) = aI E 2076 g9 ∧ FOK g9 ∧ g9 = upd g_928 (6 : Int32).toNatClampNeg v_971 := ⟨_, hf_975, (ok_930.up (i := 6) (by decide) (fun q1 q2 => absurd (And.intro q1 q2) (by decide)) (fun k9 q1 q2 q3 => by simp only [Int32.reduceToInt] at q3; omega)), rfl⟩
                  have hf_981 := (hk_976 a_0 (ne_kd e_948 hf_947 rfl)).trans e_948
                  have fr_982 := FR.w hk_976 hf_947 (k := 2176) rfl
                  have ln6_983 := FOK.n6 ag_935.1 eg_980
                  have ln6_983_t : (g_977 6).toInt = v_971.toInt := congrArg Int32.toInt ln6_983.2
                  have fe_984 : fld (f_974 a_0) 12 = (v_961 : Int32).toInt := by rw [hf_981]; rfl
                  have fe_985 : fld (f_974 a_0) 8 = (v_954 : Int32).toInt := by rw [hf_981]; rfl
                  have fe_986 : fld (f_974 a_0) 12 = (v_961 : Int32).toInt := by rw [hf_981]; rfl
                  have fe_987 : fld (f_974 a_0) 20 = (v_965 : Int32).toInt := by rw [hf_981]; rfl
                  exact hR _ _ _ _ _ _ dX12_readLoss_273 (Nat.le_of_ble_eq_true rfl) (Nat.le_of_ble_eq_true rfl) ⟨rfl, hW_978, ((((((((hF_95.tr fr_829).tr hF_843).tr fr_879).tr hF_898).tr fr_933).tr hF_943).tr fr_982).mono rfl), ⟨_, hf_975, ln6_983.1, (by omega), (by rw [fe_984]; by_cases q9 : v_961.toInt = 0; exact .inr (LO.fin hLO ag_935 eg_980 (by omega) (by omega) (fun q8 => by omega)); exact .inl q9)⟩, (by simp only [fe_985, fe_986, mz_43, mz_44, true_and, and_true, or_true, true_or, false_or, or_false, false_and, and_false, not_true_eq_false, not_false_eq_true] <;> first | omega | (simp only [Int32.lt_iff_toInt_lt, Int32.le_iff_toInt_le, Int32.reduceToInt, ← Int32.toInt_inj, true_and, and_true, or_true, true_or, false_or, or_false, false_and, and_false, not_true_eq_false, not_false_eq_true] <;> omega)), (by simp only [fe_987, mz_45, true_and, and_true, or_true, true_or, false_or, or_false, false_and, and_false, not_true_eq_false, not_false_eq_true] <;> first | omega | (simp only [Int32.lt_iff_toInt_lt, Int32.le_iff_toInt_le, Int32.reduceToInt, ← Int32.toInt_inj, true_and, and_true, or_true, true_or, false_or, or_false, false_and, and_false, not_true_eq_false, not_false_eq_true] <;> omega))⟩
                · simp only [Int32.lt_iff_toInt_lt, Int32.le_iff_toInt_le, Int32.reduceToInt, ← Int32.toInt_inj] at h_820
                  refine v_aload_n hC dX12_readLoss_131 rfl ?_
                  refine v_vv hC (rest := []) m_1 e_99 rfl mi_X12_advance ms_X12_advance (p_X12_advance hW_94 k_0) mx_X12_advance ml_X12_156 (by decide) rfl (cells1 := 0) (slots1 := 0) (by decide) (by decide) (Nat.le_of_ble_eq_true rfl) (Nat.le_of_ble_eq_true rfl) rfl (Nat.le_of_ble_eq_true rfl) dX12_readLoss_132 (fun L_989 f_990 h_991 => ?_)
                  obtain ⟨rfl, hW_995, hF_996, x_992, x_993, x_994, -⟩ := h_991
                  have fe_997 : fld (f_90 a_0) 8 = (v_105 : Int32).toInt := by rw [e_99]; rfl
                  have fe_998 : fld (f_90 a_0) 12 = (v_112 : Int32).toInt := by rw [e_99]; rfl
                  have hf_999 := hF_996.at hf_98 rfl
                  obtain ⟨v_1001, v_1002, v_1004, v_1006, v_1008, v_1010, v_1012, v_1013, v_1014, v_1015, v_1017, e_1000, b_1003, b_1005, b_1007, b_1009, b_1011, b_1016, b_1018⟩ := hW_995.at m_1 t_2
                  have fe_1019 : fld (f_990 a_0) 8 = (v_1006 : Int32).toInt := by rw [e_1000]; rfl
                  have fe_1020 : fld (f_990 a_0) 9 = (v_1008 : Int32).toInt := by rw [e_1000]; rfl
                  have fe_1021 : fld (f_990 a_0) 10 = (v_1010 : Int32).toInt := by rw [e_1000]; rfl
                  have fe_1022 : fld (f_990 a_0) 12 = (v_1013 : Int32).toInt := by rw [e_1000]; rfl
                  rw [fe_997, fe_1020, fe_1019] at x_992
                  rw [fe_1021, fe_1020, fe_1019] at x_993
                  rw [fe_1022, fe_998] at x_994
                  clear fe_997 fe_998 fe_1019 fe_1020 fe_1021 fe_1022
                  refine v_aload_n hC dX12_readLoss_135 rfl ?_
                  refine v_get hC fl_X12_34 m_1 e_1000 rfl dX12_readLoss_136 ?_
                  refine v_iload_n hC dX12_readLoss_139 rfl ?_
                  refine v_iload_n hC dX12_readLoss_140 rfl ?_
                  refine v_if_eq_t hC dX12_readLoss_141 (tgt := 148) (by decide) (by first | omega | (simp only [Int32.lt_iff_toInt_lt, Int32.le_iff_toInt_le, Int32.reduceToInt, ← Int32.toInt_inj, true_and, and_true, or_true, true_or, false_or, or_false, false_and, and_false, not_true_eq_false, not_false_eq_true] <;> omega)) ?_
                  refine v_iconst hC dX12_readLoss_148 (v := 0) (by decide) ?_
                  refine v_iast hC m_22 hf_999 (vp_in_iff.mpr (by first | omega | (simp only [Int32.lt_iff_toInt_lt, Int32.le_iff_toInt_le, Int32.reduceToInt, ← Int32.toInt_inj, true_and, and_true, or_true, true_or, false_or, or_false, false_and, and_false, not_true_eq_false, not_false_eq_true] <;> omega))) dX12_readLoss_149 (fun f_1023 hf_1024 hk_1025 => ?_)
                  have hW_1027 := hW_995.up hf_1024 hk_1025 t_23 ⟨_, rfl, (o_f.up (by first | omega | (simp only [Int32.lt_iff_toInt_lt, Int32.le_iff_toInt_le, Int32.reduceToInt, ← Int32.toInt_inj, true_and, and_true, or_true, true_or, false_or, or_false, false_and, and_false, not_true_eq_false, not_false_eq_true] <;> omega)) (fun q1 q2 => (by first | omega | (simp only [Int32.lt_iff_toInt_lt, Int32.le_iff_toInt_le, Int32.reduceToInt, ← Int32.toInt_inj] at *; omega))) (fun k9 q1 q2 q3 => (by first | omega | (simp only [Int32.lt_iff_toInt_lt, Int32.le_iff_toInt_le, Int32.reduceToInt, ← Int32.toInt_inj] at *; omega))))⟩
                  obtain ⟨g_1026, hf_1024, ok_1028, eg_1029⟩ : ∃ g9, f_1023 (q 14) = aI E 2076 g9 ∧ FOK g9 ∧ g9 = upd g_f (v_49 : Int32).toNatClampNeg 0 := ⟨_, hf_1024, (o_f.up (by first | omega | (simp only [Int32.lt_iff_toInt_lt, Int32.le_iff_toInt_le, Int32.reduceToInt, ← Int32.toInt_inj, true_and, and_true, or_true, true_or, false_or, or_false, false_and, and_false, not_true_eq_false, not_false_eq_true] <;> omega)) (fun q1 q2 => (by first | omega | (simp only [Int32.lt_iff_toInt_lt, Int32.le_iff_toInt_le, Int32.reduceToInt, ← Int32.toInt_inj] at *; omega))) (fun k9 q1 q2 q3 => (by first | omega | (simp only [Int32.lt_iff_toInt_lt, Int32.le_iff_toInt_le, Int32.reduceToInt, ← Int32.toInt_inj] at *; omega)))), rfl⟩
                  have hf_1030 := (hk_1025 a_0 (ne_kd e_1000 hf_999 rfl)).trans e_1000
                  have fr_1031 := FR.w hk_1025 hf_999 (k := 2176) rfl
                  have lk_1032 := lk_at (g0 := g_f) eg_1029 (by omega) (by omega)
                  have ag_1033 := (AG.rf o_f).st eg_1029 (by omega) (by omega)
                  try simp only [Int32.reduceToInt] at lk_1032
                  refine v_aload_n hC dX12_readLoss_150 rfl ?_
                  refine v_get hC fl_X12_34 m_1 hf_1030 rfl dX12_readLoss_151 ?_
                  refine v_iload_n hC dX12_readLoss_154 rfl ?_
                  refine v_iconst hC dX12_readLoss_155 (v := 1) (by decide) ?_
                  obtain ⟨v_1034, h_1035⟩ : ∃ v9 : Int32, v_49 + 1 = v9 := ⟨_, rfl⟩
                  refine v_iadd hC dX12_readLoss_156 h_1035 ?_
                  have h_1036 := add_v h_1035 (by first | omega | (simp only [Int32.lt_iff_toInt_lt, Int32.le_iff_toInt_le, Int32.reduceToInt, ← Int32.toInt_inj, true_and, and_true, or_true, true_or, false_or, or_false, false_and, and_false, not_true_eq_false, not_false_eq_true] <;> omega)) (by first | omega | (simp only [Int32.lt_iff_toInt_lt, Int32.le_iff_toInt_le, Int32.reduceToInt, ← Int32.toInt_inj, true_and, and_true, or_true, true_or, false_or, or_false, false_and, and_false, not_true_eq_false, not_false_eq_true] <;> omega))
                  try simp only [Int32.reduceToInt] at h_1036
                  refine v_aload_n hC dX12_readLoss_157 rfl ?_
                  refine v_iconst hC dX12_readLoss_158 (v := 0) (by decide) ?_
                  refine v_bipush hC dX12_readLoss_159 (v := 15) (by decide) ?_
                  refine v_vi hC (rest := [.int v_1034, .ref (q 14)]) m_1 hf_1030 rfl mi_X12_number ms_X12_number (p_X12_number hW_1027 k_0) mx_X12_number ml_X12_170 (by decide) rfl (cells1 := 0) (slots1 := 0) (by decide) (by decide) (Nat.le_of_ble_eq_true rfl) (Nat.le_of_ble_eq_true rfl) rfl (Nat.le_of_ble_eq_true rfl) dX12_readLoss_161 (fun r_1037 L_1038 f_1039 h_1040 => ?_)
                  obtain ⟨rfl, hW_1044, hF_1045, x_1041, x_1042, x_1043, -, -⟩ := h_1040
                  have fe_1046 : fld (f_1023 a_0) 8 = (v_1006 : Int32).toInt := by rw [hf_1030]; rfl
                  have fe_1047 : fld (f_1023 a_0) 10 = (v_1010 : Int32).toInt := by rw [hf_1030]; rfl
                  have fe_1048 : fld (f_1023 a_0) 12 = (v_1013 : Int32).toInt := by rw [hf_1030]; rfl
                  have hf_1049 := hF_1045.at hf_1024 rfl
                  obtain ⟨v_1051, v_1052, v_1054, v_1056, v_1058, v_1060, v_1062, v_1063, v_1064, v_1065, v_1067, e_1050, b_1053, b_1055, b_1057, b_1059, b_1061, b_1066, b_1068⟩ := hW_1044.at m_1 t_2
                  have fe_1069 : fld (f_1039 a_0) 8 = (v_1056 : Int32).toInt := by rw [e_1050]; rfl
                  have fe_1070 : fld (f_1039 a_0) 9 = (v_1058 : Int32).toInt := by rw [e_1050]; rfl
                  have fe_1071 : fld (f_1039 a_0) 10 = (v_1060 : Int32).toInt := by rw [e_1050]; rfl
                  have fe_1072 : fld (f_1039 a_0) 12 = (v_1063 : Int32).toInt := by rw [e_1050]; rfl
                  rw [fe_1072, fe_1048] at x_1041
                  rw [fe_1072, fe_1047, fe_1046, fe_1070, fe_1069] at x_1042
                  rw [fe_1072, fe_1071, fe_1070, fe_1069] at x_1043
                  clear fe_1046 fe_1047 fe_1048 fe_1069 fe_1070 fe_1071 fe_1072
                  try simp only [Int32.reduceToInt, Int64.reduceToInt] at x_1041
                  try simp only [Int32.reduceToInt, Int64.reduceToInt] at x_1042
                  try simp only [Int32.reduceToInt, Int64.reduceToInt] at x_1043
                  refine v_iast hC m_22 hf_1049 (vp_in_iff.mpr (by first | omega | (simp only [Int32.lt_iff_toInt_lt, Int32.le_iff_toInt_le, Int32.reduceToInt, ← Int32.toInt_inj, true_and, and_true, or_true, true_or, false_or, or_false, false_and, and_false, not_true_eq_false, not_false_eq_true] <;> omega))) dX12_readLoss_164 (fun f_1073 hf_1074 hk_1075 => ?_)
                  have hW_1077 := hW_1044.up hf_1074 hk_1075 t_23 ⟨_, rfl, (ok_1028.up (by first | omega | (simp only [Int32.lt_iff_toInt_lt, Int32.le_iff_toInt_le, Int32.reduceToInt, ← Int32.toInt_inj, true_and, and_true, or_true, true_or, false_or, or_false, false_and, and_false, not_true_eq_false, not_false_eq_true] <;> omega)) (fun q1 q2 => (by first | omega | (simp only [Int32.lt_iff_toInt_lt, Int32.le_iff_toInt_le, Int32.reduceToInt, ← Int32.toInt_inj] at *; omega))) (fun k9 q1 q2 q3 => (by first | omega | (simp only [Int32.lt_iff_toInt_lt, Int32.le_iff_toInt_le, Int32.reduceToInt, ← Int32.toInt_inj] at *; omega))))⟩
                  obtain ⟨g_1076, hf_1074, ok_1078, eg_1079⟩ : ∃ g9, f_1073 (q 14) = aI E 2076 g9 ∧ FOK g9 ∧ g9 = upd g_1026 (v_1034 : Int32).toNatClampNeg r_1037 := ⟨_, hf_1074, (ok_1028.up (by first | omega | (simp only [Int32.lt_iff_toInt_lt, Int32.le_iff_toInt_le, Int32.reduceToInt, ← Int32.toInt_inj, true_and, and_true, or_true, true_or, false_or, or_false, false_and, and_false, not_true_eq_false, not_false_eq_true] <;> omega)) (fun q1 q2 => (by first | omega | (simp only [Int32.lt_iff_toInt_lt, Int32.le_iff_toInt_le, Int32.reduceToInt, ← Int32.toInt_inj] at *; omega))) (fun k9 q1 q2 q3 => (by first | omega | (simp only [Int32.lt_iff_toInt_lt, Int32.le_iff_toInt_le, Int32.reduceToInt, ← Int32.toInt_inj] at *; omega)))), rfl⟩
                  have hf_1080 := (hk_1075 a_0 (ne_kd e_1050 hf_1049 rfl)).trans e_1050
                  have fr_1081 := FR.w hk_1075 hf_1049 (k := 2176) rfl
                  have lk_1082 := lf_at (g0 := g_f) eg_1079 (by omega) (by omega)
                  have ag_1083 := ag_1033.st eg_1079 (by omega) (by omega)
                  try simp only [Int32.reduceToInt] at lk_1082
                  refine v_aload_n hC dX12_readLoss_165 rfl ?_
                  refine v_get hC fl_X12_34 m_1 hf_1080 rfl dX12_readLoss_166 ?_
                  refine v_iload_n hC dX12_readLoss_169 rfl ?_
                  refine v_iconst hC dX12_readLoss_170 (v := 2) (by decide) ?_
                  obtain ⟨v_1084, h_1085⟩ : ∃ v9 : Int32, v_49 + 2 = v9 := ⟨_, rfl⟩
                  refine v_iadd hC dX12_readLoss_171 h_1085 ?_
                  have h_1086 := add_v h_1085 (by first | omega | (simp only [Int32.lt_iff_toInt_lt, Int32.le_iff_toInt_le, Int32.reduceToInt, ← Int32.toInt_inj, true_and, and_true, or_true, true_or, false_or, or_false, false_and, and_false, not_true_eq_false, not_false_eq_true] <;> omega)) (by first | omega | (simp only [Int32.lt_iff_toInt_lt, Int32.le_iff_toInt_le, Int32.reduceToInt, ← Int32.toInt_inj, true_and, and_true, or_true, true_or, false_or, or_false, false_and, and_false, not_true_eq_false, not_false_eq_true] <;> omega))
                  try simp only [Int32.reduceToInt] at h_1086
                  refine v_aload_n hC dX12_readLoss_172 rfl ?_
                  refine v_ldcwS hC sr_X12_295 dX12_readLoss_173 ?_
                  refine v_aload_n hC dX12_readLoss_176 rfl ?_
                  refine v_get hC fl_X12_34 m_1 hf_1080 rfl dX12_readLoss_177 ?_
                  refine v_iload_n hC dX12_readLoss_180 rfl ?_
                  refine v_iconst hC dX12_readLoss_181 (v := 1) (by decide) ?_
                  obtain ⟨v_1087, h_1088⟩ : ∃ v9 : Int32, v_49 + 1 = v9 := ⟨_, rfl⟩
                  refine v_iadd hC dX12_readLoss_182 h_1088 ?_
                  have h_1089 := add_v h_1088 (by first | omega | (simp only [Int32.lt_iff_toInt_lt, Int32.le_iff_toInt_le, Int32.reduceToInt, ← Int32.toInt_inj, true_and, and_true, or_true, true_or, false_or, or_false, false_and, and_false, not_true_eq_false, not_false_eq_true] <;> omega)) (by first | omega | (simp only [Int32.lt_iff_toInt_lt, Int32.le_iff_toInt_le, Int32.reduceToInt, ← Int32.toInt_inj, true_and, and_true, or_true, true_or, false_or, or_false, false_and, and_false, not_true_eq_false, not_false_eq_true] <;> omega))
                  try simp only [Int32.reduceToInt] at h_1089
                  obtain ⟨v_1090, h_1091⟩ : ∃ v9 : Int32, g_1076 (v_1087 : Int32).toNatClampNeg = v9 := ⟨_, rfl⟩
                  refine v_iald hC m_22 hf_1074 (vp_in_iff.mpr (by first | omega | (simp only [Int32.lt_iff_toInt_lt, Int32.le_iff_toInt_le, Int32.reduceToInt, ← Int32.toInt_inj, true_and, and_true, or_true, true_or, false_or, or_false, false_and, and_false, not_true_eq_false, not_false_eq_true] <;> omega))) h_1091 dX12_readLoss_183 ?_
                  refine v_bipush hC dX12_readLoss_184 (v := 15) (by decide) ?_
                  refine v_vi hC (rest := [.int v_1084, .ref (q 14)]) m_1 hf_1080 rfl mi_X12_told ms_X12_told (p_X12_told hW_1077 k_0 (by decide)) mx_X12_told ml_X12_189 (by decide) rfl (cells1 := 0) (slots1 := 0) (by decide) (by decide) (Nat.le_of_ble_eq_true rfl) (Nat.le_of_ble_eq_true rfl) rfl (Nat.le_of_ble_eq_true rfl) dX12_readLoss_186 (fun r_1092 L_1093 f_1094 h_1095 => ?_)
                  obtain ⟨rfl, hW_1099, hF_1100, x_1096, x_1097, x_1098, -, -⟩ := h_1095
                  have fe_1101 : fld (f_1073 a_0) 8 = (v_1056 : Int32).toInt := by rw [hf_1080]; rfl
                  have fe_1102 : fld (f_1073 a_0) 12 = (v_1063 : Int32).toInt := by rw [hf_1080]; rfl
                  have hf_1103 := hF_1100.at hf_1074 rfl
                  obtain ⟨v_1105, v_1106, v_1108, v_1110, v_1112, v_1114, v_1116, v_1117, v_1118, v_1119, v_1121, e_1104, b_1107, b_1109, b_1111, b_1113, b_1115, b_1120, b_1122⟩ := hW_1099.at m_1 t_2
                  have fe_1123 : fld (f_1094 a_0) 8 = (v_1110 : Int32).toInt := by rw [e_1104]; rfl
                  have fe_1124 : fld (f_1094 a_0) 9 = (v_1112 : Int32).toInt := by rw [e_1104]; rfl
                  have fe_1125 : fld (f_1094 a_0) 10 = (v_1114 : Int32).toInt := by rw [e_1104]; rfl
                  have fe_1126 : fld (f_1094 a_0) 12 = (v_1117 : Int32).toInt := by rw [e_1104]; rfl
                  rw [fe_1126, fe_1102] at x_1096
                  rw [fe_1126, fe_1101, fe_1124, fe_1123] at x_1097
                  rw [fe_1126, fe_1125, fe_1124, fe_1123] at x_1098
                  clear fe_1101 fe_1102 fe_1123 fe_1124 fe_1125 fe_1126
                  try simp only [Int32.reduceToInt, Int64.reduceToInt] at x_1096
                  try simp only [Int32.reduceToInt, Int64.reduceToInt] at x_1097
                  try simp only [Int32.reduceToInt, Int64.reduceToInt] at x_1098
                  refine v_iast hC m_22 hf_1103 (vp_in_iff.mpr (by first | omega | (simp only [Int32.lt_iff_toInt_lt, Int32.le_iff_toInt_le, Int32.reduceToInt, ← Int32.toInt_inj, true_and, and_true, or_true, true_or, false_or, or_false, false_and, and_false, not_true_eq_false, not_false_eq_true] <;> omega))) dX12_readLoss_189 (fun f_1127 hf_1128 hk_1129 => ?_)
                  have hW_1131 := hW_1099.up hf_1128 hk_1129 t_23 ⟨_, rfl, (ok_1078.up (by first | omega | (simp only [Int32.lt_iff_toInt_lt, Int32.le_iff_toInt_le, Int32.reduceToInt, ← Int32.toInt_inj, true_and, and_true, or_true, true_or, false_or, or_false, false_and, and_false, not_true_eq_false, not_false_eq_true] <;> omega)) (fun q1 q2 => (by first | omega | (simp only [Int32.lt_iff_toInt_lt, Int32.le_iff_toInt_le, Int32.reduceToInt, ← Int32.toInt_inj] at *; omega))) (fun k9 q1 q2 q3 => (by first | omega | (simp only [Int32.lt_iff_toInt_lt, Int32.le_iff_toInt_le, Int32.reduceToInt, ← Int32.toInt_inj] at *; omega))))⟩
                  obtain ⟨g_1130, hf_1128, ok_1132, eg_1133⟩ : ∃ g9, f_1127 (q 14) = aI E 2076 g9 ∧ FOK g9 ∧ g9 = upd g_1076 (v_1084 : Int32).toNatClampNeg r_1092 := ⟨_, hf_1128, (ok_1078.up (by first | omega | (simp only [Int32.lt_iff_toInt_lt, Int32.le_iff_toInt_le, Int32.reduceToInt, ← Int32.toInt_inj, true_and, and_true, or_true, true_or, false_or, or_false, false_and, and_false, not_true_eq_false, not_false_eq_true] <;> omega)) (fun q1 q2 => (by first | omega | (simp only [Int32.lt_iff_toInt_lt, Int32.le_iff_toInt_le, Int32.reduceToInt, ← Int32.toInt_inj] at *; omega))) (fun k9 q1 q2 q3 => (by first | omega | (simp only [Int32.lt_iff_toInt_lt, Int32.le_iff_toInt_le, Int32.reduceToInt, ← Int32.toInt_inj] at *; omega)))), rfl⟩
                  have hf_1134 := (hk_1129 a_0 (ne_kd e_1104 hf_1103 rfl)).trans e_1104
                  have fr_1135 := FR.w hk_1129 hf_1103 (k := 2176) rfl
                  have lk_1136 := l2_at (g0 := g_f) eg_1133 (by omega) (by omega)
                  have ag_1137 := ag_1083.st eg_1133 (by omega) (by omega)
                  try simp only [Int32.reduceToInt] at lk_1136
                  refine v_goto hC dX12_readLoss_190 (tgt := 258) (by decide) ?_
                  refine v_aload_n hC dX12_readLoss_258 rfl ?_
                  refine v_vv hC (rest := []) m_1 hf_1134 rfl mi_X12_ends ms_X12_ends (p_X12_ends hW_1131 k_0) mx_X12_ends ml_X12_178 (by decide) rfl (cells1 := 0) (slots1 := 0) (by decide) (by decide) (Nat.le_of_ble_eq_true rfl) (Nat.le_of_ble_eq_true rfl) rfl (Nat.le_of_ble_eq_true rfl) dX12_readLoss_259 (fun L_1139 f_1140 h_1141 => ?_)
                  obtain ⟨rfl, hW_1144, hF_1145, x_1142, x_1143, -, -⟩ := h_1141
                  have fe_1146 : fld (f_1127 a_0) 8 = (v_1110 : Int32).toInt := by rw [hf_1134]; rfl
                  have fe_1147 : fld (f_1127 a_0) 10 = (v_1114 : Int32).toInt := by rw [hf_1134]; rfl
                  have fe_1148 : fld (f_1127 a_0) 12 = (v_1117 : Int32).toInt := by rw [hf_1134]; rfl
                  have hf_1149 := hF_1145.at hf_1128 rfl
                  obtain ⟨v_1151, v_1152, v_1154, v_1156, v_1158, v_1160, v_1162, v_1163, v_1164, v_1165, v_1167, e_1150, b_1153, b_1155, b_1157, b_1159, b_1161, b_1166, b_1168⟩ := hW_1144.at m_1 t_2
                  have fe_1169 : fld (f_1140 a_0) 8 = (v_1156 : Int32).toInt := by rw [e_1150]; rfl
                  have fe_1170 : fld (f_1140 a_0) 9 = (v_1158 : Int32).toInt := by rw [e_1150]; rfl
                  have fe_1171 : fld (f_1140 a_0) 12 = (v_1163 : Int32).toInt := by rw [e_1150]; rfl
                  rw [fe_1171, fe_1148] at x_1142
                  rw [fe_1171, fe_1147, fe_1146, fe_1170, fe_1169] at x_1143
                  clear fe_1146 fe_1147 fe_1148 fe_1169 fe_1170 fe_1171
                  refine v_aload_n hC dX12_readLoss_262 rfl ?_
                  refine v_get hC fl_X12_34 m_1 e_1150 rfl dX12_readLoss_263 ?_
                  refine v_bipush hC dX12_readLoss_266 (v := 6) (by decide) ?_
                  refine v_dup2 hC dX12_readLoss_268 rfl rfl ?_
                  have l6_1172 : (g_1130 6).toInt = (g_f 6).toInt := congrArg Int32.toInt ag_1137.2.1
                  refine v_iald hC m_22 hf_1149 (vp_in_iff.mpr (by decide)) (v := g_1130 6) rfl dX12_readLoss_269 ?_
                  refine v_iconst hC dX12_readLoss_270 (v := 1) (by decide) ?_
                  obtain ⟨v_1173, h_1174⟩ : ∃ v9 : Int32, (g_1130 6) + 1 = v9 := ⟨_, rfl⟩
                  refine v_iadd hC dX12_readLoss_271 h_1174 ?_
                  have h_1175 := add_v h_1174 (by first | omega | (simp only [Int32.lt_iff_toInt_lt, Int32.le_iff_toInt_le, Int32.reduceToInt, ← Int32.toInt_inj, true_and, and_true, or_true, true_or, false_or, or_false, false_and, and_false, not_true_eq_false, not_false_eq_true] <;> omega)) (by first | omega | (simp only [Int32.lt_iff_toInt_lt, Int32.le_iff_toInt_le, Int32.reduceToInt, ← Int32.toInt_inj, true_and, and_true, or_true, true_or, false_or, or_false, false_and, and_false, not_true_eq_false, not_false_eq_true] <;> omega))
                  try simp only [Int32.reduceToInt] at h_1175
                  refine v_iast hC m_22 hf_1149 (vp_in_iff.mpr (by decide)) dX12_readLoss_272 (fun f_1176 hf_1177 hk_1178 => ?_)
                  have hW_1180 := hW_1144.up hf_1177 hk_1178 t_23 ⟨_, rfl, (ok_1132.up (i := 6) (by decide) (fun q1 q2 => absurd (And.intro q1 q2) (by decide)) (fun k9 q1 q2 q3 => by simp only [Int32.reduceToInt] at q3; omega))⟩
                  obtain ⟨g_1179, hf_1177, ok_1181, eg_1182⟩ : ∃ g9, f_1176 (q 14) = aI E 2076 g9 ∧ FOK g9 ∧ g9 = upd g_1130 (6 : Int32).toNatClampNeg v_1173 := ⟨_, hf_1177, (ok_1132.up (i := 6) (by decide) (fun q1 q2 => absurd (And.intro q1 q2) (by decide)) (fun k9 q1 q2 q3 => by simp only [Int32.reduceToInt] at q3; omega)), rfl⟩
                  have hf_1183 := (hk_1178 a_0 (ne_kd e_1150 hf_1149 rfl)).trans e_1150
                  have fr_1184 := FR.w hk_1178 hf_1149 (k := 2176) rfl
                  have ln6_1185 := FOK.n6 ag_1137.1 eg_1182
                  have ln6_1185_t : (g_1179 6).toInt = v_1173.toInt := congrArg Int32.toInt ln6_1185.2
                  have fe_1186 : fld (f_1176 a_0) 12 = (v_1163 : Int32).toInt := by rw [hf_1183]; rfl
                  have fe_1187 : fld (f_1176 a_0) 8 = (v_1156 : Int32).toInt := by rw [hf_1183]; rfl
                  have fe_1188 : fld (f_1176 a_0) 12 = (v_1163 : Int32).toInt := by rw [hf_1183]; rfl
                  have fe_1189 : fld (f_1176 a_0) 20 = (v_1167 : Int32).toInt := by rw [hf_1183]; rfl
                  exact hR _ _ _ _ _ _ dX12_readLoss_273 (Nat.le_of_ble_eq_true rfl) (Nat.le_of_ble_eq_true rfl) ⟨rfl, hW_1180, (((((((((hF_95.tr hF_996).tr fr_1031).tr hF_1045).tr fr_1081).tr hF_1100).tr fr_1135).tr hF_1145).tr fr_1184).mono rfl), ⟨_, hf_1177, ln6_1185.1, (by omega), (by rw [fe_1186]; by_cases q9 : v_1163.toInt = 0; exact .inr (LO.fin hLO ag_1137 eg_1182 (by omega) (by omega) (fun q8 => by omega)); exact .inl q9)⟩, (by simp only [fe_1187, fe_1188, mz_43, mz_44, true_and, and_true, or_true, true_or, false_or, or_false, false_and, and_false, not_true_eq_false, not_false_eq_true] <;> first | omega | (simp only [Int32.lt_iff_toInt_lt, Int32.le_iff_toInt_le, Int32.reduceToInt, ← Int32.toInt_inj, true_and, and_true, or_true, true_or, false_or, or_false, false_and, and_false, not_true_eq_false, not_false_eq_true] <;> omega)), (by simp only [fe_1189, mz_45, true_and, and_true, or_true, true_or, false_or, or_false, false_and, and_false, not_true_eq_false, not_false_eq_true] <;> first | omega | (simp only [Int32.lt_iff_toInt_lt, Int32.le_iff_toInt_le, Int32.reduceToInt, ← Int32.toInt_inj, true_and, and_true, or_true, true_or, false_or, or_false, false_and, and_false, not_true_eq_false, not_false_eq_true] <;> omega))⟩
              · simp only [Int32.lt_iff_toInt_lt, Int32.le_iff_toInt_le, Int32.reduceToInt, ← Int32.toInt_inj] at h_810
                refine v_aload_n hC dX12_readLoss_119 rfl ?_
                refine v_iconst hC dX12_readLoss_120 (v := 1) (by decide) ?_
                refine v_vv hC (rest := []) m_1 e_99 rfl mi_X12_errs ms_X12_errs (p_X12_errs hW_94 k_0 (by decide)) mx_X12_errs ml_X12_162 (by decide) rfl (cells1 := 0) (slots1 := 0) (by decide) (by decide) (Nat.le_of_ble_eq_true rfl) (Nat.le_of_ble_eq_true rfl) rfl (Nat.le_of_ble_eq_true rfl) dX12_readLoss_121 (fun L_1191 f_1192 h_1193 => ?_)
                obtain ⟨rfl, hW_1196, hF_1197, x_1194, x_1195, -, -, -⟩ := h_1193
                have fe_1198 : fld (f_90 a_0) 8 = (v_105 : Int32).toInt := by rw [e_99]; rfl
                have hf_1199 := hF_1197.at hf_98 rfl
                obtain ⟨v_1201, v_1202, v_1204, v_1206, v_1208, v_1210, v_1212, v_1213, v_1214, v_1215, v_1217, e_1200, b_1203, b_1205, b_1207, b_1209, b_1211, b_1216, b_1218⟩ := hW_1196.at m_1 t_2
                have fe_1219 : fld (f_1192 a_0) 8 = (v_1206 : Int32).toInt := by rw [e_1200]; rfl
                have fe_1220 : fld (f_1192 a_0) 12 = (v_1213 : Int32).toInt := by rw [e_1200]; rfl
                rw [fe_1220] at x_1194
                rw [fe_1219, fe_1198] at x_1195
                clear fe_1198 fe_1219 fe_1220
                refine v_aload_n hC dX12_readLoss_124 rfl ?_
                refine v_vi hC (rest := []) m_1 e_1200 rfl mi_X12_good ms_X12_good (p_X12_good hW_1196 k_0) mx_X12_good ml_X12_139 (by decide) rfl (cells1 := 0) (slots1 := 0) (by decide) (by decide) (Nat.le_of_ble_eq_true rfl) (Nat.le_of_ble_eq_true rfl) rfl (Nat.le_of_ble_eq_true rfl) dX12_readLoss_125 (fun r_1221 L_1222 f_1223 h_1224 => ?_)
                obtain ⟨rfl, rfl, b_1225, x_1226⟩ := h_1224
                have fe_1229 : fld (f_1192 a_0) 12 = (v_1213 : Int32).toInt := by rw [e_1200]; rfl
                rw [fe_1229] at x_1226
                clear fe_1229
                try simp only [Int32.reduceToInt, Int64.reduceToInt] at x_1226
                refine v_if_eq hC dX12_readLoss_128 (tgt := 135) (by decide) (fun h_1230 => ?_) (fun h_1230 => ?_)
                · simp only [Int32.lt_iff_toInt_lt, Int32.le_iff_toInt_le, Int32.reduceToInt, ← Int32.toInt_inj] at h_1230
                  refine v_aload_n hC dX12_readLoss_135 rfl ?_
                  refine v_get hC fl_X12_34 m_1 e_1200 rfl dX12_readLoss_136 ?_
                  refine v_iload_n hC dX12_readLoss_139 rfl ?_
                  refine v_iload_n hC dX12_readLoss_140 rfl ?_
                  refine v_if_eq_t hC dX12_readLoss_141 (tgt := 148) (by decide) (by first | omega | (simp only [Int32.lt_iff_toInt_lt, Int32.le_iff_toInt_le, Int32.reduceToInt, ← Int32.toInt_inj, true_and, and_true, or_true, true_or, false_or, or_false, false_and, and_false, not_true_eq_false, not_false_eq_true] <;> omega)) ?_
                  refine v_iconst hC dX12_readLoss_148 (v := 0) (by decide) ?_
                  refine v_iast hC m_22 hf_1199 (vp_in_iff.mpr (by first | omega | (simp only [Int32.lt_iff_toInt_lt, Int32.le_iff_toInt_le, Int32.reduceToInt, ← Int32.toInt_inj, true_and, and_true, or_true, true_or, false_or, or_false, false_and, and_false, not_true_eq_false, not_false_eq_true] <;> omega))) dX12_readLoss_149 (fun f_1231 hf_1232 hk_1233 => ?_)
                  have hW_1235 := hW_1196.up hf_1232 hk_1233 t_23 ⟨_, rfl, (o_f.up (by first | omega | (simp only [Int32.lt_iff_toInt_lt, Int32.le_iff_toInt_le, Int32.reduceToInt, ← Int32.toInt_inj, true_and, and_true, or_true, true_or, false_or, or_false, false_and, and_false, not_true_eq_false, not_false_eq_true] <;> omega)) (fun q1 q2 => (by first | omega | (simp only [Int32.lt_iff_toInt_lt, Int32.le_iff_toInt_le, Int32.reduceToInt, ← Int32.toInt_inj] at *; omega))) (fun k9 q1 q2 q3 => (by first | omega | (simp only [Int32.lt_iff_toInt_lt, Int32.le_iff_toInt_le, Int32.reduceToInt, ← Int32.toInt_inj] at *; omega))))⟩
                  obtain ⟨g_1234, hf_1232, ok_1236, eg_1237⟩ : ∃ g9, f_1231 (q 14) = aI E 2076 g9 ∧ FOK g9 ∧ g9 = upd g_f (v_49 : Int32).toNatClampNeg 0 := ⟨_, hf_1232, (o_f.up (by first | omega | (simp only [Int32.lt_iff_toInt_lt, Int32.le_iff_toInt_le, Int32.reduceToInt, ← Int32.toInt_inj, true_and, and_true, or_true, true_or, false_or, or_false, false_and, and_false, not_true_eq_false, not_false_eq_true] <;> omega)) (fun q1 q2 => (by first | omega | (simp only [Int32.lt_iff_toInt_lt, Int32.le_iff_toInt_le, Int32.reduceToInt, ← Int32.toInt_inj] at *; omega))) (fun k9 q1 q2 q3 => (by first | omega | (simp only [Int32.lt_iff_toInt_lt, Int32.le_iff_toInt_le, Int32.reduceToInt, ← Int32.toInt_inj] at *; omega)))), rfl⟩
                  have hf_1238 := (hk_1233 a_0 (ne_kd e_1200 hf_1199 rfl)).trans e_1200
                  have fr_1239 := FR.w hk_1233 hf_1199 (k := 2176) rfl
                  have lk_1240 := lk_at (g0 := g_f) eg_1237 (by omega) (by omega)
                  have ag_1241 := (AG.rf o_f).st eg_1237 (by omega) (by omega)
                  try simp only [Int32.reduceToInt] at lk_1240
                  refine v_aload_n hC dX12_readLoss_150 rfl ?_
                  refine v_get hC fl_X12_34 m_1 hf_1238 rfl dX12_readLoss_151 ?_
                  refine v_iload_n hC dX12_readLoss_154 rfl ?_
                  refine v_iconst hC dX12_readLoss_155 (v := 1) (by decide) ?_
                  obtain ⟨v_1242, h_1243⟩ : ∃ v9 : Int32, v_49 + 1 = v9 := ⟨_, rfl⟩
                  refine v_iadd hC dX12_readLoss_156 h_1243 ?_
                  have h_1244 := add_v h_1243 (by first | omega | (simp only [Int32.lt_iff_toInt_lt, Int32.le_iff_toInt_le, Int32.reduceToInt, ← Int32.toInt_inj, true_and, and_true, or_true, true_or, false_or, or_false, false_and, and_false, not_true_eq_false, not_false_eq_true] <;> omega)) (by first | omega | (simp only [Int32.lt_iff_toInt_lt, Int32.le_iff_toInt_le, Int32.reduceToInt, ← Int32.toInt_inj, true_and, and_true, or_true, true_or, false_or, or_false, false_and, and_false, not_true_eq_false, not_false_eq_true] <;> omega))
                  try simp only [Int32.reduceToInt] at h_1244
                  refine v_aload_n hC dX12_readLoss_157 rfl ?_
                  refine v_iconst hC dX12_readLoss_158 (v := 0) (by decide) ?_
                  refine v_bipush hC dX12_readLoss_159 (v := 15) (by decide) ?_
                  refine v_vi hC (rest := [.int v_1242, .ref (q 14)]) m_1 hf_1238 rfl mi_X12_number ms_X12_number (p_X12_number hW_1235 k_0) mx_X12_number ml_X12_170 (by decide) rfl (cells1 := 0) (slots1 := 0) (by decide) (by decide) (Nat.le_of_ble_eq_true rfl) (Nat.le_of_ble_eq_true rfl) rfl (Nat.le_of_ble_eq_true rfl) dX12_readLoss_161 (fun r_1245 L_1246 f_1247 h_1248 => ?_)
                  obtain ⟨rfl, hW_1252, hF_1253, x_1249, x_1250, x_1251, -, -⟩ := h_1248
                  have fe_1254 : fld (f_1231 a_0) 8 = (v_1206 : Int32).toInt := by rw [hf_1238]; rfl
                  have fe_1255 : fld (f_1231 a_0) 10 = (v_1210 : Int32).toInt := by rw [hf_1238]; rfl
                  have fe_1256 : fld (f_1231 a_0) 12 = (v_1213 : Int32).toInt := by rw [hf_1238]; rfl
                  have hf_1257 := hF_1253.at hf_1232 rfl
                  obtain ⟨v_1259, v_1260, v_1262, v_1264, v_1266, v_1268, v_1270, v_1271, v_1272, v_1273, v_1275, e_1258, b_1261, b_1263, b_1265, b_1267, b_1269, b_1274, b_1276⟩ := hW_1252.at m_1 t_2
                  have fe_1277 : fld (f_1247 a_0) 8 = (v_1264 : Int32).toInt := by rw [e_1258]; rfl
                  have fe_1278 : fld (f_1247 a_0) 9 = (v_1266 : Int32).toInt := by rw [e_1258]; rfl
                  have fe_1279 : fld (f_1247 a_0) 10 = (v_1268 : Int32).toInt := by rw [e_1258]; rfl
                  have fe_1280 : fld (f_1247 a_0) 12 = (v_1271 : Int32).toInt := by rw [e_1258]; rfl
                  rw [fe_1280, fe_1256] at x_1249
                  rw [fe_1280, fe_1255, fe_1254, fe_1278, fe_1277] at x_1250
                  rw [fe_1280, fe_1279, fe_1278, fe_1277] at x_1251
                  clear fe_1254 fe_1255 fe_1256 fe_1277 fe_1278 fe_1279 fe_1280
                  try simp only [Int32.reduceToInt, Int64.reduceToInt] at x_1249
                  try simp only [Int32.reduceToInt, Int64.reduceToInt] at x_1250
                  try simp only [Int32.reduceToInt, Int64.reduceToInt] at x_1251
                  refine v_iast hC m_22 hf_1257 (vp_in_iff.mpr (by first | omega | (simp only [Int32.lt_iff_toInt_lt, Int32.le_iff_toInt_le, Int32.reduceToInt, ← Int32.toInt_inj, true_and, and_true, or_true, true_or, false_or, or_false, false_and, and_false, not_true_eq_false, not_false_eq_true] <;> omega))) dX12_readLoss_164 (fun f_1281 hf_1282 hk_1283 => ?_)
                  have hW_1285 := hW_1252.up hf_1282 hk_1283 t_23 ⟨_, rfl, (ok_1236.up (by first | omega | (simp only [Int32.lt_iff_toInt_lt, Int32.le_iff_toInt_le, Int32.reduceToInt, ← Int32.toInt_inj, true_and, and_true, or_true, true_or, false_or, or_false, false_and, and_false, not_true_eq_false, not_false_eq_true] <;> omega)) (fun q1 q2 => (by first | omega | (simp only [Int32.lt_iff_toInt_lt, Int32.le_iff_toInt_le, Int32.reduceToInt, ← Int32.toInt_inj] at *; omega))) (fun k9 q1 q2 q3 => (by first | omega | (simp only [Int32.lt_iff_toInt_lt, Int32.le_iff_toInt_le, Int32.reduceToInt, ← Int32.toInt_inj] at *; omega))))⟩
                  obtain ⟨g_1284, hf_1282, ok_1286, eg_1287⟩ : ∃ g9, f_1281 (q 14) = aI E 2076 g9 ∧ FOK g9 ∧ g9 = upd g_1234 (v_1242 : Int32).toNatClampNeg r_1245 := ⟨_, hf_1282, (ok_1236.up (by first | omega | (simp only [Int32.lt_iff_toInt_lt, Int32.le_iff_toInt_le, Int32.reduceToInt, ← Int32.toInt_inj, true_and, and_true, or_true, true_or, false_or, or_false, false_and, and_false, not_true_eq_false, not_false_eq_true] <;> omega)) (fun q1 q2 => (by first | omega | (simp only [Int32.lt_iff_toInt_lt, Int32.le_iff_toInt_le, Int32.reduceToInt, ← Int32.toInt_inj] at *; omega))) (fun k9 q1 q2 q3 => (by first | omega | (simp only [Int32.lt_iff_toInt_lt, Int32.le_iff_toInt_le, Int32.reduceToInt, ← Int32.toInt_inj] at *; omega)))), rfl⟩
                  have hf_1288 := (hk_1283 a_0 (ne_kd e_1258 hf_1257 rfl)).trans e_1258
                  have fr_1289 := FR.w hk_1283 hf_1257 (k := 2176) rfl
                  have lk_1290 := lf_at (g0 := g_f) eg_1287 (by omega) (by omega)
                  have ag_1291 := ag_1241.st eg_1287 (by omega) (by omega)
                  try simp only [Int32.reduceToInt] at lk_1290
                  refine v_aload_n hC dX12_readLoss_165 rfl ?_
                  refine v_get hC fl_X12_34 m_1 hf_1288 rfl dX12_readLoss_166 ?_
                  refine v_iload_n hC dX12_readLoss_169 rfl ?_
                  refine v_iconst hC dX12_readLoss_170 (v := 2) (by decide) ?_
                  obtain ⟨v_1292, h_1293⟩ : ∃ v9 : Int32, v_49 + 2 = v9 := ⟨_, rfl⟩
                  refine v_iadd hC dX12_readLoss_171 h_1293 ?_
                  have h_1294 := add_v h_1293 (by first | omega | (simp only [Int32.lt_iff_toInt_lt, Int32.le_iff_toInt_le, Int32.reduceToInt, ← Int32.toInt_inj, true_and, and_true, or_true, true_or, false_or, or_false, false_and, and_false, not_true_eq_false, not_false_eq_true] <;> omega)) (by first | omega | (simp only [Int32.lt_iff_toInt_lt, Int32.le_iff_toInt_le, Int32.reduceToInt, ← Int32.toInt_inj, true_and, and_true, or_true, true_or, false_or, or_false, false_and, and_false, not_true_eq_false, not_false_eq_true] <;> omega))
                  try simp only [Int32.reduceToInt] at h_1294
                  refine v_aload_n hC dX12_readLoss_172 rfl ?_
                  refine v_ldcwS hC sr_X12_295 dX12_readLoss_173 ?_
                  refine v_aload_n hC dX12_readLoss_176 rfl ?_
                  refine v_get hC fl_X12_34 m_1 hf_1288 rfl dX12_readLoss_177 ?_
                  refine v_iload_n hC dX12_readLoss_180 rfl ?_
                  refine v_iconst hC dX12_readLoss_181 (v := 1) (by decide) ?_
                  obtain ⟨v_1295, h_1296⟩ : ∃ v9 : Int32, v_49 + 1 = v9 := ⟨_, rfl⟩
                  refine v_iadd hC dX12_readLoss_182 h_1296 ?_
                  have h_1297 := add_v h_1296 (by first | omega | (simp only [Int32.lt_iff_toInt_lt, Int32.le_iff_toInt_le, Int32.reduceToInt, ← Int32.toInt_inj, true_and, and_true, or_true, true_or, false_or, or_false, false_and, and_false, not_true_eq_false, not_false_eq_true] <;> omega)) (by first | omega | (simp only [Int32.lt_iff_toInt_lt, Int32.le_iff_toInt_le, Int32.reduceToInt, ← Int32.toInt_inj, true_and, and_true, or_true, true_or, false_or, or_false, false_and, and_false, not_true_eq_false, not_false_eq_true] <;> omega))
                  try simp only [Int32.reduceToInt] at h_1297
                  obtain ⟨v_1298, h_1299⟩ : ∃ v9 : Int32, g_1284 (v_1295 : Int32).toNatClampNeg = v9 := ⟨_, rfl⟩
                  refine v_iald hC m_22 hf_1282 (vp_in_iff.mpr (by first | omega | (simp only [Int32.lt_iff_toInt_lt, Int32.le_iff_toInt_le, Int32.reduceToInt, ← Int32.toInt_inj, true_and, and_true, or_true, true_or, false_or, or_false, false_and, and_false, not_true_eq_false, not_false_eq_true] <;> omega))) h_1299 dX12_readLoss_183 ?_
                  refine v_bipush hC dX12_readLoss_184 (v := 15) (by decide) ?_
                  refine v_vi hC (rest := [.int v_1292, .ref (q 14)]) m_1 hf_1288 rfl mi_X12_told ms_X12_told (p_X12_told hW_1285 k_0 (by decide)) mx_X12_told ml_X12_189 (by decide) rfl (cells1 := 0) (slots1 := 0) (by decide) (by decide) (Nat.le_of_ble_eq_true rfl) (Nat.le_of_ble_eq_true rfl) rfl (Nat.le_of_ble_eq_true rfl) dX12_readLoss_186 (fun r_1300 L_1301 f_1302 h_1303 => ?_)
                  obtain ⟨rfl, hW_1307, hF_1308, x_1304, x_1305, x_1306, -, -⟩ := h_1303
                  have fe_1309 : fld (f_1281 a_0) 8 = (v_1264 : Int32).toInt := by rw [hf_1288]; rfl
                  have fe_1310 : fld (f_1281 a_0) 12 = (v_1271 : Int32).toInt := by rw [hf_1288]; rfl
                  have hf_1311 := hF_1308.at hf_1282 rfl
                  obtain ⟨v_1313, v_1314, v_1316, v_1318, v_1320, v_1322, v_1324, v_1325, v_1326, v_1327, v_1329, e_1312, b_1315, b_1317, b_1319, b_1321, b_1323, b_1328, b_1330⟩ := hW_1307.at m_1 t_2
                  have fe_1331 : fld (f_1302 a_0) 8 = (v_1318 : Int32).toInt := by rw [e_1312]; rfl
                  have fe_1332 : fld (f_1302 a_0) 9 = (v_1320 : Int32).toInt := by rw [e_1312]; rfl
                  have fe_1333 : fld (f_1302 a_0) 10 = (v_1322 : Int32).toInt := by rw [e_1312]; rfl
                  have fe_1334 : fld (f_1302 a_0) 12 = (v_1325 : Int32).toInt := by rw [e_1312]; rfl
                  rw [fe_1334, fe_1310] at x_1304
                  rw [fe_1334, fe_1309, fe_1332, fe_1331] at x_1305
                  rw [fe_1334, fe_1333, fe_1332, fe_1331] at x_1306
                  clear fe_1309 fe_1310 fe_1331 fe_1332 fe_1333 fe_1334
                  try simp only [Int32.reduceToInt, Int64.reduceToInt] at x_1304
                  try simp only [Int32.reduceToInt, Int64.reduceToInt] at x_1305
                  try simp only [Int32.reduceToInt, Int64.reduceToInt] at x_1306
                  refine v_iast hC m_22 hf_1311 (vp_in_iff.mpr (by first | omega | (simp only [Int32.lt_iff_toInt_lt, Int32.le_iff_toInt_le, Int32.reduceToInt, ← Int32.toInt_inj, true_and, and_true, or_true, true_or, false_or, or_false, false_and, and_false, not_true_eq_false, not_false_eq_true] <;> omega))) dX12_readLoss_189 (fun f_1335 hf_1336 hk_1337 => ?_)
                  have hW_1339 := hW_1307.up hf_1336 hk_1337 t_23 ⟨_, rfl, (ok_1286.up (by first | omega | (simp only [Int32.lt_iff_toInt_lt, Int32.le_iff_toInt_le, Int32.reduceToInt, ← Int32.toInt_inj, true_and, and_true, or_true, true_or, false_or, or_false, false_and, and_false, not_true_eq_false, not_false_eq_true] <;> omega)) (fun q1 q2 => (by first | omega | (simp only [Int32.lt_iff_toInt_lt, Int32.le_iff_toInt_le, Int32.reduceToInt, ← Int32.toInt_inj] at *; omega))) (fun k9 q1 q2 q3 => (by first | omega | (simp only [Int32.lt_iff_toInt_lt, Int32.le_iff_toInt_le, Int32.reduceToInt, ← Int32.toInt_inj] at *; omega))))⟩
                  obtain ⟨g_1338, hf_1336, ok_1340, eg_1341⟩ : ∃ g9, f_1335 (q 14) = aI E 2076 g9 ∧ FOK g9 ∧ g9 = upd g_1284 (v_1292 : Int32).toNatClampNeg r_1300 := ⟨_, hf_1336, (ok_1286.up (by first | omega | (simp only [Int32.lt_iff_toInt_lt, Int32.le_iff_toInt_le, Int32.reduceToInt, ← Int32.toInt_inj, true_and, and_true, or_true, true_or, false_or, or_false, false_and, and_false, not_true_eq_false, not_false_eq_true] <;> omega)) (fun q1 q2 => (by first | omega | (simp only [Int32.lt_iff_toInt_lt, Int32.le_iff_toInt_le, Int32.reduceToInt, ← Int32.toInt_inj] at *; omega))) (fun k9 q1 q2 q3 => (by first | omega | (simp only [Int32.lt_iff_toInt_lt, Int32.le_iff_toInt_le, Int32.reduceToInt, ← Int32.toInt_inj] at *; omega)))), rfl⟩
                  have hf_1342 := (hk_1337 a_0 (ne_kd e_1312 hf_1311 rfl)).trans e_1312
                  have fr_1343 := FR.w hk_1337 hf_1311 (k := 2176) rfl
                  have lk_1344 := l2_at (g0 := g_f) eg_1341 (by omega) (by omega)
                  have ag_1345 := ag_1291.st eg_1341 (by omega) (by omega)
                  try simp only [Int32.reduceToInt] at lk_1344
                  refine v_goto hC dX12_readLoss_190 (tgt := 258) (by decide) ?_
                  refine v_aload_n hC dX12_readLoss_258 rfl ?_
                  refine v_vv hC (rest := []) m_1 hf_1342 rfl mi_X12_ends ms_X12_ends (p_X12_ends hW_1339 k_0) mx_X12_ends ml_X12_178 (by decide) rfl (cells1 := 0) (slots1 := 0) (by decide) (by decide) (Nat.le_of_ble_eq_true rfl) (Nat.le_of_ble_eq_true rfl) rfl (Nat.le_of_ble_eq_true rfl) dX12_readLoss_259 (fun L_1347 f_1348 h_1349 => ?_)
                  obtain ⟨rfl, hW_1352, hF_1353, x_1350, x_1351, -, -⟩ := h_1349
                  have fe_1354 : fld (f_1335 a_0) 8 = (v_1318 : Int32).toInt := by rw [hf_1342]; rfl
                  have fe_1355 : fld (f_1335 a_0) 10 = (v_1322 : Int32).toInt := by rw [hf_1342]; rfl
                  have fe_1356 : fld (f_1335 a_0) 12 = (v_1325 : Int32).toInt := by rw [hf_1342]; rfl
                  have hf_1357 := hF_1353.at hf_1336 rfl
                  obtain ⟨v_1359, v_1360, v_1362, v_1364, v_1366, v_1368, v_1370, v_1371, v_1372, v_1373, v_1375, e_1358, b_1361, b_1363, b_1365, b_1367, b_1369, b_1374, b_1376⟩ := hW_1352.at m_1 t_2
                  have fe_1377 : fld (f_1348 a_0) 8 = (v_1364 : Int32).toInt := by rw [e_1358]; rfl
                  have fe_1378 : fld (f_1348 a_0) 9 = (v_1366 : Int32).toInt := by rw [e_1358]; rfl
                  have fe_1379 : fld (f_1348 a_0) 12 = (v_1371 : Int32).toInt := by rw [e_1358]; rfl
                  rw [fe_1379, fe_1356] at x_1350
                  rw [fe_1379, fe_1355, fe_1354, fe_1378, fe_1377] at x_1351
                  clear fe_1354 fe_1355 fe_1356 fe_1377 fe_1378 fe_1379
                  refine v_aload_n hC dX12_readLoss_262 rfl ?_
                  refine v_get hC fl_X12_34 m_1 e_1358 rfl dX12_readLoss_263 ?_
                  refine v_bipush hC dX12_readLoss_266 (v := 6) (by decide) ?_
                  refine v_dup2 hC dX12_readLoss_268 rfl rfl ?_
                  have l6_1380 : (g_1338 6).toInt = (g_f 6).toInt := congrArg Int32.toInt ag_1345.2.1
                  refine v_iald hC m_22 hf_1357 (vp_in_iff.mpr (by decide)) (v := g_1338 6) rfl dX12_readLoss_269 ?_
                  refine v_iconst hC dX12_readLoss_270 (v := 1) (by decide) ?_
                  obtain ⟨v_1381, h_1382⟩ : ∃ v9 : Int32, (g_1338 6) + 1 = v9 := ⟨_, rfl⟩
                  refine v_iadd hC dX12_readLoss_271 h_1382 ?_
                  have h_1383 := add_v h_1382 (by first | omega | (simp only [Int32.lt_iff_toInt_lt, Int32.le_iff_toInt_le, Int32.reduceToInt, ← Int32.toInt_inj, true_and, and_true, or_true, true_or, false_or, or_false, false_and, and_false, not_true_eq_false, not_false_eq_true] <;> omega)) (by first | omega | (simp only [Int32.lt_iff_toInt_lt, Int32.le_iff_toInt_le, Int32.reduceToInt, ← Int32.toInt_inj, true_and, and_true, or_true, true_or, false_or, or_false, false_and, and_false, not_true_eq_false, not_false_eq_true] <;> omega))
                  try simp only [Int32.reduceToInt] at h_1383
                  refine v_iast hC m_22 hf_1357 (vp_in_iff.mpr (by decide)) dX12_readLoss_272 (fun f_1384 hf_1385 hk_1386 => ?_)
                  have hW_1388 := hW_1352.up hf_1385 hk_1386 t_23 ⟨_, rfl, (ok_1340.up (i := 6) (by decide) (fun q1 q2 => absurd (And.intro q1 q2) (by decide)) (fun k9 q1 q2 q3 => by simp only [Int32.reduceToInt] at q3; omega))⟩
                  obtain ⟨g_1387, hf_1385, ok_1389, eg_1390⟩ : ∃ g9, f_1384 (q 14) = aI E 2076 g9 ∧ FOK g9 ∧ g9 = upd g_1338 (6 : Int32).toNatClampNeg v_1381 := ⟨_, hf_1385, (ok_1340.up (i := 6) (by decide) (fun q1 q2 => absurd (And.intro q1 q2) (by decide)) (fun k9 q1 q2 q3 => by simp only [Int32.reduceToInt] at q3; omega)), rfl⟩
                  have hf_1391 := (hk_1386 a_0 (ne_kd e_1358 hf_1357 rfl)).trans e_1358
                  have fr_1392 := FR.w hk_1386 hf_1357 (k := 2176) rfl
                  have ln6_1393 := FOK.n6 ag_1345.1 eg_1390
                  have ln6_1393_t : (g_1387 6).toInt = v_1381.toInt := congrArg Int32.toInt ln6_1393.2
                  have fe_1394 : fld (f_1384 a_0) 12 = (v_1371 : Int32).toInt := by rw [hf_1391]; rfl
                  have fe_1395 : fld (f_1384 a_0) 8 = (v_1364 : Int32).toInt := by rw [hf_1391]; rfl
                  have fe_1396 : fld (f_1384 a_0) 12 = (v_1371 : Int32).toInt := by rw [hf_1391]; rfl
                  have fe_1397 : fld (f_1384 a_0) 20 = (v_1375 : Int32).toInt := by rw [hf_1391]; rfl
                  exact hR _ _ _ _ _ _ dX12_readLoss_273 (Nat.le_of_ble_eq_true rfl) (Nat.le_of_ble_eq_true rfl) ⟨rfl, hW_1388, (((((((((hF_95.tr hF_1197).tr fr_1239).tr hF_1253).tr fr_1289).tr hF_1308).tr fr_1343).tr hF_1353).tr fr_1392).mono rfl), ⟨_, hf_1385, ln6_1393.1, (by omega), (by rw [fe_1394]; by_cases q9 : v_1371.toInt = 0; exact .inr (LO.fin hLO ag_1345 eg_1390 (by omega) (by omega) (fun q8 => by omega)); exact .inl q9)⟩, (by simp only [fe_1395, fe_1396, mz_43, mz_44, true_and, and_true, or_true, true_or, false_or, or_false, false_and, and_false, not_true_eq_false, not_false_eq_true] <;> first | omega | (simp only [Int32.lt_iff_toInt_lt, Int32.le_iff_toInt_le, Int32.reduceToInt, ← Int32.toInt_inj, true_and, and_true, or_true, true_or, false_or, or_false, false_and, and_false, not_true_eq_false, not_false_eq_true] <;> omega)), (by simp only [fe_1397, mz_45, true_and, and_true, or_true, true_or, false_or, or_false, false_and, and_false, not_true_eq_false, not_false_eq_true] <;> first | omega | (simp only [Int32.lt_iff_toInt_lt, Int32.le_iff_toInt_le, Int32.reduceToInt, ← Int32.toInt_inj, true_and, and_true, or_true, true_or, false_or, or_false, false_and, and_false, not_true_eq_false, not_false_eq_true] <;> omega))⟩
                · simp only [Int32.lt_iff_toInt_lt, Int32.le_iff_toInt_le, Int32.reduceToInt, ← Int32.toInt_inj] at h_1230
                  refine v_aload_n hC dX12_readLoss_131 rfl ?_
                  refine v_vv hC (rest := []) m_1 e_1200 rfl mi_X12_advance ms_X12_advance (p_X12_advance hW_1196 k_0) mx_X12_advance ml_X12_156 (by decide) rfl (cells1 := 0) (slots1 := 0) (by decide) (by decide) (Nat.le_of_ble_eq_true rfl) (Nat.le_of_ble_eq_true rfl) rfl (Nat.le_of_ble_eq_true rfl) dX12_readLoss_132 (fun L_1399 f_1400 h_1401 => ?_)
                  obtain ⟨rfl, hW_1405, hF_1406, x_1402, x_1403, x_1404, -⟩ := h_1401
                  have fe_1407 : fld (f_1192 a_0) 8 = (v_1206 : Int32).toInt := by rw [e_1200]; rfl
                  have fe_1408 : fld (f_1192 a_0) 12 = (v_1213 : Int32).toInt := by rw [e_1200]; rfl
                  have hf_1409 := hF_1406.at hf_1199 rfl
                  obtain ⟨v_1411, v_1412, v_1414, v_1416, v_1418, v_1420, v_1422, v_1423, v_1424, v_1425, v_1427, e_1410, b_1413, b_1415, b_1417, b_1419, b_1421, b_1426, b_1428⟩ := hW_1405.at m_1 t_2
                  have fe_1429 : fld (f_1400 a_0) 8 = (v_1416 : Int32).toInt := by rw [e_1410]; rfl
                  have fe_1430 : fld (f_1400 a_0) 9 = (v_1418 : Int32).toInt := by rw [e_1410]; rfl
                  have fe_1431 : fld (f_1400 a_0) 10 = (v_1420 : Int32).toInt := by rw [e_1410]; rfl
                  have fe_1432 : fld (f_1400 a_0) 12 = (v_1423 : Int32).toInt := by rw [e_1410]; rfl
                  rw [fe_1407, fe_1430, fe_1429] at x_1402
                  rw [fe_1431, fe_1430, fe_1429] at x_1403
                  rw [fe_1432, fe_1408] at x_1404
                  clear fe_1407 fe_1408 fe_1429 fe_1430 fe_1431 fe_1432
                  refine v_aload_n hC dX12_readLoss_135 rfl ?_
                  refine v_get hC fl_X12_34 m_1 e_1410 rfl dX12_readLoss_136 ?_
                  refine v_iload_n hC dX12_readLoss_139 rfl ?_
                  refine v_iload_n hC dX12_readLoss_140 rfl ?_
                  refine v_if_eq_t hC dX12_readLoss_141 (tgt := 148) (by decide) (by first | omega | (simp only [Int32.lt_iff_toInt_lt, Int32.le_iff_toInt_le, Int32.reduceToInt, ← Int32.toInt_inj, true_and, and_true, or_true, true_or, false_or, or_false, false_and, and_false, not_true_eq_false, not_false_eq_true] <;> omega)) ?_
                  refine v_iconst hC dX12_readLoss_148 (v := 0) (by decide) ?_
                  refine v_iast hC m_22 hf_1409 (vp_in_iff.mpr (by first | omega | (simp only [Int32.lt_iff_toInt_lt, Int32.le_iff_toInt_le, Int32.reduceToInt, ← Int32.toInt_inj, true_and, and_true, or_true, true_or, false_or, or_false, false_and, and_false, not_true_eq_false, not_false_eq_true] <;> omega))) dX12_readLoss_149 (fun f_1433 hf_1434 hk_1435 => ?_)
                  have hW_1437 := hW_1405.up hf_1434 hk_1435 t_23 ⟨_, rfl, (o_f.up (by first | omega | (simp only [Int32.lt_iff_toInt_lt, Int32.le_iff_toInt_le, Int32.reduceToInt, ← Int32.toInt_inj, true_and, and_true, or_true, true_or, false_or, or_false, false_and, and_false, not_true_eq_false, not_false_eq_true] <;> omega)) (fun q1 q2 => (by first | omega | (simp only [Int32.lt_iff_toInt_lt, Int32.le_iff_toInt_le, Int32.reduceToInt, ← Int32.toInt_inj] at *; omega))) (fun k9 q1 q2 q3 => (by first | omega | (simp only [Int32.lt_iff_toInt_lt, Int32.le_iff_toInt_le, Int32.reduceToInt, ← Int32.toInt_inj] at *; omega))))⟩
                  obtain ⟨g_1436, hf_1434, ok_1438, eg_1439⟩ : ∃ g9, f_1433 (q 14) = aI E 2076 g9 ∧ FOK g9 ∧ g9 = upd g_f (v_49 : Int32).toNatClampNeg 0 := ⟨_, hf_1434, (o_f.up (by first | omega | (simp only [Int32.lt_iff_toInt_lt, Int32.le_iff_toInt_le, Int32.reduceToInt, ← Int32.toInt_inj, true_and, and_true, or_true, true_or, false_or, or_false, false_and, and_false, not_true_eq_false, not_false_eq_true] <;> omega)) (fun q1 q2 => (by first | omega | (simp only [Int32.lt_iff_toInt_lt, Int32.le_iff_toInt_le, Int32.reduceToInt, ← Int32.toInt_inj] at *; omega))) (fun k9 q1 q2 q3 => (by first | omega | (simp only [Int32.lt_iff_toInt_lt, Int32.le_iff_toInt_le, Int32.reduceToInt, ← Int32.toInt_inj] at *; omega)))), rfl⟩
                  have hf_1440 := (hk_1435 a_0 (ne_kd e_1410 hf_1409 rfl)).trans e_1410
                  have fr_1441 := FR.w hk_1435 hf_1409 (k := 2176) rfl
                  have lk_1442 := lk_at (g0 := g_f) eg_1439 (by omega) (by omega)
                  have ag_1443 := (AG.rf o_f).st eg_1439 (by omega) (by omega)
                  try simp only [Int32.reduceToInt] at lk_1442
                  refine v_aload_n hC dX12_readLoss_150 rfl ?_
                  refine v_get hC fl_X12_34 m_1 hf_1440 rfl dX12_readLoss_151 ?_
                  refine v_iload_n hC dX12_readLoss_154 rfl ?_
                  refine v_iconst hC dX12_readLoss_155 (v := 1) (by decide) ?_
                  obtain ⟨v_1444, h_1445⟩ : ∃ v9 : Int32, v_49 + 1 = v9 := ⟨_, rfl⟩
                  refine v_iadd hC dX12_readLoss_156 h_1445 ?_
                  have h_1446 := add_v h_1445 (by first | omega | (simp only [Int32.lt_iff_toInt_lt, Int32.le_iff_toInt_le, Int32.reduceToInt, ← Int32.toInt_inj, true_and, and_true, or_true, true_or, false_or, or_false, false_and, and_false, not_true_eq_false, not_false_eq_true] <;> omega)) (by first | omega | (simp only [Int32.lt_iff_toInt_lt, Int32.le_iff_toInt_le, Int32.reduceToInt, ← Int32.toInt_inj, true_and, and_true, or_true, true_or, false_or, or_false, false_and, and_false, not_true_eq_false, not_false_eq_true] <;> omega))
                  try simp only [Int32.reduceToInt] at h_1446
                  refine v_aload_n hC dX12_readLoss_157 rfl ?_
                  refine v_iconst hC dX12_readLoss_158 (v := 0) (by decide) ?_
                  refine v_bipush hC dX12_readLoss_159 (v := 15) (by decide) ?_
                  refine v_vi hC (rest := [.int v_1444, .ref (q 14)]) m_1 hf_1440 rfl mi_X12_number ms_X12_number (p_X12_number hW_1437 k_0) mx_X12_number ml_X12_170 (by decide) rfl (cells1 := 0) (slots1 := 0) (by decide) (by decide) (Nat.le_of_ble_eq_true rfl) (Nat.le_of_ble_eq_true rfl) rfl (Nat.le_of_ble_eq_true rfl) dX12_readLoss_161 (fun r_1447 L_1448 f_1449 h_1450 => ?_)
                  obtain ⟨rfl, hW_1454, hF_1455, x_1451, x_1452, x_1453, -, -⟩ := h_1450
                  have fe_1456 : fld (f_1433 a_0) 8 = (v_1416 : Int32).toInt := by rw [hf_1440]; rfl
                  have fe_1457 : fld (f_1433 a_0) 10 = (v_1420 : Int32).toInt := by rw [hf_1440]; rfl
                  have fe_1458 : fld (f_1433 a_0) 12 = (v_1423 : Int32).toInt := by rw [hf_1440]; rfl
                  have hf_1459 := hF_1455.at hf_1434 rfl
                  obtain ⟨v_1461, v_1462, v_1464, v_1466, v_1468, v_1470, v_1472, v_1473, v_1474, v_1475, v_1477, e_1460, b_1463, b_1465, b_1467, b_1469, b_1471, b_1476, b_1478⟩ := hW_1454.at m_1 t_2
                  have fe_1479 : fld (f_1449 a_0) 8 = (v_1466 : Int32).toInt := by rw [e_1460]; rfl
                  have fe_1480 : fld (f_1449 a_0) 9 = (v_1468 : Int32).toInt := by rw [e_1460]; rfl
                  have fe_1481 : fld (f_1449 a_0) 10 = (v_1470 : Int32).toInt := by rw [e_1460]; rfl
                  have fe_1482 : fld (f_1449 a_0) 12 = (v_1473 : Int32).toInt := by rw [e_1460]; rfl
                  rw [fe_1482, fe_1458] at x_1451
                  rw [fe_1482, fe_1457, fe_1456, fe_1480, fe_1479] at x_1452
                  rw [fe_1482, fe_1481, fe_1480, fe_1479] at x_1453
                  clear fe_1456 fe_1457 fe_1458 fe_1479 fe_1480 fe_1481 fe_1482
                  try simp only [Int32.reduceToInt, Int64.reduceToInt] at x_1451
                  try simp only [Int32.reduceToInt, Int64.reduceToInt] at x_1452
                  try simp only [Int32.reduceToInt, Int64.reduceToInt] at x_1453
                  refine v_iast hC m_22 hf_1459 (vp_in_iff.mpr (by first | omega | (simp only [Int32.lt_iff_toInt_lt, Int32.le_iff_toInt_le, Int32.reduceToInt, ← Int32.toInt_inj, true_and, and_true, or_true, true_or, false_or, or_false, false_and, and_false, not_true_eq_false, not_false_eq_true] <;> omega))) dX12_readLoss_164 (fun f_1483 hf_1484 hk_1485 => ?_)
                  have hW_1487 := hW_1454.up hf_1484 hk_1485 t_23 ⟨_, rfl, (ok_1438.up (by first | omega | (simp only [Int32.lt_iff_toInt_lt, Int32.le_iff_toInt_le, Int32.reduceToInt, ← Int32.toInt_inj, true_and, and_true, or_true, true_or, false_or, or_false, false_and, and_false, not_true_eq_false, not_false_eq_true] <;> omega)) (fun q1 q2 => (by first | omega | (simp only [Int32.lt_iff_toInt_lt, Int32.le_iff_toInt_le, Int32.reduceToInt, ← Int32.toInt_inj] at *; omega))) (fun k9 q1 q2 q3 => (by first | omega | (simp only [Int32.lt_iff_toInt_lt, Int32.le_iff_toInt_le, Int32.reduceToInt, ← Int32.toInt_inj] at *; omega))))⟩
                  obtain ⟨g_1486, hf_1484, ok_1488, eg_1489⟩ : ∃ g9, f_1483 (q 14) = aI E 2076 g9 ∧ FOK g9 ∧ g9 = upd g_1436 (v_1444 : Int32).toNatClampNeg r_1447 := ⟨_, hf_1484, (ok_1438.up (by first | omega | (simp only [Int32.lt_iff_toInt_lt, Int32.le_iff_toInt_le, Int32.reduceToInt, ← Int32.toInt_inj, true_and, and_true, or_true, true_or, false_or, or_false, false_and, and_false, not_true_eq_false, not_false_eq_true] <;> omega)) (fun q1 q2 => (by first | omega | (simp only [Int32.lt_iff_toInt_lt, Int32.le_iff_toInt_le, Int32.reduceToInt, ← Int32.toInt_inj] at *; omega))) (fun k9 q1 q2 q3 => (by first | omega | (simp only [Int32.lt_iff_toInt_lt, Int32.le_iff_toInt_le, Int32.reduceToInt, ← Int32.toInt_inj] at *; omega)))), rfl⟩
                  have hf_1490 := (hk_1485 a_0 (ne_kd e_1460 hf_1459 rfl)).trans e_1460
                  have fr_1491 := FR.w hk_1485 hf_1459 (k := 2176) rfl
                  have lk_1492 := lf_at (g0 := g_f) eg_1489 (by omega) (by omega)
                  have ag_1493 := ag_1443.st eg_1489 (by omega) (by omega)
                  try simp only [Int32.reduceToInt] at lk_1492
                  refine v_aload_n hC dX12_readLoss_165 rfl ?_
                  refine v_get hC fl_X12_34 m_1 hf_1490 rfl dX12_readLoss_166 ?_
                  refine v_iload_n hC dX12_readLoss_169 rfl ?_
                  refine v_iconst hC dX12_readLoss_170 (v := 2) (by decide) ?_
                  obtain ⟨v_1494, h_1495⟩ : ∃ v9 : Int32, v_49 + 2 = v9 := ⟨_, rfl⟩
                  refine v_iadd hC dX12_readLoss_171 h_1495 ?_
                  have h_1496 := add_v h_1495 (by first | omega | (simp only [Int32.lt_iff_toInt_lt, Int32.le_iff_toInt_le, Int32.reduceToInt, ← Int32.toInt_inj, true_and, and_true, or_true, true_or, false_or, or_false, false_and, and_false, not_true_eq_false, not_false_eq_true] <;> omega)) (by first | omega | (simp only [Int32.lt_iff_toInt_lt, Int32.le_iff_toInt_le, Int32.reduceToInt, ← Int32.toInt_inj, true_and, and_true, or_true, true_or, false_or, or_false, false_and, and_false, not_true_eq_false, not_false_eq_true] <;> omega))
                  try simp only [Int32.reduceToInt] at h_1496
                  refine v_aload_n hC dX12_readLoss_172 rfl ?_
                  refine v_ldcwS hC sr_X12_295 dX12_readLoss_173 ?_
                  refine v_aload_n hC dX12_readLoss_176 rfl ?_
                  refine v_get hC fl_X12_34 m_1 hf_1490 rfl dX12_readLoss_177 ?_
                  refine v_iload_n hC dX12_readLoss_180 rfl ?_
                  refine v_iconst hC dX12_readLoss_181 (v := 1) (by decide) ?_
                  obtain ⟨v_1497, h_1498⟩ : ∃ v9 : Int32, v_49 + 1 = v9 := ⟨_, rfl⟩
                  refine v_iadd hC dX12_readLoss_182 h_1498 ?_
                  have h_1499 := add_v h_1498 (by first | omega | (simp only [Int32.lt_iff_toInt_lt, Int32.le_iff_toInt_le, Int32.reduceToInt, ← Int32.toInt_inj, true_and, and_true, or_true, true_or, false_or, or_false, false_and, and_false, not_true_eq_false, not_false_eq_true] <;> omega)) (by first | omega | (simp only [Int32.lt_iff_toInt_lt, Int32.le_iff_toInt_le, Int32.reduceToInt, ← Int32.toInt_inj, true_and, and_true, or_true, true_or, false_or, or_false, false_and, and_false, not_true_eq_false, not_false_eq_true] <;> omega))
                  try simp only [Int32.reduceToInt] at h_1499
                  obtain ⟨v_1500, h_1501⟩ : ∃ v9 : Int32, g_1486 (v_1497 : Int32).toNatClampNeg = v9 := ⟨_, rfl⟩
                  refine v_iald hC m_22 hf_1484 (vp_in_iff.mpr (by first | omega | (simp only [Int32.lt_iff_toInt_lt, Int32.le_iff_toInt_le, Int32.reduceToInt, ← Int32.toInt_inj, true_and, and_true, or_true, true_or, false_or, or_false, false_and, and_false, not_true_eq_false, not_false_eq_true] <;> omega))) h_1501 dX12_readLoss_183 ?_
                  refine v_bipush hC dX12_readLoss_184 (v := 15) (by decide) ?_
                  refine v_vi hC (rest := [.int v_1494, .ref (q 14)]) m_1 hf_1490 rfl mi_X12_told ms_X12_told (p_X12_told hW_1487 k_0 (by decide)) mx_X12_told ml_X12_189 (by decide) rfl (cells1 := 0) (slots1 := 0) (by decide) (by decide) (Nat.le_of_ble_eq_true rfl) (Nat.le_of_ble_eq_true rfl) rfl (Nat.le_of_ble_eq_true rfl) dX12_readLoss_186 (fun r_1502 L_1503 f_1504 h_1505 => ?_)
                  obtain ⟨rfl, hW_1509, hF_1510, x_1506, x_1507, x_1508, -, -⟩ := h_1505
                  have fe_1511 : fld (f_1483 a_0) 8 = (v_1466 : Int32).toInt := by rw [hf_1490]; rfl
                  have fe_1512 : fld (f_1483 a_0) 12 = (v_1473 : Int32).toInt := by rw [hf_1490]; rfl
                  have hf_1513 := hF_1510.at hf_1484 rfl
                  obtain ⟨v_1515, v_1516, v_1518, v_1520, v_1522, v_1524, v_1526, v_1527, v_1528, v_1529, v_1531, e_1514, b_1517, b_1519, b_1521, b_1523, b_1525, b_1530, b_1532⟩ := hW_1509.at m_1 t_2
                  have fe_1533 : fld (f_1504 a_0) 8 = (v_1520 : Int32).toInt := by rw [e_1514]; rfl
                  have fe_1534 : fld (f_1504 a_0) 9 = (v_1522 : Int32).toInt := by rw [e_1514]; rfl
                  have fe_1535 : fld (f_1504 a_0) 10 = (v_1524 : Int32).toInt := by rw [e_1514]; rfl
                  have fe_1536 : fld (f_1504 a_0) 12 = (v_1527 : Int32).toInt := by rw [e_1514]; rfl
                  rw [fe_1536, fe_1512] at x_1506
                  rw [fe_1536, fe_1511, fe_1534, fe_1533] at x_1507
                  rw [fe_1536, fe_1535, fe_1534, fe_1533] at x_1508
                  clear fe_1511 fe_1512 fe_1533 fe_1534 fe_1535 fe_1536
                  try simp only [Int32.reduceToInt, Int64.reduceToInt] at x_1506
                  try simp only [Int32.reduceToInt, Int64.reduceToInt] at x_1507
                  try simp only [Int32.reduceToInt, Int64.reduceToInt] at x_1508
                  refine v_iast hC m_22 hf_1513 (vp_in_iff.mpr (by first | omega | (simp only [Int32.lt_iff_toInt_lt, Int32.le_iff_toInt_le, Int32.reduceToInt, ← Int32.toInt_inj, true_and, and_true, or_true, true_or, false_or, or_false, false_and, and_false, not_true_eq_false, not_false_eq_true] <;> omega))) dX12_readLoss_189 (fun f_1537 hf_1538 hk_1539 => ?_)
                  have hW_1541 := hW_1509.up hf_1538 hk_1539 t_23 ⟨_, rfl, (ok_1488.up (by first | omega | (simp only [Int32.lt_iff_toInt_lt, Int32.le_iff_toInt_le, Int32.reduceToInt, ← Int32.toInt_inj, true_and, and_true, or_true, true_or, false_or, or_false, false_and, and_false, not_true_eq_false, not_false_eq_true] <;> omega)) (fun q1 q2 => (by first | omega | (simp only [Int32.lt_iff_toInt_lt, Int32.le_iff_toInt_le, Int32.reduceToInt, ← Int32.toInt_inj] at *; omega))) (fun k9 q1 q2 q3 => (by first | omega | (simp only [Int32.lt_iff_toInt_lt, Int32.le_iff_toInt_le, Int32.reduceToInt, ← Int32.toInt_inj] at *; omega))))⟩
                  obtain ⟨g_1540, hf_1538, ok_1542, eg_1543⟩ : ∃ g9, f_1537 (q 14) = aI E 2076 g9 ∧ FOK g9 ∧ g9 = upd g_1486 (v_1494 : Int32).toNatClampNeg r_1502 := ⟨_, hf_1538, (ok_1488.up (by first | omega | (simp only [Int32.lt_iff_toInt_lt, Int32.le_iff_toInt_le, Int32.reduceToInt, ← Int32.toInt_inj, true_and, and_true, or_true, true_or, false_or, or_false, false_and, and_false, not_true_eq_false, not_false_eq_true] <;> omega)) (fun q1 q2 => (by first | omega | (simp only [Int32.lt_iff_toInt_lt, Int32.le_iff_toInt_le, Int32.reduceToInt, ← Int32.toInt_inj] at *; omega))) (fun k9 q1 q2 q3 => (by first | omega | (simp only [Int32.lt_iff_toInt_lt, Int32.le_iff_toInt_le, Int32.reduceToInt, ← Int32.toInt_inj] at *; omega)))), rfl⟩
                  have hf_1544 := (hk_1539 a_0 (ne_kd e_1514 hf_1513 rfl)).trans e_1514
                  have fr_1545 := FR.w hk_1539 hf_1513 (k := 2176) rfl
                  have lk_1546 := l2_at (g0 := g_f) eg_1543 (by omega) (by omega)
                  have ag_1547 := ag_1493.st eg_1543 (by omega) (by omega)
                  try simp only [Int32.reduceToInt] at lk_1546
                  refine v_goto hC dX12_readLoss_190 (tgt := 258) (by decide) ?_
                  refine v_aload_n hC dX12_readLoss_258 rfl ?_
                  refine v_vv hC (rest := []) m_1 hf_1544 rfl mi_X12_ends ms_X12_ends (p_X12_ends hW_1541 k_0) mx_X12_ends ml_X12_178 (by decide) rfl (cells1 := 0) (slots1 := 0) (by decide) (by decide) (Nat.le_of_ble_eq_true rfl) (Nat.le_of_ble_eq_true rfl) rfl (Nat.le_of_ble_eq_true rfl) dX12_readLoss_259 (fun L_1549 f_1550 h_1551 => ?_)
                  obtain ⟨rfl, hW_1554, hF_1555, x_1552, x_1553, -, -⟩ := h_1551
                  have fe_1556 : fld (f_1537 a_0) 8 = (v_1520 : Int32).toInt := by rw [hf_1544]; rfl
                  have fe_1557 : fld (f_1537 a_0) 10 = (v_1524 : Int32).toInt := by rw [hf_1544]; rfl
                  have fe_1558 : fld (f_1537 a_0) 12 = (v_1527 : Int32).toInt := by rw [hf_1544]; rfl
                  have hf_1559 := hF_1555.at hf_1538 rfl
                  obtain ⟨v_1561, v_1562, v_1564, v_1566, v_1568, v_1570, v_1572, v_1573, v_1574, v_1575, v_1577, e_1560, b_1563, b_1565, b_1567, b_1569, b_1571, b_1576, b_1578⟩ := hW_1554.at m_1 t_2
                  have fe_1579 : fld (f_1550 a_0) 8 = (v_1566 : Int32).toInt := by rw [e_1560]; rfl
                  have fe_1580 : fld (f_1550 a_0) 9 = (v_1568 : Int32).toInt := by rw [e_1560]; rfl
                  have fe_1581 : fld (f_1550 a_0) 12 = (v_1573 : Int32).toInt := by rw [e_1560]; rfl
                  rw [fe_1581, fe_1558] at x_1552
                  rw [fe_1581, fe_1557, fe_1556, fe_1580, fe_1579] at x_1553
                  clear fe_1556 fe_1557 fe_1558 fe_1579 fe_1580 fe_1581
                  refine v_aload_n hC dX12_readLoss_262 rfl ?_
                  refine v_get hC fl_X12_34 m_1 e_1560 rfl dX12_readLoss_263 ?_
                  refine v_bipush hC dX12_readLoss_266 (v := 6) (by decide) ?_
                  refine v_dup2 hC dX12_readLoss_268 rfl rfl ?_
                  have l6_1582 : (g_1540 6).toInt = (g_f 6).toInt := congrArg Int32.toInt ag_1547.2.1
                  refine v_iald hC m_22 hf_1559 (vp_in_iff.mpr (by decide)) (v := g_1540 6) rfl dX12_readLoss_269 ?_
                  refine v_iconst hC dX12_readLoss_270 (v := 1) (by decide) ?_
                  obtain ⟨v_1583, h_1584⟩ : ∃ v9 : Int32, (g_1540 6) + 1 = v9 := ⟨_, rfl⟩
                  refine v_iadd hC dX12_readLoss_271 h_1584 ?_
                  have h_1585 := add_v h_1584 (by first | omega | (simp only [Int32.lt_iff_toInt_lt, Int32.le_iff_toInt_le, Int32.reduceToInt, ← Int32.toInt_inj, true_and, and_true, or_true, true_or, false_or, or_false, false_and, and_false, not_true_eq_false, not_false_eq_true] <;> omega)) (by first | omega | (simp only [Int32.lt_iff_toInt_lt, Int32.le_iff_toInt_le, Int32.reduceToInt, ← Int32.toInt_inj, true_and, and_true, or_true, true_or, false_or, or_false, false_and, and_false, not_true_eq_false, not_false_eq_true] <;> omega))
                  try simp only [Int32.reduceToInt] at h_1585
                  refine v_iast hC m_22 hf_1559 (vp_in_iff.mpr (by decide)) dX12_readLoss_272 (fun f_1586 hf_1587 hk_1588 => ?_)
                  have hW_1590 := hW_1554.up hf_1587 hk_1588 t_23 ⟨_, rfl, (ok_1542.up (i := 6) (by decide) (fun q1 q2 => absurd (And.intro q1 q2) (by decide)) (fun k9 q1 q2 q3 => by simp only [Int32.reduceToInt] at q3; omega))⟩
                  obtain ⟨g_1589, hf_1587, ok_1591, eg_1592⟩ : ∃ g9, f_1586 (q 14) = aI E 2076 g9 ∧ FOK g9 ∧ g9 = upd g_1540 (6 : Int32).toNatClampNeg v_1583 := ⟨_, hf_1587, (ok_1542.up (i := 6) (by decide) (fun q1 q2 => absurd (And.intro q1 q2) (by decide)) (fun k9 q1 q2 q3 => by simp only [Int32.reduceToInt] at q3; omega)), rfl⟩
                  have hf_1593 := (hk_1588 a_0 (ne_kd e_1560 hf_1559 rfl)).trans e_1560
                  have fr_1594 := FR.w hk_1588 hf_1559 (k := 2176) rfl
                  have ln6_1595 := FOK.n6 ag_1547.1 eg_1592
                  have ln6_1595_t : (g_1589 6).toInt = v_1583.toInt := congrArg Int32.toInt ln6_1595.2
                  have fe_1596 : fld (f_1586 a_0) 12 = (v_1573 : Int32).toInt := by rw [hf_1593]; rfl
                  have fe_1597 : fld (f_1586 a_0) 8 = (v_1566 : Int32).toInt := by rw [hf_1593]; rfl
                  have fe_1598 : fld (f_1586 a_0) 12 = (v_1573 : Int32).toInt := by rw [hf_1593]; rfl
                  have fe_1599 : fld (f_1586 a_0) 20 = (v_1577 : Int32).toInt := by rw [hf_1593]; rfl
                  exact hR _ _ _ _ _ _ dX12_readLoss_273 (Nat.le_of_ble_eq_true rfl) (Nat.le_of_ble_eq_true rfl) ⟨rfl, hW_1590, ((((((((((hF_95.tr hF_1197).tr hF_1406).tr fr_1441).tr hF_1455).tr fr_1491).tr hF_1510).tr fr_1545).tr hF_1555).tr fr_1594).mono rfl), ⟨_, hf_1587, ln6_1595.1, (by omega), (by rw [fe_1596]; by_cases q9 : v_1573.toInt = 0; exact .inr (LO.fin hLO ag_1547 eg_1592 (by omega) (by omega) (fun q8 => by omega)); exact .inl q9)⟩, (by simp only [fe_1597, fe_1598, mz_43, mz_44, true_and, and_true, or_true, true_or, false_or, or_false, false_and, and_false, not_true_eq_false, not_false_eq_true] <;> first | omega | (simp only [Int32.lt_iff_toInt_lt, Int32.le_iff_toInt_le, Int32.reduceToInt, ← Int32.toInt_inj, true_and, and_true, or_true, true_or, false_or, or_false, false_and, and_false, not_true_eq_false, not_false_eq_true] <;> omega)), (by simp only [fe_1599, mz_45, true_and, and_true, or_true, true_or, false_or, or_false, false_and, and_false, not_true_eq_false, not_false_eq_true] <;> first | omega | (simp only [Int32.lt_iff_toInt_lt, Int32.le_iff_toInt_le, Int32.reduceToInt, ← Int32.toInt_inj, true_and, and_true, or_true, true_or, false_or, or_false, false_and, and_false, not_true_eq_false, not_false_eq_true] <;> omega))⟩
        · simp only [Int32.lt_iff_toInt_lt, Int32.le_iff_toInt_le, Int32.reduceToInt, ← Int32.toInt_inj] at h_87
          have fe_1600 : fld (f a_0) 12 = (v_37 : Int32).toInt := by rw [e_24]; rfl
          have fe_1601 : fld (f a_0) 8 = (v_30 : Int32).toInt := by rw [e_24]; rfl
          have fe_1602 : fld (f a_0) 12 = (v_37 : Int32).toInt := by rw [e_24]; rfl
          have fe_1603 : fld (f a_0) 20 = (v_41 : Int32).toInt := by rw [e_24]; rfl
          exact hR _ _ _ _ _ _ dX12_readLoss_87 (Nat.le_of_ble_eq_true rfl) (Nat.le_of_ble_eq_true rfl) ⟨rfl, hW, FR.rf, ⟨_, e_f, (AG.rf o_f).1, (by omega), (by rw [fe_1600]; left; omega)⟩, (by simp only [fe_1601, fe_1602, mz_43, mz_44, true_and, and_true, or_true, true_or, false_or, or_false, false_and, and_false, not_true_eq_false, not_false_eq_true] <;> first | omega | (simp only [Int32.lt_iff_toInt_lt, Int32.le_iff_toInt_le, Int32.reduceToInt, ← Int32.toInt_inj, true_and, and_true, or_true, true_or, false_or, or_false, false_and, and_false, not_true_eq_false, not_false_eq_true] <;> omega)), (by simp only [fe_1603, mz_45, true_and, and_true, or_true, true_or, false_or, or_false, false_and, and_false, not_true_eq_false, not_false_eq_true] <;> first | omega | (simp only [Int32.lt_iff_toInt_lt, Int32.le_iff_toInt_le, Int32.reduceToInt, ← Int32.toInt_inj, true_and, and_true, or_true, true_or, false_or, or_false, false_and, and_false, not_true_eq_false, not_false_eq_true] <;> omega))⟩
      · simp only [Int32.lt_iff_toInt_lt, Int32.le_iff_toInt_le, Int32.reduceToInt, ← Int32.toInt_inj] at h_77
        refine v_aload_n hC dX12_readLoss_75 rfl ?_
        refine v_iconst hC dX12_readLoss_76 (v := 3) (by decide) ?_
        refine v_vv hC (rest := []) m_1 e_24 rfl mi_X12_errs ms_X12_errs (p_X12_errs hW k_0 (by decide)) mx_X12_errs ml_X12_162 (by decide) rfl (cells1 := 0) (slots1 := 0) (by decide) (by decide) (Nat.le_of_ble_eq_true rfl) (Nat.le_of_ble_eq_true rfl) rfl (Nat.le_of_ble_eq_true rfl) dX12_readLoss_77 (fun L_1605 f_1606 h_1607 => ?_)
        obtain ⟨rfl, hW_1610, hF_1611, x_1608, x_1609, -, -, -⟩ := h_1607
        have fe_1612 : fld (f a_0) 8 = (v_30 : Int32).toInt := by rw [e_24]; rfl
        have hf_1613 := hF_1611.at e_f rfl
        obtain ⟨v_1615, v_1616, v_1618, v_1620, v_1622, v_1624, v_1626, v_1627, v_1628, v_1629, v_1631, e_1614, b_1617, b_1619, b_1621, b_1623, b_1625, b_1630, b_1632⟩ := hW_1610.at m_1 t_2
        have fe_1633 : fld (f_1606 a_0) 8 = (v_1620 : Int32).toInt := by rw [e_1614]; rfl
        have fe_1634 : fld (f_1606 a_0) 12 = (v_1627 : Int32).toInt := by rw [e_1614]; rfl
        rw [fe_1634] at x_1608
        rw [fe_1633, fe_1612] at x_1609
        clear fe_1612 fe_1633 fe_1634
        refine v_aload_n hC dX12_readLoss_80 rfl ?_
        refine v_vi hC (rest := []) m_1 e_1614 rfl mi_X12_good ms_X12_good (p_X12_good hW_1610 k_0) mx_X12_good ml_X12_139 (by decide) rfl (cells1 := 0) (slots1 := 0) (by decide) (by decide) (Nat.le_of_ble_eq_true rfl) (Nat.le_of_ble_eq_true rfl) rfl (Nat.le_of_ble_eq_true rfl) dX12_readLoss_81 (fun r_1635 L_1636 f_1637 h_1638 => ?_)
        obtain ⟨rfl, rfl, b_1639, x_1640⟩ := h_1638
        have fe_1643 : fld (f_1606 a_0) 12 = (v_1627 : Int32).toInt := by rw [e_1614]; rfl
        rw [fe_1643] at x_1640
        clear fe_1643
        try simp only [Int32.reduceToInt, Int64.reduceToInt] at x_1640
        refine v_if_ne hC dX12_readLoss_84 (tgt := 88) (by decide) (fun h_1644 => ?_) (fun h_1644 => ?_)
        · simp only [Int32.lt_iff_toInt_lt, Int32.le_iff_toInt_le, Int32.reduceToInt, ← Int32.toInt_inj] at h_1644
          refine v_aload_n hC dX12_readLoss_88 rfl ?_
          refine v_ldcwS hC sr_X12_287 dX12_readLoss_89 ?_
          refine v_vi hC (rest := []) m_1 e_1614 rfl mi_X12_takes ms_X12_takes (p_X12_takes hW_1610 k_0 (by decide)) mx_X12_takes ml_X12_159 (by decide) rfl (cells1 := 0) (slots1 := 0) (by decide) (by decide) (Nat.le_of_ble_eq_true rfl) (Nat.le_of_ble_eq_true rfl) rfl (Nat.le_of_ble_eq_true rfl) dX12_readLoss_92 (fun r_1645 L_1646 f_1647 h_1648 => ?_)
          obtain ⟨rfl, hW_1651, hF_1652, rfl, x_1649, -, x_1650, -⟩ := h_1648
          have fe_1653 : fld (f_1606 a_0) 8 = (v_1620 : Int32).toInt := by rw [e_1614]; rfl
          have fe_1654 : fld (f_1606 a_0) 12 = (v_1627 : Int32).toInt := by rw [e_1614]; rfl
          have hf_1655 := hF_1652.at hf_1613 rfl
          obtain ⟨v_1657, v_1658, v_1660, v_1662, v_1664, v_1666, v_1668, v_1669, v_1670, v_1671, v_1673, e_1656, b_1659, b_1661, b_1663, b_1665, b_1667, b_1672, b_1674⟩ := hW_1651.at m_1 t_2
          have fe_1675 : fld (f_1647 a_0) 8 = (v_1662 : Int32).toInt := by rw [e_1656]; rfl
          have fe_1676 : fld (f_1647 a_0) 9 = (v_1664 : Int32).toInt := by rw [e_1656]; rfl
          have fe_1677 : fld (f_1647 a_0) 10 = (v_1666 : Int32).toInt := by rw [e_1656]; rfl
          have fe_1678 : fld (f_1647 a_0) 12 = (v_1669 : Int32).toInt := by rw [e_1656]; rfl
          rw [fe_1653, fe_1676, fe_1675, fe_1677] at x_1649
          rw [fe_1678, fe_1654] at x_1650
          clear fe_1653 fe_1654 fe_1675 fe_1676 fe_1677 fe_1678
          try simp only [Int32.reduceToInt, Int64.reduceToInt] at x_1649
          try simp only [Int32.reduceToInt, Int64.reduceToInt] at x_1650
          refine v_if_eq hC dX12_readLoss_95 (tgt := 193) (by decide) (fun h_1679 => ?_) (fun h_1679 => ?_)
          · simp only [Int32.lt_iff_toInt_lt, Int32.le_iff_toInt_le, Int32.reduceToInt, ← Int32.toInt_inj] at h_1679
            refine v_aload_n hC dX12_readLoss_193 rfl ?_
            refine v_ldcwS hC sr_X12_289 dX12_readLoss_194 ?_
            refine v_vi hC (rest := []) m_1 e_1656 rfl mi_X12_takes ms_X12_takes (p_X12_takes hW_1651 k_0 (by decide)) mx_X12_takes ml_X12_159 (by decide) rfl (cells1 := 0) (slots1 := 0) (by decide) (by decide) (Nat.le_of_ble_eq_true rfl) (Nat.le_of_ble_eq_true rfl) rfl (Nat.le_of_ble_eq_true rfl) dX12_readLoss_197 (fun r_1680 L_1681 f_1682 h_1683 => ?_)
            obtain ⟨rfl, hW_1686, hF_1687, rfl, x_1684, -, x_1685, -⟩ := h_1683
            have fe_1688 : fld (f_1647 a_0) 8 = (v_1662 : Int32).toInt := by rw [e_1656]; rfl
            have fe_1689 : fld (f_1647 a_0) 12 = (v_1669 : Int32).toInt := by rw [e_1656]; rfl
            have hf_1690 := hF_1687.at hf_1655 rfl
            obtain ⟨v_1692, v_1693, v_1695, v_1697, v_1699, v_1701, v_1703, v_1704, v_1705, v_1706, v_1708, e_1691, b_1694, b_1696, b_1698, b_1700, b_1702, b_1707, b_1709⟩ := hW_1686.at m_1 t_2
            have fe_1710 : fld (f_1682 a_0) 8 = (v_1697 : Int32).toInt := by rw [e_1691]; rfl
            have fe_1711 : fld (f_1682 a_0) 9 = (v_1699 : Int32).toInt := by rw [e_1691]; rfl
            have fe_1712 : fld (f_1682 a_0) 10 = (v_1701 : Int32).toInt := by rw [e_1691]; rfl
            have fe_1713 : fld (f_1682 a_0) 12 = (v_1704 : Int32).toInt := by rw [e_1691]; rfl
            rw [fe_1688, fe_1711, fe_1710, fe_1712] at x_1684
            rw [fe_1713, fe_1689] at x_1685
            clear fe_1688 fe_1689 fe_1710 fe_1711 fe_1712 fe_1713
            try simp only [Int32.reduceToInt, Int64.reduceToInt] at x_1684
            try simp only [Int32.reduceToInt, Int64.reduceToInt] at x_1685
            refine v_if_eq hC dX12_readLoss_200 (tgt := 247) (by decide) (fun h_1714 => ?_) (fun h_1714 => ?_)
            · simp only [Int32.lt_iff_toInt_lt, Int32.le_iff_toInt_le, Int32.reduceToInt, ← Int32.toInt_inj] at h_1714
              refine v_aload_n hC dX12_readLoss_247 rfl ?_
              refine v_vv hC (rest := []) m_1 e_1691 rfl mi_X12_advance ms_X12_advance (p_X12_advance hW_1686 k_0) mx_X12_advance ml_X12_156 (by decide) rfl (cells1 := 0) (slots1 := 0) (by decide) (by decide) (Nat.le_of_ble_eq_true rfl) (Nat.le_of_ble_eq_true rfl) rfl (Nat.le_of_ble_eq_true rfl) dX12_readLoss_248 (fun L_1716 f_1717 h_1718 => ?_)
              obtain ⟨rfl, hW_1722, hF_1723, x_1719, x_1720, x_1721, -⟩ := h_1718
              have fe_1724 : fld (f_1682 a_0) 8 = (v_1697 : Int32).toInt := by rw [e_1691]; rfl
              have fe_1725 : fld (f_1682 a_0) 12 = (v_1704 : Int32).toInt := by rw [e_1691]; rfl
              have hf_1726 := hF_1723.at hf_1690 rfl
              obtain ⟨v_1728, v_1729, v_1731, v_1733, v_1735, v_1737, v_1739, v_1740, v_1741, v_1742, v_1744, e_1727, b_1730, b_1732, b_1734, b_1736, b_1738, b_1743, b_1745⟩ := hW_1722.at m_1 t_2
              have fe_1746 : fld (f_1717 a_0) 8 = (v_1733 : Int32).toInt := by rw [e_1727]; rfl
              have fe_1747 : fld (f_1717 a_0) 9 = (v_1735 : Int32).toInt := by rw [e_1727]; rfl
              have fe_1748 : fld (f_1717 a_0) 10 = (v_1737 : Int32).toInt := by rw [e_1727]; rfl
              have fe_1749 : fld (f_1717 a_0) 12 = (v_1740 : Int32).toInt := by rw [e_1727]; rfl
              rw [fe_1724, fe_1747, fe_1746] at x_1719
              rw [fe_1748, fe_1747, fe_1746] at x_1720
              rw [fe_1749, fe_1725] at x_1721
              clear fe_1724 fe_1725 fe_1746 fe_1747 fe_1748 fe_1749
              refine v_aload_n hC dX12_readLoss_251 rfl ?_
              refine v_get hC fl_X12_34 m_1 e_1727 rfl dX12_readLoss_252 ?_
              refine v_iload_n hC dX12_readLoss_255 rfl ?_
              refine v_iconst hC dX12_readLoss_256 (v := 3) (by decide) ?_
              refine v_iast hC m_22 hf_1726 (vp_in_iff.mpr (by first | omega | (simp only [Int32.lt_iff_toInt_lt, Int32.le_iff_toInt_le, Int32.reduceToInt, ← Int32.toInt_inj, true_and, and_true, or_true, true_or, false_or, or_false, false_and, and_false, not_true_eq_false, not_false_eq_true] <;> omega))) dX12_readLoss_257 (fun f_1750 hf_1751 hk_1752 => ?_)
              have hW_1754 := hW_1722.up hf_1751 hk_1752 t_23 ⟨_, rfl, (o_f.up (by first | omega | (simp only [Int32.lt_iff_toInt_lt, Int32.le_iff_toInt_le, Int32.reduceToInt, ← Int32.toInt_inj, true_and, and_true, or_true, true_or, false_or, or_false, false_and, and_false, not_true_eq_false, not_false_eq_true] <;> omega)) (fun q1 q2 => (by first | omega | (simp only [Int32.lt_iff_toInt_lt, Int32.le_iff_toInt_le, Int32.reduceToInt, ← Int32.toInt_inj] at *; omega))) (fun k9 q1 q2 q3 => (by first | omega | (simp only [Int32.lt_iff_toInt_lt, Int32.le_iff_toInt_le, Int32.reduceToInt, ← Int32.toInt_inj] at *; omega))))⟩
              obtain ⟨g_1753, hf_1751, ok_1755, eg_1756⟩ : ∃ g9, f_1750 (q 14) = aI E 2076 g9 ∧ FOK g9 ∧ g9 = upd g_f (v_49 : Int32).toNatClampNeg 3 := ⟨_, hf_1751, (o_f.up (by first | omega | (simp only [Int32.lt_iff_toInt_lt, Int32.le_iff_toInt_le, Int32.reduceToInt, ← Int32.toInt_inj, true_and, and_true, or_true, true_or, false_or, or_false, false_and, and_false, not_true_eq_false, not_false_eq_true] <;> omega)) (fun q1 q2 => (by first | omega | (simp only [Int32.lt_iff_toInt_lt, Int32.le_iff_toInt_le, Int32.reduceToInt, ← Int32.toInt_inj] at *; omega))) (fun k9 q1 q2 q3 => (by first | omega | (simp only [Int32.lt_iff_toInt_lt, Int32.le_iff_toInt_le, Int32.reduceToInt, ← Int32.toInt_inj] at *; omega)))), rfl⟩
              have hf_1757 := (hk_1752 a_0 (ne_kd e_1727 hf_1726 rfl)).trans e_1727
              have fr_1758 := FR.w hk_1752 hf_1726 (k := 2176) rfl
              have lk_1759 := lk_at (g0 := g_f) eg_1756 (by omega) (by omega)
              have ag_1760 := (AG.rf o_f).st eg_1756 (by omega) (by omega)
              try simp only [Int32.reduceToInt] at lk_1759
              refine v_aload_n hC dX12_readLoss_258 rfl ?_
              refine v_vv hC (rest := []) m_1 hf_1757 rfl mi_X12_ends ms_X12_ends (p_X12_ends hW_1754 k_0) mx_X12_ends ml_X12_178 (by decide) rfl (cells1 := 0) (slots1 := 0) (by decide) (by decide) (Nat.le_of_ble_eq_true rfl) (Nat.le_of_ble_eq_true rfl) rfl (Nat.le_of_ble_eq_true rfl) dX12_readLoss_259 (fun L_1762 f_1763 h_1764 => ?_)
              obtain ⟨rfl, hW_1767, hF_1768, x_1765, x_1766, -, -⟩ := h_1764
              have fe_1769 : fld (f_1750 a_0) 8 = (v_1733 : Int32).toInt := by rw [hf_1757]; rfl
              have fe_1770 : fld (f_1750 a_0) 10 = (v_1737 : Int32).toInt := by rw [hf_1757]; rfl
              have fe_1771 : fld (f_1750 a_0) 12 = (v_1740 : Int32).toInt := by rw [hf_1757]; rfl
              have hf_1772 := hF_1768.at hf_1751 rfl
              obtain ⟨v_1774, v_1775, v_1777, v_1779, v_1781, v_1783, v_1785, v_1786, v_1787, v_1788, v_1790, e_1773, b_1776, b_1778, b_1780, b_1782, b_1784, b_1789, b_1791⟩ := hW_1767.at m_1 t_2
              have fe_1792 : fld (f_1763 a_0) 8 = (v_1779 : Int32).toInt := by rw [e_1773]; rfl
              have fe_1793 : fld (f_1763 a_0) 9 = (v_1781 : Int32).toInt := by rw [e_1773]; rfl
              have fe_1794 : fld (f_1763 a_0) 12 = (v_1786 : Int32).toInt := by rw [e_1773]; rfl
              rw [fe_1794, fe_1771] at x_1765
              rw [fe_1794, fe_1770, fe_1769, fe_1793, fe_1792] at x_1766
              clear fe_1769 fe_1770 fe_1771 fe_1792 fe_1793 fe_1794
              refine v_aload_n hC dX12_readLoss_262 rfl ?_
              refine v_get hC fl_X12_34 m_1 e_1773 rfl dX12_readLoss_263 ?_
              refine v_bipush hC dX12_readLoss_266 (v := 6) (by decide) ?_
              refine v_dup2 hC dX12_readLoss_268 rfl rfl ?_
              have l6_1795 : (g_1753 6).toInt = (g_f 6).toInt := congrArg Int32.toInt ag_1760.2.1
              refine v_iald hC m_22 hf_1772 (vp_in_iff.mpr (by decide)) (v := g_1753 6) rfl dX12_readLoss_269 ?_
              refine v_iconst hC dX12_readLoss_270 (v := 1) (by decide) ?_
              obtain ⟨v_1796, h_1797⟩ : ∃ v9 : Int32, (g_1753 6) + 1 = v9 := ⟨_, rfl⟩
              refine v_iadd hC dX12_readLoss_271 h_1797 ?_
              have h_1798 := add_v h_1797 (by first | omega | (simp only [Int32.lt_iff_toInt_lt, Int32.le_iff_toInt_le, Int32.reduceToInt, ← Int32.toInt_inj, true_and, and_true, or_true, true_or, false_or, or_false, false_and, and_false, not_true_eq_false, not_false_eq_true] <;> omega)) (by first | omega | (simp only [Int32.lt_iff_toInt_lt, Int32.le_iff_toInt_le, Int32.reduceToInt, ← Int32.toInt_inj, true_and, and_true, or_true, true_or, false_or, or_false, false_and, and_false, not_true_eq_false, not_false_eq_true] <;> omega))
              try simp only [Int32.reduceToInt] at h_1798
              refine v_iast hC m_22 hf_1772 (vp_in_iff.mpr (by decide)) dX12_readLoss_272 (fun f_1799 hf_1800 hk_1801 => ?_)
              have hW_1803 := hW_1767.up hf_1800 hk_1801 t_23 ⟨_, rfl, (ok_1755.up (i := 6) (by decide) (fun q1 q2 => absurd (And.intro q1 q2) (by decide)) (fun k9 q1 q2 q3 => by simp only [Int32.reduceToInt] at q3; omega))⟩
              obtain ⟨g_1802, hf_1800, ok_1804, eg_1805⟩ : ∃ g9, f_1799 (q 14) = aI E 2076 g9 ∧ FOK g9 ∧ g9 = upd g_1753 (6 : Int32).toNatClampNeg v_1796 := ⟨_, hf_1800, (ok_1755.up (i := 6) (by decide) (fun q1 q2 => absurd (And.intro q1 q2) (by decide)) (fun k9 q1 q2 q3 => by simp only [Int32.reduceToInt] at q3; omega)), rfl⟩
              have hf_1806 := (hk_1801 a_0 (ne_kd e_1773 hf_1772 rfl)).trans e_1773
              have fr_1807 := FR.w hk_1801 hf_1772 (k := 2176) rfl
              have ln6_1808 := FOK.n6 ag_1760.1 eg_1805
              have ln6_1808_t : (g_1802 6).toInt = v_1796.toInt := congrArg Int32.toInt ln6_1808.2
              have fe_1809 : fld (f_1799 a_0) 12 = (v_1786 : Int32).toInt := by rw [hf_1806]; rfl
              have fe_1810 : fld (f_1799 a_0) 8 = (v_1779 : Int32).toInt := by rw [hf_1806]; rfl
              have fe_1811 : fld (f_1799 a_0) 12 = (v_1786 : Int32).toInt := by rw [hf_1806]; rfl
              have fe_1812 : fld (f_1799 a_0) 20 = (v_1790 : Int32).toInt := by rw [hf_1806]; rfl
              exact hR _ _ _ _ _ _ dX12_readLoss_273 (Nat.le_of_ble_eq_true rfl) (Nat.le_of_ble_eq_true rfl) ⟨rfl, hW_1803, (((((((hF_1611.tr hF_1652).tr hF_1687).tr hF_1723).tr fr_1758).tr hF_1768).tr fr_1807).mono rfl), ⟨_, hf_1800, ln6_1808.1, (by omega), (by rw [fe_1809]; by_cases q9 : v_1786.toInt = 0; exact .inr (LO.fin hLO ag_1760 eg_1805 (by omega) (by omega) (fun q8 => by omega)); exact .inl q9)⟩, (by simp only [fe_1810, fe_1811, mz_43, mz_44, true_and, and_true, or_true, true_or, false_or, or_false, false_and, and_false, not_true_eq_false, not_false_eq_true] <;> first | omega | (simp only [Int32.lt_iff_toInt_lt, Int32.le_iff_toInt_le, Int32.reduceToInt, ← Int32.toInt_inj, true_and, and_true, or_true, true_or, false_or, or_false, false_and, and_false, not_true_eq_false, not_false_eq_true] <;> omega)), (by simp only [fe_1812, mz_45, true_and, and_true, or_true, true_or, false_or, or_false, false_and, and_false, not_true_eq_false, not_false_eq_true] <;> first | omega | (simp only [Int32.lt_iff_toInt_lt, Int32.le_iff_toInt_le, Int32.reduceToInt, ← Int32.toInt_inj, true_and, and_true, or_true, true_or, false_or, or_false, false_and, and_false, not_true_eq_false, not_false_eq_true] <;> omega))⟩
            · simp only [Int32.lt_iff_toInt_lt, Int32.le_iff_toInt_le, Int32.reduceToInt, ← Int32.toInt_inj] at h_1714
              refine v_aload_n hC dX12_readLoss_203 rfl ?_
              refine v_get hC fl_X12_34 m_1 e_1691 rfl dX12_readLoss_204 ?_
              refine v_iload_n hC dX12_readLoss_207 rfl ?_
              refine v_iconst hC dX12_readLoss_208 (v := 2) (by decide) ?_
              refine v_iast hC m_22 hf_1690 (vp_in_iff.mpr (by first | omega | (simp only [Int32.lt_iff_toInt_lt, Int32.le_iff_toInt_le, Int32.reduceToInt, ← Int32.toInt_inj, true_and, and_true, or_true, true_or, false_or, or_false, false_and, and_false, not_true_eq_false, not_false_eq_true] <;> omega))) dX12_readLoss_209 (fun f_1813 hf_1814 hk_1815 => ?_)
              have hW_1817 := hW_1686.up hf_1814 hk_1815 t_23 ⟨_, rfl, (o_f.up (by first | omega | (simp only [Int32.lt_iff_toInt_lt, Int32.le_iff_toInt_le, Int32.reduceToInt, ← Int32.toInt_inj, true_and, and_true, or_true, true_or, false_or, or_false, false_and, and_false, not_true_eq_false, not_false_eq_true] <;> omega)) (fun q1 q2 => (by first | omega | (simp only [Int32.lt_iff_toInt_lt, Int32.le_iff_toInt_le, Int32.reduceToInt, ← Int32.toInt_inj] at *; omega))) (fun k9 q1 q2 q3 => (by first | omega | (simp only [Int32.lt_iff_toInt_lt, Int32.le_iff_toInt_le, Int32.reduceToInt, ← Int32.toInt_inj] at *; omega))))⟩
              obtain ⟨g_1816, hf_1814, ok_1818, eg_1819⟩ : ∃ g9, f_1813 (q 14) = aI E 2076 g9 ∧ FOK g9 ∧ g9 = upd g_f (v_49 : Int32).toNatClampNeg 2 := ⟨_, hf_1814, (o_f.up (by first | omega | (simp only [Int32.lt_iff_toInt_lt, Int32.le_iff_toInt_le, Int32.reduceToInt, ← Int32.toInt_inj, true_and, and_true, or_true, true_or, false_or, or_false, false_and, and_false, not_true_eq_false, not_false_eq_true] <;> omega)) (fun q1 q2 => (by first | omega | (simp only [Int32.lt_iff_toInt_lt, Int32.le_iff_toInt_le, Int32.reduceToInt, ← Int32.toInt_inj] at *; omega))) (fun k9 q1 q2 q3 => (by first | omega | (simp only [Int32.lt_iff_toInt_lt, Int32.le_iff_toInt_le, Int32.reduceToInt, ← Int32.toInt_inj] at *; omega)))), rfl⟩
              have hf_1820 := (hk_1815 a_0 (ne_kd e_1691 hf_1690 rfl)).trans e_1691
              have fr_1821 := FR.w hk_1815 hf_1690 (k := 2176) rfl
              have lk_1822 := lk_at (g0 := g_f) eg_1819 (by omega) (by omega)
              have ag_1823 := (AG.rf o_f).st eg_1819 (by omega) (by omega)
              try simp only [Int32.reduceToInt] at lk_1822
              refine v_aload_n hC dX12_readLoss_210 rfl ?_
              refine v_get hC fl_X12_34 m_1 hf_1820 rfl dX12_readLoss_211 ?_
              refine v_iload_n hC dX12_readLoss_214 rfl ?_
              refine v_iconst hC dX12_readLoss_215 (v := 1) (by decide) ?_
              obtain ⟨v_1824, h_1825⟩ : ∃ v9 : Int32, v_49 + 1 = v9 := ⟨_, rfl⟩
              refine v_iadd hC dX12_readLoss_216 h_1825 ?_
              have h_1826 := add_v h_1825 (by first | omega | (simp only [Int32.lt_iff_toInt_lt, Int32.le_iff_toInt_le, Int32.reduceToInt, ← Int32.toInt_inj, true_and, and_true, or_true, true_or, false_or, or_false, false_and, and_false, not_true_eq_false, not_false_eq_true] <;> omega)) (by first | omega | (simp only [Int32.lt_iff_toInt_lt, Int32.le_iff_toInt_le, Int32.reduceToInt, ← Int32.toInt_inj, true_and, and_true, or_true, true_or, false_or, or_false, false_and, and_false, not_true_eq_false, not_false_eq_true] <;> omega))
              try simp only [Int32.reduceToInt] at h_1826
              refine v_aload_n hC dX12_readLoss_217 rfl ?_
              refine v_iconst hC dX12_readLoss_218 (v := 1) (by decide) ?_
              refine v_bipush hC dX12_readLoss_219 (v := 99) (by decide) ?_
              refine v_vi hC (rest := [.int v_1824, .ref (q 14)]) m_1 hf_1820 rfl mi_X12_number ms_X12_number (p_X12_number hW_1817 k_0) mx_X12_number ml_X12_170 (by decide) rfl (cells1 := 0) (slots1 := 0) (by decide) (by decide) (Nat.le_of_ble_eq_true rfl) (Nat.le_of_ble_eq_true rfl) rfl (Nat.le_of_ble_eq_true rfl) dX12_readLoss_221 (fun r_1827 L_1828 f_1829 h_1830 => ?_)
              obtain ⟨rfl, hW_1834, hF_1835, x_1831, x_1832, x_1833, -, -⟩ := h_1830
              have fe_1836 : fld (f_1813 a_0) 8 = (v_1697 : Int32).toInt := by rw [hf_1820]; rfl
              have fe_1837 : fld (f_1813 a_0) 10 = (v_1701 : Int32).toInt := by rw [hf_1820]; rfl
              have fe_1838 : fld (f_1813 a_0) 12 = (v_1704 : Int32).toInt := by rw [hf_1820]; rfl
              have hf_1839 := hF_1835.at hf_1814 rfl
              obtain ⟨v_1841, v_1842, v_1844, v_1846, v_1848, v_1850, v_1852, v_1853, v_1854, v_1855, v_1857, e_1840, b_1843, b_1845, b_1847, b_1849, b_1851, b_1856, b_1858⟩ := hW_1834.at m_1 t_2
              have fe_1859 : fld (f_1829 a_0) 8 = (v_1846 : Int32).toInt := by rw [e_1840]; rfl
              have fe_1860 : fld (f_1829 a_0) 9 = (v_1848 : Int32).toInt := by rw [e_1840]; rfl
              have fe_1861 : fld (f_1829 a_0) 10 = (v_1850 : Int32).toInt := by rw [e_1840]; rfl
              have fe_1862 : fld (f_1829 a_0) 12 = (v_1853 : Int32).toInt := by rw [e_1840]; rfl
              rw [fe_1862, fe_1838] at x_1831
              rw [fe_1862, fe_1837, fe_1836, fe_1860, fe_1859] at x_1832
              rw [fe_1862, fe_1861, fe_1860, fe_1859] at x_1833
              clear fe_1836 fe_1837 fe_1838 fe_1859 fe_1860 fe_1861 fe_1862
              try simp only [Int32.reduceToInt, Int64.reduceToInt] at x_1831
              try simp only [Int32.reduceToInt, Int64.reduceToInt] at x_1832
              try simp only [Int32.reduceToInt, Int64.reduceToInt] at x_1833
              refine v_iast hC m_22 hf_1839 (vp_in_iff.mpr (by first | omega | (simp only [Int32.lt_iff_toInt_lt, Int32.le_iff_toInt_le, Int32.reduceToInt, ← Int32.toInt_inj, true_and, and_true, or_true, true_or, false_or, or_false, false_and, and_false, not_true_eq_false, not_false_eq_true] <;> omega))) dX12_readLoss_224 (fun f_1863 hf_1864 hk_1865 => ?_)
              have hW_1867 := hW_1834.up hf_1864 hk_1865 t_23 ⟨_, rfl, (ok_1818.up (by first | omega | (simp only [Int32.lt_iff_toInt_lt, Int32.le_iff_toInt_le, Int32.reduceToInt, ← Int32.toInt_inj, true_and, and_true, or_true, true_or, false_or, or_false, false_and, and_false, not_true_eq_false, not_false_eq_true] <;> omega)) (fun q1 q2 => (by first | omega | (simp only [Int32.lt_iff_toInt_lt, Int32.le_iff_toInt_le, Int32.reduceToInt, ← Int32.toInt_inj] at *; omega))) (fun k9 q1 q2 q3 => (by first | omega | (simp only [Int32.lt_iff_toInt_lt, Int32.le_iff_toInt_le, Int32.reduceToInt, ← Int32.toInt_inj] at *; omega))))⟩
              obtain ⟨g_1866, hf_1864, ok_1868, eg_1869⟩ : ∃ g9, f_1863 (q 14) = aI E 2076 g9 ∧ FOK g9 ∧ g9 = upd g_1816 (v_1824 : Int32).toNatClampNeg r_1827 := ⟨_, hf_1864, (ok_1818.up (by first | omega | (simp only [Int32.lt_iff_toInt_lt, Int32.le_iff_toInt_le, Int32.reduceToInt, ← Int32.toInt_inj, true_and, and_true, or_true, true_or, false_or, or_false, false_and, and_false, not_true_eq_false, not_false_eq_true] <;> omega)) (fun q1 q2 => (by first | omega | (simp only [Int32.lt_iff_toInt_lt, Int32.le_iff_toInt_le, Int32.reduceToInt, ← Int32.toInt_inj] at *; omega))) (fun k9 q1 q2 q3 => (by first | omega | (simp only [Int32.lt_iff_toInt_lt, Int32.le_iff_toInt_le, Int32.reduceToInt, ← Int32.toInt_inj] at *; omega)))), rfl⟩
              have hf_1870 := (hk_1865 a_0 (ne_kd e_1840 hf_1839 rfl)).trans e_1840
              have fr_1871 := FR.w hk_1865 hf_1839 (k := 2176) rfl
              have lk_1872 := lf_at (g0 := g_f) eg_1869 (by omega) (by omega)
              have ag_1873 := ag_1823.st eg_1869 (by omega) (by omega)
              try simp only [Int32.reduceToInt] at lk_1872
              refine v_aload_n hC dX12_readLoss_225 rfl ?_
              refine v_get hC fl_X12_34 m_1 hf_1870 rfl dX12_readLoss_226 ?_
              refine v_iload_n hC dX12_readLoss_229 rfl ?_
              refine v_iconst hC dX12_readLoss_230 (v := 2) (by decide) ?_
              obtain ⟨v_1874, h_1875⟩ : ∃ v9 : Int32, v_49 + 2 = v9 := ⟨_, rfl⟩
              refine v_iadd hC dX12_readLoss_231 h_1875 ?_
              have h_1876 := add_v h_1875 (by first | omega | (simp only [Int32.lt_iff_toInt_lt, Int32.le_iff_toInt_le, Int32.reduceToInt, ← Int32.toInt_inj, true_and, and_true, or_true, true_or, false_or, or_false, false_and, and_false, not_true_eq_false, not_false_eq_true] <;> omega)) (by first | omega | (simp only [Int32.lt_iff_toInt_lt, Int32.le_iff_toInt_le, Int32.reduceToInt, ← Int32.toInt_inj, true_and, and_true, or_true, true_or, false_or, or_false, false_and, and_false, not_true_eq_false, not_false_eq_true] <;> omega))
              try simp only [Int32.reduceToInt] at h_1876
              refine v_aload_n hC dX12_readLoss_232 rfl ?_
              refine v_ldcwS hC sr_X12_297 dX12_readLoss_233 ?_
              refine v_iconst hC dX12_readLoss_236 (v := 0) (by decide) ?_
              refine v_sipush hC dX12_readLoss_237 (v := 255) (by decide) ?_
              refine v_vi hC (rest := [.int v_1874, .ref (q 14)]) m_1 hf_1870 rfl mi_X12_told ms_X12_told (p_X12_told hW_1867 k_0 (by decide)) mx_X12_told ml_X12_189 (by decide) rfl (cells1 := 0) (slots1 := 0) (by decide) (by decide) (Nat.le_of_ble_eq_true rfl) (Nat.le_of_ble_eq_true rfl) rfl (Nat.le_of_ble_eq_true rfl) dX12_readLoss_240 (fun r_1877 L_1878 f_1879 h_1880 => ?_)
              obtain ⟨rfl, hW_1884, hF_1885, x_1881, x_1882, x_1883, -, -⟩ := h_1880
              have fe_1886 : fld (f_1863 a_0) 8 = (v_1846 : Int32).toInt := by rw [hf_1870]; rfl
              have fe_1887 : fld (f_1863 a_0) 12 = (v_1853 : Int32).toInt := by rw [hf_1870]; rfl
              have hf_1888 := hF_1885.at hf_1864 rfl
              obtain ⟨v_1890, v_1891, v_1893, v_1895, v_1897, v_1899, v_1901, v_1902, v_1903, v_1904, v_1906, e_1889, b_1892, b_1894, b_1896, b_1898, b_1900, b_1905, b_1907⟩ := hW_1884.at m_1 t_2
              have fe_1908 : fld (f_1879 a_0) 8 = (v_1895 : Int32).toInt := by rw [e_1889]; rfl
              have fe_1909 : fld (f_1879 a_0) 9 = (v_1897 : Int32).toInt := by rw [e_1889]; rfl
              have fe_1910 : fld (f_1879 a_0) 10 = (v_1899 : Int32).toInt := by rw [e_1889]; rfl
              have fe_1911 : fld (f_1879 a_0) 12 = (v_1902 : Int32).toInt := by rw [e_1889]; rfl
              rw [fe_1911, fe_1887] at x_1881
              rw [fe_1911, fe_1886, fe_1909, fe_1908] at x_1882
              rw [fe_1911, fe_1910, fe_1909, fe_1908] at x_1883
              clear fe_1886 fe_1887 fe_1908 fe_1909 fe_1910 fe_1911
              try simp only [Int32.reduceToInt, Int64.reduceToInt] at x_1881
              try simp only [Int32.reduceToInt, Int64.reduceToInt] at x_1882
              try simp only [Int32.reduceToInt, Int64.reduceToInt] at x_1883
              refine v_iast hC m_22 hf_1888 (vp_in_iff.mpr (by first | omega | (simp only [Int32.lt_iff_toInt_lt, Int32.le_iff_toInt_le, Int32.reduceToInt, ← Int32.toInt_inj, true_and, and_true, or_true, true_or, false_or, or_false, false_and, and_false, not_true_eq_false, not_false_eq_true] <;> omega))) dX12_readLoss_243 (fun f_1912 hf_1913 hk_1914 => ?_)
              have hW_1916 := hW_1884.up hf_1913 hk_1914 t_23 ⟨_, rfl, (ok_1868.up (by first | omega | (simp only [Int32.lt_iff_toInt_lt, Int32.le_iff_toInt_le, Int32.reduceToInt, ← Int32.toInt_inj, true_and, and_true, or_true, true_or, false_or, or_false, false_and, and_false, not_true_eq_false, not_false_eq_true] <;> omega)) (fun q1 q2 => (by first | omega | (simp only [Int32.lt_iff_toInt_lt, Int32.le_iff_toInt_le, Int32.reduceToInt, ← Int32.toInt_inj] at *; omega))) (fun k9 q1 q2 q3 => (by first | omega | (simp only [Int32.lt_iff_toInt_lt, Int32.le_iff_toInt_le, Int32.reduceToInt, ← Int32.toInt_inj] at *; omega))))⟩
              obtain ⟨g_1915, hf_1913, ok_1917, eg_1918⟩ : ∃ g9, f_1912 (q 14) = aI E 2076 g9 ∧ FOK g9 ∧ g9 = upd g_1866 (v_1874 : Int32).toNatClampNeg r_1877 := ⟨_, hf_1913, (ok_1868.up (by first | omega | (simp only [Int32.lt_iff_toInt_lt, Int32.le_iff_toInt_le, Int32.reduceToInt, ← Int32.toInt_inj, true_and, and_true, or_true, true_or, false_or, or_false, false_and, and_false, not_true_eq_false, not_false_eq_true] <;> omega)) (fun q1 q2 => (by first | omega | (simp only [Int32.lt_iff_toInt_lt, Int32.le_iff_toInt_le, Int32.reduceToInt, ← Int32.toInt_inj] at *; omega))) (fun k9 q1 q2 q3 => (by first | omega | (simp only [Int32.lt_iff_toInt_lt, Int32.le_iff_toInt_le, Int32.reduceToInt, ← Int32.toInt_inj] at *; omega)))), rfl⟩
              have hf_1919 := (hk_1914 a_0 (ne_kd e_1889 hf_1888 rfl)).trans e_1889
              have fr_1920 := FR.w hk_1914 hf_1888 (k := 2176) rfl
              have lk_1921 := l2_at (g0 := g_f) eg_1918 (by omega) (by omega)
              have ag_1922 := ag_1873.st eg_1918 (by omega) (by omega)
              try simp only [Int32.reduceToInt] at lk_1921
              refine v_goto hC dX12_readLoss_244 (tgt := 258) (by decide) ?_
              refine v_aload_n hC dX12_readLoss_258 rfl ?_
              refine v_vv hC (rest := []) m_1 hf_1919 rfl mi_X12_ends ms_X12_ends (p_X12_ends hW_1916 k_0) mx_X12_ends ml_X12_178 (by decide) rfl (cells1 := 0) (slots1 := 0) (by decide) (by decide) (Nat.le_of_ble_eq_true rfl) (Nat.le_of_ble_eq_true rfl) rfl (Nat.le_of_ble_eq_true rfl) dX12_readLoss_259 (fun L_1924 f_1925 h_1926 => ?_)
              obtain ⟨rfl, hW_1929, hF_1930, x_1927, x_1928, -, -⟩ := h_1926
              have fe_1931 : fld (f_1912 a_0) 8 = (v_1895 : Int32).toInt := by rw [hf_1919]; rfl
              have fe_1932 : fld (f_1912 a_0) 10 = (v_1899 : Int32).toInt := by rw [hf_1919]; rfl
              have fe_1933 : fld (f_1912 a_0) 12 = (v_1902 : Int32).toInt := by rw [hf_1919]; rfl
              have hf_1934 := hF_1930.at hf_1913 rfl
              obtain ⟨v_1936, v_1937, v_1939, v_1941, v_1943, v_1945, v_1947, v_1948, v_1949, v_1950, v_1952, e_1935, b_1938, b_1940, b_1942, b_1944, b_1946, b_1951, b_1953⟩ := hW_1929.at m_1 t_2
              have fe_1954 : fld (f_1925 a_0) 8 = (v_1941 : Int32).toInt := by rw [e_1935]; rfl
              have fe_1955 : fld (f_1925 a_0) 9 = (v_1943 : Int32).toInt := by rw [e_1935]; rfl
              have fe_1956 : fld (f_1925 a_0) 12 = (v_1948 : Int32).toInt := by rw [e_1935]; rfl
              rw [fe_1956, fe_1933] at x_1927
              rw [fe_1956, fe_1932, fe_1931, fe_1955, fe_1954] at x_1928
              clear fe_1931 fe_1932 fe_1933 fe_1954 fe_1955 fe_1956
              refine v_aload_n hC dX12_readLoss_262 rfl ?_
              refine v_get hC fl_X12_34 m_1 e_1935 rfl dX12_readLoss_263 ?_
              refine v_bipush hC dX12_readLoss_266 (v := 6) (by decide) ?_
              refine v_dup2 hC dX12_readLoss_268 rfl rfl ?_
              have l6_1957 : (g_1915 6).toInt = (g_f 6).toInt := congrArg Int32.toInt ag_1922.2.1
              refine v_iald hC m_22 hf_1934 (vp_in_iff.mpr (by decide)) (v := g_1915 6) rfl dX12_readLoss_269 ?_
              refine v_iconst hC dX12_readLoss_270 (v := 1) (by decide) ?_
              obtain ⟨v_1958, h_1959⟩ : ∃ v9 : Int32, (g_1915 6) + 1 = v9 := ⟨_, rfl⟩
              refine v_iadd hC dX12_readLoss_271 h_1959 ?_
              have h_1960 := add_v h_1959 (by first | omega | (simp only [Int32.lt_iff_toInt_lt, Int32.le_iff_toInt_le, Int32.reduceToInt, ← Int32.toInt_inj, true_and, and_true, or_true, true_or, false_or, or_false, false_and, and_false, not_true_eq_false, not_false_eq_true] <;> omega)) (by first | omega | (simp only [Int32.lt_iff_toInt_lt, Int32.le_iff_toInt_le, Int32.reduceToInt, ← Int32.toInt_inj, true_and, and_true, or_true, true_or, false_or, or_false, false_and, and_false, not_true_eq_false, not_false_eq_true] <;> omega))
              try simp only [Int32.reduceToInt] at h_1960
              refine v_iast hC m_22 hf_1934 (vp_in_iff.mpr (by decide)) dX12_readLoss_272 (fun f_1961 hf_1962 hk_1963 => ?_)
              have hW_1965 := hW_1929.up hf_1962 hk_1963 t_23 ⟨_, rfl, (ok_1917.up (i := 6) (by decide) (fun q1 q2 => absurd (And.intro q1 q2) (by decide)) (fun k9 q1 q2 q3 => by simp only [Int32.reduceToInt] at q3; omega))⟩
              obtain ⟨g_1964, hf_1962, ok_1966, eg_1967⟩ : ∃ g9, f_1961 (q 14) = aI E 2076 g9 ∧ FOK g9 ∧ g9 = upd g_1915 (6 : Int32).toNatClampNeg v_1958 := ⟨_, hf_1962, (ok_1917.up (i := 6) (by decide) (fun q1 q2 => absurd (And.intro q1 q2) (by decide)) (fun k9 q1 q2 q3 => by simp only [Int32.reduceToInt] at q3; omega)), rfl⟩
              have hf_1968 := (hk_1963 a_0 (ne_kd e_1935 hf_1934 rfl)).trans e_1935
              have fr_1969 := FR.w hk_1963 hf_1934 (k := 2176) rfl
              have ln6_1970 := FOK.n6 ag_1922.1 eg_1967
              have ln6_1970_t : (g_1964 6).toInt = v_1958.toInt := congrArg Int32.toInt ln6_1970.2
              have fe_1971 : fld (f_1961 a_0) 12 = (v_1948 : Int32).toInt := by rw [hf_1968]; rfl
              have fe_1972 : fld (f_1961 a_0) 8 = (v_1941 : Int32).toInt := by rw [hf_1968]; rfl
              have fe_1973 : fld (f_1961 a_0) 12 = (v_1948 : Int32).toInt := by rw [hf_1968]; rfl
              have fe_1974 : fld (f_1961 a_0) 20 = (v_1952 : Int32).toInt := by rw [hf_1968]; rfl
              exact hR _ _ _ _ _ _ dX12_readLoss_273 (Nat.le_of_ble_eq_true rfl) (Nat.le_of_ble_eq_true rfl) ⟨rfl, hW_1965, ((((((((((hF_1611.tr hF_1652).tr hF_1687).tr fr_1821).tr hF_1835).tr fr_1871).tr hF_1885).tr fr_1920).tr hF_1930).tr fr_1969).mono rfl), ⟨_, hf_1962, ln6_1970.1, (by omega), (by rw [fe_1971]; by_cases q9 : v_1948.toInt = 0; exact .inr (LO.fin hLO ag_1922 eg_1967 (by omega) (by omega) (fun q8 => by omega)); exact .inl q9)⟩, (by simp only [fe_1972, fe_1973, mz_43, mz_44, true_and, and_true, or_true, true_or, false_or, or_false, false_and, and_false, not_true_eq_false, not_false_eq_true] <;> first | omega | (simp only [Int32.lt_iff_toInt_lt, Int32.le_iff_toInt_le, Int32.reduceToInt, ← Int32.toInt_inj, true_and, and_true, or_true, true_or, false_or, or_false, false_and, and_false, not_true_eq_false, not_false_eq_true] <;> omega)), (by simp only [fe_1974, mz_45, true_and, and_true, or_true, true_or, false_or, or_false, false_and, and_false, not_true_eq_false, not_false_eq_true] <;> first | omega | (simp only [Int32.lt_iff_toInt_lt, Int32.le_iff_toInt_le, Int32.reduceToInt, ← Int32.toInt_inj, true_and, and_true, or_true, true_or, false_or, or_false, false_and, and_false, not_true_eq_false, not_false_eq_true] <;> omega))⟩
          · simp only [Int32.lt_iff_toInt_lt, Int32.le_iff_toInt_le, Int32.reduceToInt, ← Int32.toInt_inj] at h_1679
            refine v_aload_n hC dX12_readLoss_98 rfl ?_
            refine v_ldcwS hC sr_X12_293 dX12_readLoss_99 ?_
            refine v_vi hC (rest := []) m_1 e_1656 rfl mi_X12_is ms_X12_is (p_X12_is hW_1651 k_0 (by decide)) mx_X12_is ml_X12_152 (by decide) rfl (cells1 := 0) (slots1 := 0) (by decide) (by decide) (Nat.le_of_ble_eq_true rfl) (Nat.le_of_ble_eq_true rfl) rfl (Nat.le_of_ble_eq_true rfl) dX12_readLoss_102 (fun r_1975 L_1976 f_1977 h_1978 => ?_)
            obtain ⟨rfl, rfl, rfl⟩ := h_1978
            refine v_istore_n hC dX12_readLoss_105 (by decide) (lv' := [(3, .int (iw (f_1647 a_0) (f_1647 (q 4)) 74)), (2, .int v_74), (1, .int v_49), (0, .ref a_0)]) rfl ?_
            refine v_iload_n hC dX12_readLoss_106 rfl ?_
            refine v_if_ne hC dX12_readLoss_107 (tgt := 124) (by decide) (fun h_1981 => ?_) (fun h_1981 => ?_)
            · simp only [Int32.lt_iff_toInt_lt, Int32.le_iff_toInt_le, Int32.reduceToInt, ← Int32.toInt_inj] at h_1981
              refine v_aload_n hC dX12_readLoss_124 rfl ?_
              refine v_vi hC (rest := []) m_1 e_1656 rfl mi_X12_good ms_X12_good (p_X12_good hW_1651 k_0) mx_X12_good ml_X12_139 (by decide) rfl (cells1 := 0) (slots1 := 0) (by decide) (by decide) (Nat.le_of_ble_eq_true rfl) (Nat.le_of_ble_eq_true rfl) rfl (Nat.le_of_ble_eq_true rfl) dX12_readLoss_125 (fun r_1982 L_1983 f_1984 h_1985 => ?_)
              obtain ⟨rfl, rfl, b_1986, x_1987⟩ := h_1985
              have fe_1990 : fld (f_1647 a_0) 12 = (v_1669 : Int32).toInt := by rw [e_1656]; rfl
              rw [fe_1990] at x_1987
              clear fe_1990
              try simp only [Int32.reduceToInt, Int64.reduceToInt] at x_1987
              refine v_if_eq hC dX12_readLoss_128 (tgt := 135) (by decide) (fun h_1991 => ?_) (fun h_1991 => ?_)
              · simp only [Int32.lt_iff_toInt_lt, Int32.le_iff_toInt_le, Int32.reduceToInt, ← Int32.toInt_inj] at h_1991
                refine v_aload_n hC dX12_readLoss_135 rfl ?_
                refine v_get hC fl_X12_34 m_1 e_1656 rfl dX12_readLoss_136 ?_
                refine v_iload_n hC dX12_readLoss_139 rfl ?_
                refine v_iload_n hC dX12_readLoss_140 rfl ?_
                refine v_if_eq_f hC dX12_readLoss_141 (tgt := 148) (by decide) (by first | omega | (simp only [Int32.lt_iff_toInt_lt, Int32.le_iff_toInt_le, Int32.reduceToInt, ← Int32.toInt_inj, true_and, and_true, or_true, true_or, false_or, or_false, false_and, and_false, not_true_eq_false, not_false_eq_true] <;> omega)) ?_
                refine v_iconst hC dX12_readLoss_144 (v := 1) (by decide) ?_
                refine v_goto hC dX12_readLoss_145 (tgt := 149) (by decide) ?_
                refine v_iast hC m_22 hf_1655 (vp_in_iff.mpr (by first | omega | (simp only [Int32.lt_iff_toInt_lt, Int32.le_iff_toInt_le, Int32.reduceToInt, ← Int32.toInt_inj, true_and, and_true, or_true, true_or, false_or, or_false, false_and, and_false, not_true_eq_false, not_false_eq_true] <;> omega))) dX12_readLoss_149 (fun f_1992 hf_1993 hk_1994 => ?_)
                have hW_1996 := hW_1651.up hf_1993 hk_1994 t_23 ⟨_, rfl, (o_f.up (by first | omega | (simp only [Int32.lt_iff_toInt_lt, Int32.le_iff_toInt_le, Int32.reduceToInt, ← Int32.toInt_inj, true_and, and_true, or_true, true_or, false_or, or_false, false_and, and_false, not_true_eq_false, not_false_eq_true] <;> omega)) (fun q1 q2 => (by first | omega | (simp only [Int32.lt_iff_toInt_lt, Int32.le_iff_toInt_le, Int32.reduceToInt, ← Int32.toInt_inj] at *; omega))) (fun k9 q1 q2 q3 => (by first | omega | (simp only [Int32.lt_iff_toInt_lt, Int32.le_iff_toInt_le, Int32.reduceToInt, ← Int32.toInt_inj] at *; omega))))⟩
                obtain ⟨g_1995, hf_1993, ok_1997, eg_1998⟩ : ∃ g9, f_1992 (q 14) = aI E 2076 g9 ∧ FOK g9 ∧ g9 = upd g_f (v_49 : Int32).toNatClampNeg 1 := ⟨_, hf_1993, (o_f.up (by first | omega | (simp only [Int32.lt_iff_toInt_lt, Int32.le_iff_toInt_le, Int32.reduceToInt, ← Int32.toInt_inj, true_and, and_true, or_true, true_or, false_or, or_false, false_and, and_false, not_true_eq_false, not_false_eq_true] <;> omega)) (fun q1 q2 => (by first | omega | (simp only [Int32.lt_iff_toInt_lt, Int32.le_iff_toInt_le, Int32.reduceToInt, ← Int32.toInt_inj] at *; omega))) (fun k9 q1 q2 q3 => (by first | omega | (simp only [Int32.lt_iff_toInt_lt, Int32.le_iff_toInt_le, Int32.reduceToInt, ← Int32.toInt_inj] at *; omega)))), rfl⟩
                have hf_1999 := (hk_1994 a_0 (ne_kd e_1656 hf_1655 rfl)).trans e_1656
                have fr_2000 := FR.w hk_1994 hf_1655 (k := 2176) rfl
                have lk_2001 := lk_at (g0 := g_f) eg_1998 (by omega) (by omega)
                have ag_2002 := (AG.rf o_f).st eg_1998 (by omega) (by omega)
                try simp only [Int32.reduceToInt] at lk_2001
                refine v_aload_n hC dX12_readLoss_150 rfl ?_
                refine v_get hC fl_X12_34 m_1 hf_1999 rfl dX12_readLoss_151 ?_
                refine v_iload_n hC dX12_readLoss_154 rfl ?_
                refine v_iconst hC dX12_readLoss_155 (v := 1) (by decide) ?_
                obtain ⟨v_2003, h_2004⟩ : ∃ v9 : Int32, v_49 + 1 = v9 := ⟨_, rfl⟩
                refine v_iadd hC dX12_readLoss_156 h_2004 ?_
                have h_2005 := add_v h_2004 (by first | omega | (simp only [Int32.lt_iff_toInt_lt, Int32.le_iff_toInt_le, Int32.reduceToInt, ← Int32.toInt_inj, true_and, and_true, or_true, true_or, false_or, or_false, false_and, and_false, not_true_eq_false, not_false_eq_true] <;> omega)) (by first | omega | (simp only [Int32.lt_iff_toInt_lt, Int32.le_iff_toInt_le, Int32.reduceToInt, ← Int32.toInt_inj, true_and, and_true, or_true, true_or, false_or, or_false, false_and, and_false, not_true_eq_false, not_false_eq_true] <;> omega))
                try simp only [Int32.reduceToInt] at h_2005
                refine v_aload_n hC dX12_readLoss_157 rfl ?_
                refine v_iconst hC dX12_readLoss_158 (v := 0) (by decide) ?_
                refine v_bipush hC dX12_readLoss_159 (v := 15) (by decide) ?_
                refine v_vi hC (rest := [.int v_2003, .ref (q 14)]) m_1 hf_1999 rfl mi_X12_number ms_X12_number (p_X12_number hW_1996 k_0) mx_X12_number ml_X12_170 (by decide) rfl (cells1 := 0) (slots1 := 0) (by decide) (by decide) (Nat.le_of_ble_eq_true rfl) (Nat.le_of_ble_eq_true rfl) rfl (Nat.le_of_ble_eq_true rfl) dX12_readLoss_161 (fun r_2006 L_2007 f_2008 h_2009 => ?_)
                obtain ⟨rfl, hW_2013, hF_2014, x_2010, x_2011, x_2012, -, -⟩ := h_2009
                have fe_2015 : fld (f_1992 a_0) 8 = (v_1662 : Int32).toInt := by rw [hf_1999]; rfl
                have fe_2016 : fld (f_1992 a_0) 10 = (v_1666 : Int32).toInt := by rw [hf_1999]; rfl
                have fe_2017 : fld (f_1992 a_0) 12 = (v_1669 : Int32).toInt := by rw [hf_1999]; rfl
                have hf_2018 := hF_2014.at hf_1993 rfl
                obtain ⟨v_2020, v_2021, v_2023, v_2025, v_2027, v_2029, v_2031, v_2032, v_2033, v_2034, v_2036, e_2019, b_2022, b_2024, b_2026, b_2028, b_2030, b_2035, b_2037⟩ := hW_2013.at m_1 t_2
                have fe_2038 : fld (f_2008 a_0) 8 = (v_2025 : Int32).toInt := by rw [e_2019]; rfl
                have fe_2039 : fld (f_2008 a_0) 9 = (v_2027 : Int32).toInt := by rw [e_2019]; rfl
                have fe_2040 : fld (f_2008 a_0) 10 = (v_2029 : Int32).toInt := by rw [e_2019]; rfl
                have fe_2041 : fld (f_2008 a_0) 12 = (v_2032 : Int32).toInt := by rw [e_2019]; rfl
                rw [fe_2041, fe_2017] at x_2010
                rw [fe_2041, fe_2016, fe_2015, fe_2039, fe_2038] at x_2011
                rw [fe_2041, fe_2040, fe_2039, fe_2038] at x_2012
                clear fe_2015 fe_2016 fe_2017 fe_2038 fe_2039 fe_2040 fe_2041
                try simp only [Int32.reduceToInt, Int64.reduceToInt] at x_2010
                try simp only [Int32.reduceToInt, Int64.reduceToInt] at x_2011
                try simp only [Int32.reduceToInt, Int64.reduceToInt] at x_2012
                refine v_iast hC m_22 hf_2018 (vp_in_iff.mpr (by first | omega | (simp only [Int32.lt_iff_toInt_lt, Int32.le_iff_toInt_le, Int32.reduceToInt, ← Int32.toInt_inj, true_and, and_true, or_true, true_or, false_or, or_false, false_and, and_false, not_true_eq_false, not_false_eq_true] <;> omega))) dX12_readLoss_164 (fun f_2042 hf_2043 hk_2044 => ?_)
                have hW_2046 := hW_2013.up hf_2043 hk_2044 t_23 ⟨_, rfl, (ok_1997.up (by first | omega | (simp only [Int32.lt_iff_toInt_lt, Int32.le_iff_toInt_le, Int32.reduceToInt, ← Int32.toInt_inj, true_and, and_true, or_true, true_or, false_or, or_false, false_and, and_false, not_true_eq_false, not_false_eq_true] <;> omega)) (fun q1 q2 => (by first | omega | (simp only [Int32.lt_iff_toInt_lt, Int32.le_iff_toInt_le, Int32.reduceToInt, ← Int32.toInt_inj] at *; omega))) (fun k9 q1 q2 q3 => (by first | omega | (simp only [Int32.lt_iff_toInt_lt, Int32.le_iff_toInt_le, Int32.reduceToInt, ← Int32.toInt_inj] at *; omega))))⟩
                obtain ⟨g_2045, hf_2043, ok_2047, eg_2048⟩ : ∃ g9, f_2042 (q 14) = aI E 2076 g9 ∧ FOK g9 ∧ g9 = upd g_1995 (v_2003 : Int32).toNatClampNeg r_2006 := ⟨_, hf_2043, (ok_1997.up (by first | omega | (simp only [Int32.lt_iff_toInt_lt, Int32.le_iff_toInt_le, Int32.reduceToInt, ← Int32.toInt_inj, true_and, and_true, or_true, true_or, false_or, or_false, false_and, and_false, not_true_eq_false, not_false_eq_true] <;> omega)) (fun q1 q2 => (by first | omega | (simp only [Int32.lt_iff_toInt_lt, Int32.le_iff_toInt_le, Int32.reduceToInt, ← Int32.toInt_inj] at *; omega))) (fun k9 q1 q2 q3 => (by first | omega | (simp only [Int32.lt_iff_toInt_lt, Int32.le_iff_toInt_le, Int32.reduceToInt, ← Int32.toInt_inj] at *; omega)))), rfl⟩
                have hf_2049 := (hk_2044 a_0 (ne_kd e_2019 hf_2018 rfl)).trans e_2019
                have fr_2050 := FR.w hk_2044 hf_2018 (k := 2176) rfl
                have lk_2051 := lf_at (g0 := g_f) eg_2048 (by omega) (by omega)
                have ag_2052 := ag_2002.st eg_2048 (by omega) (by omega)
                try simp only [Int32.reduceToInt] at lk_2051
                refine v_aload_n hC dX12_readLoss_165 rfl ?_
                refine v_get hC fl_X12_34 m_1 hf_2049 rfl dX12_readLoss_166 ?_
                refine v_iload_n hC dX12_readLoss_169 rfl ?_
                refine v_iconst hC dX12_readLoss_170 (v := 2) (by decide) ?_
                obtain ⟨v_2053, h_2054⟩ : ∃ v9 : Int32, v_49 + 2 = v9 := ⟨_, rfl⟩
                refine v_iadd hC dX12_readLoss_171 h_2054 ?_
                have h_2055 := add_v h_2054 (by first | omega | (simp only [Int32.lt_iff_toInt_lt, Int32.le_iff_toInt_le, Int32.reduceToInt, ← Int32.toInt_inj, true_and, and_true, or_true, true_or, false_or, or_false, false_and, and_false, not_true_eq_false, not_false_eq_true] <;> omega)) (by first | omega | (simp only [Int32.lt_iff_toInt_lt, Int32.le_iff_toInt_le, Int32.reduceToInt, ← Int32.toInt_inj, true_and, and_true, or_true, true_or, false_or, or_false, false_and, and_false, not_true_eq_false, not_false_eq_true] <;> omega))
                try simp only [Int32.reduceToInt] at h_2055
                refine v_aload_n hC dX12_readLoss_172 rfl ?_
                refine v_ldcwS hC sr_X12_295 dX12_readLoss_173 ?_
                refine v_aload_n hC dX12_readLoss_176 rfl ?_
                refine v_get hC fl_X12_34 m_1 hf_2049 rfl dX12_readLoss_177 ?_
                refine v_iload_n hC dX12_readLoss_180 rfl ?_
                refine v_iconst hC dX12_readLoss_181 (v := 1) (by decide) ?_
                obtain ⟨v_2056, h_2057⟩ : ∃ v9 : Int32, v_49 + 1 = v9 := ⟨_, rfl⟩
                refine v_iadd hC dX12_readLoss_182 h_2057 ?_
                have h_2058 := add_v h_2057 (by first | omega | (simp only [Int32.lt_iff_toInt_lt, Int32.le_iff_toInt_le, Int32.reduceToInt, ← Int32.toInt_inj, true_and, and_true, or_true, true_or, false_or, or_false, false_and, and_false, not_true_eq_false, not_false_eq_true] <;> omega)) (by first | omega | (simp only [Int32.lt_iff_toInt_lt, Int32.le_iff_toInt_le, Int32.reduceToInt, ← Int32.toInt_inj, true_and, and_true, or_true, true_or, false_or, or_false, false_and, and_false, not_true_eq_false, not_false_eq_true] <;> omega))
                try simp only [Int32.reduceToInt] at h_2058
                obtain ⟨v_2059, h_2060⟩ : ∃ v9 : Int32, g_2045 (v_2056 : Int32).toNatClampNeg = v9 := ⟨_, rfl⟩
                refine v_iald hC m_22 hf_2043 (vp_in_iff.mpr (by first | omega | (simp only [Int32.lt_iff_toInt_lt, Int32.le_iff_toInt_le, Int32.reduceToInt, ← Int32.toInt_inj, true_and, and_true, or_true, true_or, false_or, or_false, false_and, and_false, not_true_eq_false, not_false_eq_true] <;> omega))) h_2060 dX12_readLoss_183 ?_
                refine v_bipush hC dX12_readLoss_184 (v := 15) (by decide) ?_
                refine v_vi hC (rest := [.int v_2053, .ref (q 14)]) m_1 hf_2049 rfl mi_X12_told ms_X12_told (p_X12_told hW_2046 k_0 (by decide)) mx_X12_told ml_X12_189 (by decide) rfl (cells1 := 0) (slots1 := 0) (by decide) (by decide) (Nat.le_of_ble_eq_true rfl) (Nat.le_of_ble_eq_true rfl) rfl (Nat.le_of_ble_eq_true rfl) dX12_readLoss_186 (fun r_2061 L_2062 f_2063 h_2064 => ?_)
                obtain ⟨rfl, hW_2068, hF_2069, x_2065, x_2066, x_2067, -, -⟩ := h_2064
                have fe_2070 : fld (f_2042 a_0) 8 = (v_2025 : Int32).toInt := by rw [hf_2049]; rfl
                have fe_2071 : fld (f_2042 a_0) 12 = (v_2032 : Int32).toInt := by rw [hf_2049]; rfl
                have hf_2072 := hF_2069.at hf_2043 rfl
                obtain ⟨v_2074, v_2075, v_2077, v_2079, v_2081, v_2083, v_2085, v_2086, v_2087, v_2088, v_2090, e_2073, b_2076, b_2078, b_2080, b_2082, b_2084, b_2089, b_2091⟩ := hW_2068.at m_1 t_2
                have fe_2092 : fld (f_2063 a_0) 8 = (v_2079 : Int32).toInt := by rw [e_2073]; rfl
                have fe_2093 : fld (f_2063 a_0) 9 = (v_2081 : Int32).toInt := by rw [e_2073]; rfl
                have fe_2094 : fld (f_2063 a_0) 10 = (v_2083 : Int32).toInt := by rw [e_2073]; rfl
                have fe_2095 : fld (f_2063 a_0) 12 = (v_2086 : Int32).toInt := by rw [e_2073]; rfl
                rw [fe_2095, fe_2071] at x_2065
                rw [fe_2095, fe_2070, fe_2093, fe_2092] at x_2066
                rw [fe_2095, fe_2094, fe_2093, fe_2092] at x_2067
                clear fe_2070 fe_2071 fe_2092 fe_2093 fe_2094 fe_2095
                try simp only [Int32.reduceToInt, Int64.reduceToInt] at x_2065
                try simp only [Int32.reduceToInt, Int64.reduceToInt] at x_2066
                try simp only [Int32.reduceToInt, Int64.reduceToInt] at x_2067
                refine v_iast hC m_22 hf_2072 (vp_in_iff.mpr (by first | omega | (simp only [Int32.lt_iff_toInt_lt, Int32.le_iff_toInt_le, Int32.reduceToInt, ← Int32.toInt_inj, true_and, and_true, or_true, true_or, false_or, or_false, false_and, and_false, not_true_eq_false, not_false_eq_true] <;> omega))) dX12_readLoss_189 (fun f_2096 hf_2097 hk_2098 => ?_)
                have hW_2100 := hW_2068.up hf_2097 hk_2098 t_23 ⟨_, rfl, (ok_2047.up (by first | omega | (simp only [Int32.lt_iff_toInt_lt, Int32.le_iff_toInt_le, Int32.reduceToInt, ← Int32.toInt_inj, true_and, and_true, or_true, true_or, false_or, or_false, false_and, and_false, not_true_eq_false, not_false_eq_true] <;> omega)) (fun q1 q2 => (by first | omega | (simp only [Int32.lt_iff_toInt_lt, Int32.le_iff_toInt_le, Int32.reduceToInt, ← Int32.toInt_inj] at *; omega))) (fun k9 q1 q2 q3 => (by first | omega | (simp only [Int32.lt_iff_toInt_lt, Int32.le_iff_toInt_le, Int32.reduceToInt, ← Int32.toInt_inj] at *; omega))))⟩
                obtain ⟨g_2099, hf_2097, ok_2101, eg_2102⟩ : ∃ g9, f_2096 (q 14) = aI E 2076 g9 ∧ FOK g9 ∧ g9 = upd g_2045 (v_2053 : Int32).toNatClampNeg r_2061 := ⟨_, hf_2097, (ok_2047.up (by first | omega | (simp only [Int32.lt_iff_toInt_lt, Int32.le_iff_toInt_le, Int32.reduceToInt, ← Int32.toInt_inj, true_and, and_true, or_true, true_or, false_or, or_false, false_and, and_false, not_true_eq_false, not_false_eq_true] <;> omega)) (fun q1 q2 => (by first | omega | (simp only [Int32.lt_iff_toInt_lt, Int32.le_iff_toInt_le, Int32.reduceToInt, ← Int32.toInt_inj] at *; omega))) (fun k9 q1 q2 q3 => (by first | omega | (simp only [Int32.lt_iff_toInt_lt, Int32.le_iff_toInt_le, Int32.reduceToInt, ← Int32.toInt_inj] at *; omega)))), rfl⟩
                have hf_2103 := (hk_2098 a_0 (ne_kd e_2073 hf_2072 rfl)).trans e_2073
                have fr_2104 := FR.w hk_2098 hf_2072 (k := 2176) rfl
                have lk_2105 := l2_at (g0 := g_f) eg_2102 (by omega) (by omega)
                have ag_2106 := ag_2052.st eg_2102 (by omega) (by omega)
                try simp only [Int32.reduceToInt] at lk_2105
                refine v_goto hC dX12_readLoss_190 (tgt := 258) (by decide) ?_
                refine v_aload_n hC dX12_readLoss_258 rfl ?_
                refine v_vv hC (rest := []) m_1 hf_2103 rfl mi_X12_ends ms_X12_ends (p_X12_ends hW_2100 k_0) mx_X12_ends ml_X12_178 (by decide) rfl (cells1 := 0) (slots1 := 0) (by decide) (by decide) (Nat.le_of_ble_eq_true rfl) (Nat.le_of_ble_eq_true rfl) rfl (Nat.le_of_ble_eq_true rfl) dX12_readLoss_259 (fun L_2108 f_2109 h_2110 => ?_)
                obtain ⟨rfl, hW_2113, hF_2114, x_2111, x_2112, -, -⟩ := h_2110
                have fe_2115 : fld (f_2096 a_0) 8 = (v_2079 : Int32).toInt := by rw [hf_2103]; rfl
                have fe_2116 : fld (f_2096 a_0) 10 = (v_2083 : Int32).toInt := by rw [hf_2103]; rfl
                have fe_2117 : fld (f_2096 a_0) 12 = (v_2086 : Int32).toInt := by rw [hf_2103]; rfl
                have hf_2118 := hF_2114.at hf_2097 rfl
                obtain ⟨v_2120, v_2121, v_2123, v_2125, v_2127, v_2129, v_2131, v_2132, v_2133, v_2134, v_2136, e_2119, b_2122, b_2124, b_2126, b_2128, b_2130, b_2135, b_2137⟩ := hW_2113.at m_1 t_2
                have fe_2138 : fld (f_2109 a_0) 8 = (v_2125 : Int32).toInt := by rw [e_2119]; rfl
                have fe_2139 : fld (f_2109 a_0) 9 = (v_2127 : Int32).toInt := by rw [e_2119]; rfl
                have fe_2140 : fld (f_2109 a_0) 12 = (v_2132 : Int32).toInt := by rw [e_2119]; rfl
                rw [fe_2140, fe_2117] at x_2111
                rw [fe_2140, fe_2116, fe_2115, fe_2139, fe_2138] at x_2112
                clear fe_2115 fe_2116 fe_2117 fe_2138 fe_2139 fe_2140
                refine v_aload_n hC dX12_readLoss_262 rfl ?_
                refine v_get hC fl_X12_34 m_1 e_2119 rfl dX12_readLoss_263 ?_
                refine v_bipush hC dX12_readLoss_266 (v := 6) (by decide) ?_
                refine v_dup2 hC dX12_readLoss_268 rfl rfl ?_
                have l6_2141 : (g_2099 6).toInt = (g_f 6).toInt := congrArg Int32.toInt ag_2106.2.1
                refine v_iald hC m_22 hf_2118 (vp_in_iff.mpr (by decide)) (v := g_2099 6) rfl dX12_readLoss_269 ?_
                refine v_iconst hC dX12_readLoss_270 (v := 1) (by decide) ?_
                obtain ⟨v_2142, h_2143⟩ : ∃ v9 : Int32, (g_2099 6) + 1 = v9 := ⟨_, rfl⟩
                refine v_iadd hC dX12_readLoss_271 h_2143 ?_
                have h_2144 := add_v h_2143 (by first | omega | (simp only [Int32.lt_iff_toInt_lt, Int32.le_iff_toInt_le, Int32.reduceToInt, ← Int32.toInt_inj, true_and, and_true, or_true, true_or, false_or, or_false, false_and, and_false, not_true_eq_false, not_false_eq_true] <;> omega)) (by first | omega | (simp only [Int32.lt_iff_toInt_lt, Int32.le_iff_toInt_le, Int32.reduceToInt, ← Int32.toInt_inj, true_and, and_true, or_true, true_or, false_or, or_false, false_and, and_false, not_true_eq_false, not_false_eq_true] <;> omega))
                try simp only [Int32.reduceToInt] at h_2144
                refine v_iast hC m_22 hf_2118 (vp_in_iff.mpr (by decide)) dX12_readLoss_272 (fun f_2145 hf_2146 hk_2147 => ?_)
                have hW_2149 := hW_2113.up hf_2146 hk_2147 t_23 ⟨_, rfl, (ok_2101.up (i := 6) (by decide) (fun q1 q2 => absurd (And.intro q1 q2) (by decide)) (fun k9 q1 q2 q3 => by simp only [Int32.reduceToInt] at q3; omega))⟩
                obtain ⟨g_2148, hf_2146, ok_2150, eg_2151⟩ : ∃ g9, f_2145 (q 14) = aI E 2076 g9 ∧ FOK g9 ∧ g9 = upd g_2099 (6 : Int32).toNatClampNeg v_2142 := ⟨_, hf_2146, (ok_2101.up (i := 6) (by decide) (fun q1 q2 => absurd (And.intro q1 q2) (by decide)) (fun k9 q1 q2 q3 => by simp only [Int32.reduceToInt] at q3; omega)), rfl⟩
                have hf_2152 := (hk_2147 a_0 (ne_kd e_2119 hf_2118 rfl)).trans e_2119
                have fr_2153 := FR.w hk_2147 hf_2118 (k := 2176) rfl
                have ln6_2154 := FOK.n6 ag_2106.1 eg_2151
                have ln6_2154_t : (g_2148 6).toInt = v_2142.toInt := congrArg Int32.toInt ln6_2154.2
                have fe_2155 : fld (f_2145 a_0) 12 = (v_2132 : Int32).toInt := by rw [hf_2152]; rfl
                have fe_2156 : fld (f_2145 a_0) 8 = (v_2125 : Int32).toInt := by rw [hf_2152]; rfl
                have fe_2157 : fld (f_2145 a_0) 12 = (v_2132 : Int32).toInt := by rw [hf_2152]; rfl
                have fe_2158 : fld (f_2145 a_0) 20 = (v_2136 : Int32).toInt := by rw [hf_2152]; rfl
                exact hR _ _ _ _ _ _ dX12_readLoss_273 (Nat.le_of_ble_eq_true rfl) (Nat.le_of_ble_eq_true rfl) ⟨rfl, hW_2149, (((((((((hF_1611.tr hF_1652).tr fr_2000).tr hF_2014).tr fr_2050).tr hF_2069).tr fr_2104).tr hF_2114).tr fr_2153).mono rfl), ⟨_, hf_2146, ln6_2154.1, (by omega), (by rw [fe_2155]; by_cases q9 : v_2132.toInt = 0; exact .inr (LO.fin hLO ag_2106 eg_2151 (by omega) (by omega) (fun q8 => by omega)); exact .inl q9)⟩, (by simp only [fe_2156, fe_2157, mz_43, mz_44, true_and, and_true, or_true, true_or, false_or, or_false, false_and, and_false, not_true_eq_false, not_false_eq_true] <;> first | omega | (simp only [Int32.lt_iff_toInt_lt, Int32.le_iff_toInt_le, Int32.reduceToInt, ← Int32.toInt_inj, true_and, and_true, or_true, true_or, false_or, or_false, false_and, and_false, not_true_eq_false, not_false_eq_true] <;> omega)), (by simp only [fe_2158, mz_45, true_and, and_true, or_true, true_or, false_or, or_false, false_and, and_false, not_true_eq_false, not_false_eq_true] <;> first | omega | (simp only [Int32.lt_iff_toInt_lt, Int32.le_iff_toInt_le, Int32.reduceToInt, ← Int32.toInt_inj, true_and, and_true, or_true, true_or, false_or, or_false, false_and, and_false, not_true_eq_false, not_false_eq_true] <;> omega))⟩
              · simp only [Int32.lt_iff_toInt_lt, Int32.le_iff_toInt_le, Int32.reduceToInt, ← Int32.toInt_inj] at h_1991
                refine v_aload_n hC dX12_readLoss_131 rfl ?_
                refine v_vv hC (rest := []) m_1 e_1656 rfl mi_X12_advance ms_X12_advance (p_X12_advance hW_1651 k_0) mx_X12_advance ml_X12_156 (by decide) rfl (cells1 := 0) (slots1 := 0) (by decide) (by decide) (Nat.le_of_ble_eq_true rfl) (Nat.le_of_ble_eq_true rfl) rfl (Nat.le_of_ble_eq_true rfl) dX12_readLoss_132 (fun L_2160 f_2161 h_2162 => ?_)
                obtain ⟨rfl, hW_2166, hF_2167, x_2163, x_2164, x_2165, -⟩ := h_2162
                have fe_2168 : fld (f_1647 a_0) 8 = (v_1662 : Int32).toInt := by rw [e_1656]; rfl
                have fe_2169 : fld (f_1647 a_0) 12 = (v_1669 : Int32).toInt := by rw [e_1656]; rfl
                have hf_2170 := hF_2167.at hf_1655 rfl
                obtain ⟨v_2172, v_2173, v_2175, v_2177, v_2179, v_2181, v_2183, v_2184, v_2185, v_2186, v_2188, e_2171, b_2174, b_2176, b_2178, b_2180, b_2182, b_2187, b_2189⟩ := hW_2166.at m_1 t_2
                have fe_2190 : fld (f_2161 a_0) 8 = (v_2177 : Int32).toInt := by rw [e_2171]; rfl
                have fe_2191 : fld (f_2161 a_0) 9 = (v_2179 : Int32).toInt := by rw [e_2171]; rfl
                have fe_2192 : fld (f_2161 a_0) 10 = (v_2181 : Int32).toInt := by rw [e_2171]; rfl
                have fe_2193 : fld (f_2161 a_0) 12 = (v_2184 : Int32).toInt := by rw [e_2171]; rfl
                rw [fe_2168, fe_2191, fe_2190] at x_2163
                rw [fe_2192, fe_2191, fe_2190] at x_2164
                rw [fe_2193, fe_2169] at x_2165
                clear fe_2168 fe_2169 fe_2190 fe_2191 fe_2192 fe_2193
                refine v_aload_n hC dX12_readLoss_135 rfl ?_
                refine v_get hC fl_X12_34 m_1 e_2171 rfl dX12_readLoss_136 ?_
                refine v_iload_n hC dX12_readLoss_139 rfl ?_
                refine v_iload_n hC dX12_readLoss_140 rfl ?_
                refine v_if_eq_f hC dX12_readLoss_141 (tgt := 148) (by decide) (by first | omega | (simp only [Int32.lt_iff_toInt_lt, Int32.le_iff_toInt_le, Int32.reduceToInt, ← Int32.toInt_inj, true_and, and_true, or_true, true_or, false_or, or_false, false_and, and_false, not_true_eq_false, not_false_eq_true] <;> omega)) ?_
                refine v_iconst hC dX12_readLoss_144 (v := 1) (by decide) ?_
                refine v_goto hC dX12_readLoss_145 (tgt := 149) (by decide) ?_
                refine v_iast hC m_22 hf_2170 (vp_in_iff.mpr (by first | omega | (simp only [Int32.lt_iff_toInt_lt, Int32.le_iff_toInt_le, Int32.reduceToInt, ← Int32.toInt_inj, true_and, and_true, or_true, true_or, false_or, or_false, false_and, and_false, not_true_eq_false, not_false_eq_true] <;> omega))) dX12_readLoss_149 (fun f_2194 hf_2195 hk_2196 => ?_)
                have hW_2198 := hW_2166.up hf_2195 hk_2196 t_23 ⟨_, rfl, (o_f.up (by first | omega | (simp only [Int32.lt_iff_toInt_lt, Int32.le_iff_toInt_le, Int32.reduceToInt, ← Int32.toInt_inj, true_and, and_true, or_true, true_or, false_or, or_false, false_and, and_false, not_true_eq_false, not_false_eq_true] <;> omega)) (fun q1 q2 => (by first | omega | (simp only [Int32.lt_iff_toInt_lt, Int32.le_iff_toInt_le, Int32.reduceToInt, ← Int32.toInt_inj] at *; omega))) (fun k9 q1 q2 q3 => (by first | omega | (simp only [Int32.lt_iff_toInt_lt, Int32.le_iff_toInt_le, Int32.reduceToInt, ← Int32.toInt_inj] at *; omega))))⟩
                obtain ⟨g_2197, hf_2195, ok_2199, eg_2200⟩ : ∃ g9, f_2194 (q 14) = aI E 2076 g9 ∧ FOK g9 ∧ g9 = upd g_f (v_49 : Int32).toNatClampNeg 1 := ⟨_, hf_2195, (o_f.up (by first | omega | (simp only [Int32.lt_iff_toInt_lt, Int32.le_iff_toInt_le, Int32.reduceToInt, ← Int32.toInt_inj, true_and, and_true, or_true, true_or, false_or, or_false, false_and, and_false, not_true_eq_false, not_false_eq_true] <;> omega)) (fun q1 q2 => (by first | omega | (simp only [Int32.lt_iff_toInt_lt, Int32.le_iff_toInt_le, Int32.reduceToInt, ← Int32.toInt_inj] at *; omega))) (fun k9 q1 q2 q3 => (by first | omega | (simp only [Int32.lt_iff_toInt_lt, Int32.le_iff_toInt_le, Int32.reduceToInt, ← Int32.toInt_inj] at *; omega)))), rfl⟩
                have hf_2201 := (hk_2196 a_0 (ne_kd e_2171 hf_2170 rfl)).trans e_2171
                have fr_2202 := FR.w hk_2196 hf_2170 (k := 2176) rfl
                have lk_2203 := lk_at (g0 := g_f) eg_2200 (by omega) (by omega)
                have ag_2204 := (AG.rf o_f).st eg_2200 (by omega) (by omega)
                try simp only [Int32.reduceToInt] at lk_2203
                refine v_aload_n hC dX12_readLoss_150 rfl ?_
                refine v_get hC fl_X12_34 m_1 hf_2201 rfl dX12_readLoss_151 ?_
                refine v_iload_n hC dX12_readLoss_154 rfl ?_
                refine v_iconst hC dX12_readLoss_155 (v := 1) (by decide) ?_
                obtain ⟨v_2205, h_2206⟩ : ∃ v9 : Int32, v_49 + 1 = v9 := ⟨_, rfl⟩
                refine v_iadd hC dX12_readLoss_156 h_2206 ?_
                have h_2207 := add_v h_2206 (by first | omega | (simp only [Int32.lt_iff_toInt_lt, Int32.le_iff_toInt_le, Int32.reduceToInt, ← Int32.toInt_inj, true_and, and_true, or_true, true_or, false_or, or_false, false_and, and_false, not_true_eq_false, not_false_eq_true] <;> omega)) (by first | omega | (simp only [Int32.lt_iff_toInt_lt, Int32.le_iff_toInt_le, Int32.reduceToInt, ← Int32.toInt_inj, true_and, and_true, or_true, true_or, false_or, or_false, false_and, and_false, not_true_eq_false, not_false_eq_true] <;> omega))
                try simp only [Int32.reduceToInt] at h_2207
                refine v_aload_n hC dX12_readLoss_157 rfl ?_
                refine v_iconst hC dX12_readLoss_158 (v := 0) (by decide) ?_
                refine v_bipush hC dX12_readLoss_159 (v := 15) (by decide) ?_
                refine v_vi hC (rest := [.int v_2205, .ref (q 14)]) m_1 hf_2201 rfl mi_X12_number ms_X12_number (p_X12_number hW_2198 k_0) mx_X12_number ml_X12_170 (by decide) rfl (cells1 := 0) (slots1 := 0) (by decide) (by decide) (Nat.le_of_ble_eq_true rfl) (Nat.le_of_ble_eq_true rfl) rfl (Nat.le_of_ble_eq_true rfl) dX12_readLoss_161 (fun r_2208 L_2209 f_2210 h_2211 => ?_)
                obtain ⟨rfl, hW_2215, hF_2216, x_2212, x_2213, x_2214, -, -⟩ := h_2211
                have fe_2217 : fld (f_2194 a_0) 8 = (v_2177 : Int32).toInt := by rw [hf_2201]; rfl
                have fe_2218 : fld (f_2194 a_0) 10 = (v_2181 : Int32).toInt := by rw [hf_2201]; rfl
                have fe_2219 : fld (f_2194 a_0) 12 = (v_2184 : Int32).toInt := by rw [hf_2201]; rfl
                have hf_2220 := hF_2216.at hf_2195 rfl
                obtain ⟨v_2222, v_2223, v_2225, v_2227, v_2229, v_2231, v_2233, v_2234, v_2235, v_2236, v_2238, e_2221, b_2224, b_2226, b_2228, b_2230, b_2232, b_2237, b_2239⟩ := hW_2215.at m_1 t_2
                have fe_2240 : fld (f_2210 a_0) 8 = (v_2227 : Int32).toInt := by rw [e_2221]; rfl
                have fe_2241 : fld (f_2210 a_0) 9 = (v_2229 : Int32).toInt := by rw [e_2221]; rfl
                have fe_2242 : fld (f_2210 a_0) 10 = (v_2231 : Int32).toInt := by rw [e_2221]; rfl
                have fe_2243 : fld (f_2210 a_0) 12 = (v_2234 : Int32).toInt := by rw [e_2221]; rfl
                rw [fe_2243, fe_2219] at x_2212
                rw [fe_2243, fe_2218, fe_2217, fe_2241, fe_2240] at x_2213
                rw [fe_2243, fe_2242, fe_2241, fe_2240] at x_2214
                clear fe_2217 fe_2218 fe_2219 fe_2240 fe_2241 fe_2242 fe_2243
                try simp only [Int32.reduceToInt, Int64.reduceToInt] at x_2212
                try simp only [Int32.reduceToInt, Int64.reduceToInt] at x_2213
                try simp only [Int32.reduceToInt, Int64.reduceToInt] at x_2214
                refine v_iast hC m_22 hf_2220 (vp_in_iff.mpr (by first | omega | (simp only [Int32.lt_iff_toInt_lt, Int32.le_iff_toInt_le, Int32.reduceToInt, ← Int32.toInt_inj, true_and, and_true, or_true, true_or, false_or, or_false, false_and, and_false, not_true_eq_false, not_false_eq_true] <;> omega))) dX12_readLoss_164 (fun f_2244 hf_2245 hk_2246 => ?_)
                have hW_2248 := hW_2215.up hf_2245 hk_2246 t_23 ⟨_, rfl, (ok_2199.up (by first | omega | (simp only [Int32.lt_iff_toInt_lt, Int32.le_iff_toInt_le, Int32.reduceToInt, ← Int32.toInt_inj, true_and, and_true, or_true, true_or, false_or, or_false, false_and, and_false, not_true_eq_false, not_false_eq_true] <;> omega)) (fun q1 q2 => (by first | omega | (simp only [Int32.lt_iff_toInt_lt, Int32.le_iff_toInt_le, Int32.reduceToInt, ← Int32.toInt_inj] at *; omega))) (fun k9 q1 q2 q3 => (by first | omega | (simp only [Int32.lt_iff_toInt_lt, Int32.le_iff_toInt_le, Int32.reduceToInt, ← Int32.toInt_inj] at *; omega))))⟩
                obtain ⟨g_2247, hf_2245, ok_2249, eg_2250⟩ : ∃ g9, f_2244 (q 14) = aI E 2076 g9 ∧ FOK g9 ∧ g9 = upd g_2197 (v_2205 : Int32).toNatClampNeg r_2208 := ⟨_, hf_2245, (ok_2199.up (by first | omega | (simp only [Int32.lt_iff_toInt_lt, Int32.le_iff_toInt_le, Int32.reduceToInt, ← Int32.toInt_inj, true_and, and_true, or_true, true_or, false_or, or_false, false_and, and_false, not_true_eq_false, not_false_eq_true] <;> omega)) (fun q1 q2 => (by first | omega | (simp only [Int32.lt_iff_toInt_lt, Int32.le_iff_toInt_le, Int32.reduceToInt, ← Int32.toInt_inj] at *; omega))) (fun k9 q1 q2 q3 => (by first | omega | (simp only [Int32.lt_iff_toInt_lt, Int32.le_iff_toInt_le, Int32.reduceToInt, ← Int32.toInt_inj] at *; omega)))), rfl⟩
                have hf_2251 := (hk_2246 a_0 (ne_kd e_2221 hf_2220 rfl)).trans e_2221
                have fr_2252 := FR.w hk_2246 hf_2220 (k := 2176) rfl
                have lk_2253 := lf_at (g0 := g_f) eg_2250 (by omega) (by omega)
                have ag_2254 := ag_2204.st eg_2250 (by omega) (by omega)
                try simp only [Int32.reduceToInt] at lk_2253
                refine v_aload_n hC dX12_readLoss_165 rfl ?_
                refine v_get hC fl_X12_34 m_1 hf_2251 rfl dX12_readLoss_166 ?_
                refine v_iload_n hC dX12_readLoss_169 rfl ?_
                refine v_iconst hC dX12_readLoss_170 (v := 2) (by decide) ?_
                obtain ⟨v_2255, h_2256⟩ : ∃ v9 : Int32, v_49 + 2 = v9 := ⟨_, rfl⟩
                refine v_iadd hC dX12_readLoss_171 h_2256 ?_
                have h_2257 := add_v h_2256 (by first | omega | (simp only [Int32.lt_iff_toInt_lt, Int32.le_iff_toInt_le, Int32.reduceToInt, ← Int32.toInt_inj, true_and, and_true, or_true, true_or, false_or, or_false, false_and, and_false, not_true_eq_false, not_false_eq_true] <;> omega)) (by first | omega | (simp only [Int32.lt_iff_toInt_lt, Int32.le_iff_toInt_le, Int32.reduceToInt, ← Int32.toInt_inj, true_and, and_true, or_true, true_or, false_or, or_false, false_and, and_false, not_true_eq_false, not_false_eq_true] <;> omega))
                try simp only [Int32.reduceToInt] at h_2257
                refine v_aload_n hC dX12_readLoss_172 rfl ?_
                refine v_ldcwS hC sr_X12_295 dX12_readLoss_173 ?_
                refine v_aload_n hC dX12_readLoss_176 rfl ?_
                refine v_get hC fl_X12_34 m_1 hf_2251 rfl dX12_readLoss_177 ?_
                refine v_iload_n hC dX12_readLoss_180 rfl ?_
                refine v_iconst hC dX12_readLoss_181 (v := 1) (by decide) ?_
                obtain ⟨v_2258, h_2259⟩ : ∃ v9 : Int32, v_49 + 1 = v9 := ⟨_, rfl⟩
                refine v_iadd hC dX12_readLoss_182 h_2259 ?_
                have h_2260 := add_v h_2259 (by first | omega | (simp only [Int32.lt_iff_toInt_lt, Int32.le_iff_toInt_le, Int32.reduceToInt, ← Int32.toInt_inj, true_and, and_true, or_true, true_or, false_or, or_false, false_and, and_false, not_true_eq_false, not_false_eq_true] <;> omega)) (by first | omega | (simp only [Int32.lt_iff_toInt_lt, Int32.le_iff_toInt_le, Int32.reduceToInt, ← Int32.toInt_inj, true_and, and_true, or_true, true_or, false_or, or_false, false_and, and_false, not_true_eq_false, not_false_eq_true] <;> omega))
                try simp only [Int32.reduceToInt] at h_2260
                obtain ⟨v_2261, h_2262⟩ : ∃ v9 : Int32, g_2247 (v_2258 : Int32).toNatClampNeg = v9 := ⟨_, rfl⟩
                refine v_iald hC m_22 hf_2245 (vp_in_iff.mpr (by first | omega | (simp only [Int32.lt_iff_toInt_lt, Int32.le_iff_toInt_le, Int32.reduceToInt, ← Int32.toInt_inj, true_and, and_true, or_true, true_or, false_or, or_false, false_and, and_false, not_true_eq_false, not_false_eq_true] <;> omega))) h_2262 dX12_readLoss_183 ?_
                refine v_bipush hC dX12_readLoss_184 (v := 15) (by decide) ?_
                refine v_vi hC (rest := [.int v_2255, .ref (q 14)]) m_1 hf_2251 rfl mi_X12_told ms_X12_told (p_X12_told hW_2248 k_0 (by decide)) mx_X12_told ml_X12_189 (by decide) rfl (cells1 := 0) (slots1 := 0) (by decide) (by decide) (Nat.le_of_ble_eq_true rfl) (Nat.le_of_ble_eq_true rfl) rfl (Nat.le_of_ble_eq_true rfl) dX12_readLoss_186 (fun r_2263 L_2264 f_2265 h_2266 => ?_)
                obtain ⟨rfl, hW_2270, hF_2271, x_2267, x_2268, x_2269, -, -⟩ := h_2266
                have fe_2272 : fld (f_2244 a_0) 8 = (v_2227 : Int32).toInt := by rw [hf_2251]; rfl
                have fe_2273 : fld (f_2244 a_0) 12 = (v_2234 : Int32).toInt := by rw [hf_2251]; rfl
                have hf_2274 := hF_2271.at hf_2245 rfl
                obtain ⟨v_2276, v_2277, v_2279, v_2281, v_2283, v_2285, v_2287, v_2288, v_2289, v_2290, v_2292, e_2275, b_2278, b_2280, b_2282, b_2284, b_2286, b_2291, b_2293⟩ := hW_2270.at m_1 t_2
                have fe_2294 : fld (f_2265 a_0) 8 = (v_2281 : Int32).toInt := by rw [e_2275]; rfl
                have fe_2295 : fld (f_2265 a_0) 9 = (v_2283 : Int32).toInt := by rw [e_2275]; rfl
                have fe_2296 : fld (f_2265 a_0) 10 = (v_2285 : Int32).toInt := by rw [e_2275]; rfl
                have fe_2297 : fld (f_2265 a_0) 12 = (v_2288 : Int32).toInt := by rw [e_2275]; rfl
                rw [fe_2297, fe_2273] at x_2267
                rw [fe_2297, fe_2272, fe_2295, fe_2294] at x_2268
                rw [fe_2297, fe_2296, fe_2295, fe_2294] at x_2269
                clear fe_2272 fe_2273 fe_2294 fe_2295 fe_2296 fe_2297
                try simp only [Int32.reduceToInt, Int64.reduceToInt] at x_2267
                try simp only [Int32.reduceToInt, Int64.reduceToInt] at x_2268
                try simp only [Int32.reduceToInt, Int64.reduceToInt] at x_2269
                refine v_iast hC m_22 hf_2274 (vp_in_iff.mpr (by first | omega | (simp only [Int32.lt_iff_toInt_lt, Int32.le_iff_toInt_le, Int32.reduceToInt, ← Int32.toInt_inj, true_and, and_true, or_true, true_or, false_or, or_false, false_and, and_false, not_true_eq_false, not_false_eq_true] <;> omega))) dX12_readLoss_189 (fun f_2298 hf_2299 hk_2300 => ?_)
                have hW_2302 := hW_2270.up hf_2299 hk_2300 t_23 ⟨_, rfl, (ok_2249.up (by first | omega | (simp only [Int32.lt_iff_toInt_lt, Int32.le_iff_toInt_le, Int32.reduceToInt, ← Int32.toInt_inj, true_and, and_true, or_true, true_or, false_or, or_false, false_and, and_false, not_true_eq_false, not_false_eq_true] <;> omega)) (fun q1 q2 => (by first | omega | (simp only [Int32.lt_iff_toInt_lt, Int32.le_iff_toInt_le, Int32.reduceToInt, ← Int32.toInt_inj] at *; omega))) (fun k9 q1 q2 q3 => (by first | omega | (simp only [Int32.lt_iff_toInt_lt, Int32.le_iff_toInt_le, Int32.reduceToInt, ← Int32.toInt_inj] at *; omega))))⟩
                obtain ⟨g_2301, hf_2299, ok_2303, eg_2304⟩ : ∃ g9, f_2298 (q 14) = aI E 2076 g9 ∧ FOK g9 ∧ g9 = upd g_2247 (v_2255 : Int32).toNatClampNeg r_2263 := ⟨_, hf_2299, (ok_2249.up (by first | omega | (simp only [Int32.lt_iff_toInt_lt, Int32.le_iff_toInt_le, Int32.reduceToInt, ← Int32.toInt_inj, true_and, and_true, or_true, true_or, false_or, or_false, false_and, and_false, not_true_eq_false, not_false_eq_true] <;> omega)) (fun q1 q2 => (by first | omega | (simp only [Int32.lt_iff_toInt_lt, Int32.le_iff_toInt_le, Int32.reduceToInt, ← Int32.toInt_inj] at *; omega))) (fun k9 q1 q2 q3 => (by first | omega | (simp only [Int32.lt_iff_toInt_lt, Int32.le_iff_toInt_le, Int32.reduceToInt, ← Int32.toInt_inj] at *; omega)))), rfl⟩
                have hf_2305 := (hk_2300 a_0 (ne_kd e_2275 hf_2274 rfl)).trans e_2275
                have fr_2306 := FR.w hk_2300 hf_2274 (k := 2176) rfl
                have lk_2307 := l2_at (g0 := g_f) eg_2304 (by omega) (by omega)
                have ag_2308 := ag_2254.st eg_2304 (by omega) (by omega)
                try simp only [Int32.reduceToInt] at lk_2307
                refine v_goto hC dX12_readLoss_190 (tgt := 258) (by decide) ?_
                refine v_aload_n hC dX12_readLoss_258 rfl ?_
                refine v_vv hC (rest := []) m_1 hf_2305 rfl mi_X12_ends ms_X12_ends (p_X12_ends hW_2302 k_0) mx_X12_ends ml_X12_178 (by decide) rfl (cells1 := 0) (slots1 := 0) (by decide) (by decide) (Nat.le_of_ble_eq_true rfl) (Nat.le_of_ble_eq_true rfl) rfl (Nat.le_of_ble_eq_true rfl) dX12_readLoss_259 (fun L_2310 f_2311 h_2312 => ?_)
                obtain ⟨rfl, hW_2315, hF_2316, x_2313, x_2314, -, -⟩ := h_2312
                have fe_2317 : fld (f_2298 a_0) 8 = (v_2281 : Int32).toInt := by rw [hf_2305]; rfl
                have fe_2318 : fld (f_2298 a_0) 10 = (v_2285 : Int32).toInt := by rw [hf_2305]; rfl
                have fe_2319 : fld (f_2298 a_0) 12 = (v_2288 : Int32).toInt := by rw [hf_2305]; rfl
                have hf_2320 := hF_2316.at hf_2299 rfl
                obtain ⟨v_2322, v_2323, v_2325, v_2327, v_2329, v_2331, v_2333, v_2334, v_2335, v_2336, v_2338, e_2321, b_2324, b_2326, b_2328, b_2330, b_2332, b_2337, b_2339⟩ := hW_2315.at m_1 t_2
                have fe_2340 : fld (f_2311 a_0) 8 = (v_2327 : Int32).toInt := by rw [e_2321]; rfl
                have fe_2341 : fld (f_2311 a_0) 9 = (v_2329 : Int32).toInt := by rw [e_2321]; rfl
                have fe_2342 : fld (f_2311 a_0) 12 = (v_2334 : Int32).toInt := by rw [e_2321]; rfl
                rw [fe_2342, fe_2319] at x_2313
                rw [fe_2342, fe_2318, fe_2317, fe_2341, fe_2340] at x_2314
                clear fe_2317 fe_2318 fe_2319 fe_2340 fe_2341 fe_2342
                refine v_aload_n hC dX12_readLoss_262 rfl ?_
                refine v_get hC fl_X12_34 m_1 e_2321 rfl dX12_readLoss_263 ?_
                refine v_bipush hC dX12_readLoss_266 (v := 6) (by decide) ?_
                refine v_dup2 hC dX12_readLoss_268 rfl rfl ?_
                have l6_2343 : (g_2301 6).toInt = (g_f 6).toInt := congrArg Int32.toInt ag_2308.2.1
                refine v_iald hC m_22 hf_2320 (vp_in_iff.mpr (by decide)) (v := g_2301 6) rfl dX12_readLoss_269 ?_
                refine v_iconst hC dX12_readLoss_270 (v := 1) (by decide) ?_
                obtain ⟨v_2344, h_2345⟩ : ∃ v9 : Int32, (g_2301 6) + 1 = v9 := ⟨_, rfl⟩
                refine v_iadd hC dX12_readLoss_271 h_2345 ?_
                have h_2346 := add_v h_2345 (by first | omega | (simp only [Int32.lt_iff_toInt_lt, Int32.le_iff_toInt_le, Int32.reduceToInt, ← Int32.toInt_inj, true_and, and_true, or_true, true_or, false_or, or_false, false_and, and_false, not_true_eq_false, not_false_eq_true] <;> omega)) (by first | omega | (simp only [Int32.lt_iff_toInt_lt, Int32.le_iff_toInt_le, Int32.reduceToInt, ← Int32.toInt_inj, true_and, and_true, or_true, true_or, false_or, or_false, false_and, and_false, not_true_eq_false, not_false_eq_true] <;> omega))
                try simp only [Int32.reduceToInt] at h_2346
                refine v_iast hC m_22 hf_2320 (vp_in_iff.mpr (by decide)) dX12_readLoss_272 (fun f_2347 hf_2348 hk_2349 => ?_)
                have hW_2351 := hW_2315.up hf_2348 hk_2349 t_23 ⟨_, rfl, (ok_2303.up (i := 6) (by decide) (fun q1 q2 => absurd (And.intro q1 q2) (by decide)) (fun k9 q1 q2 q3 => by simp only [Int32.reduceToInt] at q3; omega))⟩
                obtain ⟨g_2350, hf_2348, ok_2352, eg_2353⟩ : ∃ g9, f_2347 (q 14) = aI E 2076 g9 ∧ FOK g9 ∧ g9 = upd g_2301 (6 : Int32).toNatClampNeg v_2344 := ⟨_, hf_2348, (ok_2303.up (i := 6) (by decide) (fun q1 q2 => absurd (And.intro q1 q2) (by decide)) (fun k9 q1 q2 q3 => by simp only [Int32.reduceToInt] at q3; omega)), rfl⟩
                have hf_2354 := (hk_2349 a_0 (ne_kd e_2321 hf_2320 rfl)).trans e_2321
                have fr_2355 := FR.w hk_2349 hf_2320 (k := 2176) rfl
                have ln6_2356 := FOK.n6 ag_2308.1 eg_2353
                have ln6_2356_t : (g_2350 6).toInt = v_2344.toInt := congrArg Int32.toInt ln6_2356.2
                have fe_2357 : fld (f_2347 a_0) 12 = (v_2334 : Int32).toInt := by rw [hf_2354]; rfl
                have fe_2358 : fld (f_2347 a_0) 8 = (v_2327 : Int32).toInt := by rw [hf_2354]; rfl
                have fe_2359 : fld (f_2347 a_0) 12 = (v_2334 : Int32).toInt := by rw [hf_2354]; rfl
                have fe_2360 : fld (f_2347 a_0) 20 = (v_2338 : Int32).toInt := by rw [hf_2354]; rfl
                exact hR _ _ _ _ _ _ dX12_readLoss_273 (Nat.le_of_ble_eq_true rfl) (Nat.le_of_ble_eq_true rfl) ⟨rfl, hW_2351, ((((((((((hF_1611.tr hF_1652).tr hF_2167).tr fr_2202).tr hF_2216).tr fr_2252).tr hF_2271).tr fr_2306).tr hF_2316).tr fr_2355).mono rfl), ⟨_, hf_2348, ln6_2356.1, (by omega), (by rw [fe_2357]; by_cases q9 : v_2334.toInt = 0; exact .inr (LO.fin hLO ag_2308 eg_2353 (by omega) (by omega) (fun q8 => by omega)); exact .inl q9)⟩, (by simp only [fe_2358, fe_2359, mz_43, mz_44, true_and, and_true, or_true, true_or, false_or, or_false, false_and, and_false, not_true_eq_false, not_false_eq_true] <;> first | omega | (simp only [Int32.lt_iff_toInt_lt, Int32.le_iff_toInt_le, Int32.reduceToInt, ← Int32.toInt_inj, true_and, and_true, or_true, true_or, false_or, or_false, false_and, and_false, not_true_eq_false, not_false_eq_true] <;> omega)), (by simp only [fe_2360, mz_45, true_and, and_true, or_true, true_or, false_or, or_false, false_and, and_false, not_true_eq_false, not_false_eq_true] <;> first | omega | (simp only [Int32.lt_iff_toInt_lt, Int32.le_iff_toInt_le, Int32.reduceToInt, ← Int32.toInt_inj, true_and, and_true, or_true, true_or, false_or, or_false, false_and, and_false, not_true_eq_false, not_false_eq_true] <;> omega))⟩
            · simp only [Int32.lt_iff_toInt_lt, Int32.le_iff_toInt_le, Int32.reduceToInt, ← Int32.toInt_inj] at h_1981
              refine v_aload_n hC dX12_readLoss_110 rfl ?_
              refine v_ldcS hC sr_X12_193 dX12_readLoss_111 ?_
              refine v_vi hC (rest := []) m_1 e_1656 rfl mi_X12_is ms_X12_is (p_X12_is hW_1651 k_0 (by decide)) mx_X12_is ml_X12_152 (by decide) rfl (cells1 := 0) (slots1 := 0) (by decide) (by decide) (Nat.le_of_ble_eq_true rfl) (Nat.le_of_ble_eq_true rfl) rfl (Nat.le_of_ble_eq_true rfl) dX12_readLoss_113 (fun r_2361 L_2362 f_2363 h_2364 => ?_)
              obtain ⟨rfl, rfl, rfl⟩ := h_2364
              refine v_if_ne hC dX12_readLoss_116 (tgt := 124) (by decide) (fun h_2367 => ?_) (fun h_2367 => ?_)
              · simp only [Int32.lt_iff_toInt_lt, Int32.le_iff_toInt_le, Int32.reduceToInt, ← Int32.toInt_inj] at h_2367
                refine v_aload_n hC dX12_readLoss_124 rfl ?_
                refine v_vi hC (rest := []) m_1 e_1656 rfl mi_X12_good ms_X12_good (p_X12_good hW_1651 k_0) mx_X12_good ml_X12_139 (by decide) rfl (cells1 := 0) (slots1 := 0) (by decide) (by decide) (Nat.le_of_ble_eq_true rfl) (Nat.le_of_ble_eq_true rfl) rfl (Nat.le_of_ble_eq_true rfl) dX12_readLoss_125 (fun r_2368 L_2369 f_2370 h_2371 => ?_)
                obtain ⟨rfl, rfl, b_2372, x_2373⟩ := h_2371
                have fe_2376 : fld (f_1647 a_0) 12 = (v_1669 : Int32).toInt := by rw [e_1656]; rfl
                rw [fe_2376] at x_2373
                clear fe_2376
                try simp only [Int32.reduceToInt, Int64.reduceToInt] at x_2373
                refine v_if_eq hC dX12_readLoss_128 (tgt := 135) (by decide) (fun h_2377 => ?_) (fun h_2377 => ?_)
                · simp only [Int32.lt_iff_toInt_lt, Int32.le_iff_toInt_le, Int32.reduceToInt, ← Int32.toInt_inj] at h_2377
                  refine v_aload_n hC dX12_readLoss_135 rfl ?_
                  refine v_get hC fl_X12_34 m_1 e_1656 rfl dX12_readLoss_136 ?_
                  refine v_iload_n hC dX12_readLoss_139 rfl ?_
                  refine v_iload_n hC dX12_readLoss_140 rfl ?_
                  refine v_if_eq_t hC dX12_readLoss_141 (tgt := 148) (by decide) (by first | omega | (simp only [Int32.lt_iff_toInt_lt, Int32.le_iff_toInt_le, Int32.reduceToInt, ← Int32.toInt_inj, true_and, and_true, or_true, true_or, false_or, or_false, false_and, and_false, not_true_eq_false, not_false_eq_true] <;> omega)) ?_
                  refine v_iconst hC dX12_readLoss_148 (v := 0) (by decide) ?_
                  refine v_iast hC m_22 hf_1655 (vp_in_iff.mpr (by first | omega | (simp only [Int32.lt_iff_toInt_lt, Int32.le_iff_toInt_le, Int32.reduceToInt, ← Int32.toInt_inj, true_and, and_true, or_true, true_or, false_or, or_false, false_and, and_false, not_true_eq_false, not_false_eq_true] <;> omega))) dX12_readLoss_149 (fun f_2378 hf_2379 hk_2380 => ?_)
                  have hW_2382 := hW_1651.up hf_2379 hk_2380 t_23 ⟨_, rfl, (o_f.up (by first | omega | (simp only [Int32.lt_iff_toInt_lt, Int32.le_iff_toInt_le, Int32.reduceToInt, ← Int32.toInt_inj, true_and, and_true, or_true, true_or, false_or, or_false, false_and, and_false, not_true_eq_false, not_false_eq_true] <;> omega)) (fun q1 q2 => (by first | omega | (simp only [Int32.lt_iff_toInt_lt, Int32.le_iff_toInt_le, Int32.reduceToInt, ← Int32.toInt_inj] at *; omega))) (fun k9 q1 q2 q3 => (by first | omega | (simp only [Int32.lt_iff_toInt_lt, Int32.le_iff_toInt_le, Int32.reduceToInt, ← Int32.toInt_inj] at *; omega))))⟩
                  obtain ⟨g_2381, hf_2379, ok_2383, eg_2384⟩ : ∃ g9, f_2378 (q 14) = aI E 2076 g9 ∧ FOK g9 ∧ g9 = upd g_f (v_49 : Int32).toNatClampNeg 0 := ⟨_, hf_2379, (o_f.up (by first | omega | (simp only [Int32.lt_iff_toInt_lt, Int32.le_iff_toInt_le, Int32.reduceToInt, ← Int32.toInt_inj, true_and, and_true, or_true, true_or, false_or, or_false, false_and, and_false, not_true_eq_false, not_false_eq_true] <;> omega)) (fun q1 q2 => (by first | omega | (simp only [Int32.lt_iff_toInt_lt, Int32.le_iff_toInt_le, Int32.reduceToInt, ← Int32.toInt_inj] at *; omega))) (fun k9 q1 q2 q3 => (by first | omega | (simp only [Int32.lt_iff_toInt_lt, Int32.le_iff_toInt_le, Int32.reduceToInt, ← Int32.toInt_inj] at *; omega)))), rfl⟩
                  have hf_2385 := (hk_2380 a_0 (ne_kd e_1656 hf_1655 rfl)).trans e_1656
                  have fr_2386 := FR.w hk_2380 hf_1655 (k := 2176) rfl
                  have lk_2387 := lk_at (g0 := g_f) eg_2384 (by omega) (by omega)
                  have ag_2388 := (AG.rf o_f).st eg_2384 (by omega) (by omega)
                  try simp only [Int32.reduceToInt] at lk_2387
                  refine v_aload_n hC dX12_readLoss_150 rfl ?_
                  refine v_get hC fl_X12_34 m_1 hf_2385 rfl dX12_readLoss_151 ?_
                  refine v_iload_n hC dX12_readLoss_154 rfl ?_
                  refine v_iconst hC dX12_readLoss_155 (v := 1) (by decide) ?_
                  obtain ⟨v_2389, h_2390⟩ : ∃ v9 : Int32, v_49 + 1 = v9 := ⟨_, rfl⟩
                  refine v_iadd hC dX12_readLoss_156 h_2390 ?_
                  have h_2391 := add_v h_2390 (by first | omega | (simp only [Int32.lt_iff_toInt_lt, Int32.le_iff_toInt_le, Int32.reduceToInt, ← Int32.toInt_inj, true_and, and_true, or_true, true_or, false_or, or_false, false_and, and_false, not_true_eq_false, not_false_eq_true] <;> omega)) (by first | omega | (simp only [Int32.lt_iff_toInt_lt, Int32.le_iff_toInt_le, Int32.reduceToInt, ← Int32.toInt_inj, true_and, and_true, or_true, true_or, false_or, or_false, false_and, and_false, not_true_eq_false, not_false_eq_true] <;> omega))
                  try simp only [Int32.reduceToInt] at h_2391
                  refine v_aload_n hC dX12_readLoss_157 rfl ?_
                  refine v_iconst hC dX12_readLoss_158 (v := 0) (by decide) ?_
                  refine v_bipush hC dX12_readLoss_159 (v := 15) (by decide) ?_
                  refine v_vi hC (rest := [.int v_2389, .ref (q 14)]) m_1 hf_2385 rfl mi_X12_number ms_X12_number (p_X12_number hW_2382 k_0) mx_X12_number ml_X12_170 (by decide) rfl (cells1 := 0) (slots1 := 0) (by decide) (by decide) (Nat.le_of_ble_eq_true rfl) (Nat.le_of_ble_eq_true rfl) rfl (Nat.le_of_ble_eq_true rfl) dX12_readLoss_161 (fun r_2392 L_2393 f_2394 h_2395 => ?_)
                  obtain ⟨rfl, hW_2399, hF_2400, x_2396, x_2397, x_2398, -, -⟩ := h_2395
                  have fe_2401 : fld (f_2378 a_0) 8 = (v_1662 : Int32).toInt := by rw [hf_2385]; rfl
                  have fe_2402 : fld (f_2378 a_0) 10 = (v_1666 : Int32).toInt := by rw [hf_2385]; rfl
                  have fe_2403 : fld (f_2378 a_0) 12 = (v_1669 : Int32).toInt := by rw [hf_2385]; rfl
                  have hf_2404 := hF_2400.at hf_2379 rfl
                  obtain ⟨v_2406, v_2407, v_2409, v_2411, v_2413, v_2415, v_2417, v_2418, v_2419, v_2420, v_2422, e_2405, b_2408, b_2410, b_2412, b_2414, b_2416, b_2421, b_2423⟩ := hW_2399.at m_1 t_2
                  have fe_2424 : fld (f_2394 a_0) 8 = (v_2411 : Int32).toInt := by rw [e_2405]; rfl
                  have fe_2425 : fld (f_2394 a_0) 9 = (v_2413 : Int32).toInt := by rw [e_2405]; rfl
                  have fe_2426 : fld (f_2394 a_0) 10 = (v_2415 : Int32).toInt := by rw [e_2405]; rfl
                  have fe_2427 : fld (f_2394 a_0) 12 = (v_2418 : Int32).toInt := by rw [e_2405]; rfl
                  rw [fe_2427, fe_2403] at x_2396
                  rw [fe_2427, fe_2402, fe_2401, fe_2425, fe_2424] at x_2397
                  rw [fe_2427, fe_2426, fe_2425, fe_2424] at x_2398
                  clear fe_2401 fe_2402 fe_2403 fe_2424 fe_2425 fe_2426 fe_2427
                  try simp only [Int32.reduceToInt, Int64.reduceToInt] at x_2396
                  try simp only [Int32.reduceToInt, Int64.reduceToInt] at x_2397
                  try simp only [Int32.reduceToInt, Int64.reduceToInt] at x_2398
                  refine v_iast hC m_22 hf_2404 (vp_in_iff.mpr (by first | omega | (simp only [Int32.lt_iff_toInt_lt, Int32.le_iff_toInt_le, Int32.reduceToInt, ← Int32.toInt_inj, true_and, and_true, or_true, true_or, false_or, or_false, false_and, and_false, not_true_eq_false, not_false_eq_true] <;> omega))) dX12_readLoss_164 (fun f_2428 hf_2429 hk_2430 => ?_)
                  have hW_2432 := hW_2399.up hf_2429 hk_2430 t_23 ⟨_, rfl, (ok_2383.up (by first | omega | (simp only [Int32.lt_iff_toInt_lt, Int32.le_iff_toInt_le, Int32.reduceToInt, ← Int32.toInt_inj, true_and, and_true, or_true, true_or, false_or, or_false, false_and, and_false, not_true_eq_false, not_false_eq_true] <;> omega)) (fun q1 q2 => (by first | omega | (simp only [Int32.lt_iff_toInt_lt, Int32.le_iff_toInt_le, Int32.reduceToInt, ← Int32.toInt_inj] at *; omega))) (fun k9 q1 q2 q3 => (by first | omega | (simp only [Int32.lt_iff_toInt_lt, Int32.le_iff_toInt_le, Int32.reduceToInt, ← Int32.toInt_inj] at *; omega))))⟩
                  obtain ⟨g_2431, hf_2429, ok_2433, eg_2434⟩ : ∃ g9, f_2428 (q 14) = aI E 2076 g9 ∧ FOK g9 ∧ g9 = upd g_2381 (v_2389 : Int32).toNatClampNeg r_2392 := ⟨_, hf_2429, (ok_2383.up (by first | omega | (simp only [Int32.lt_iff_toInt_lt, Int32.le_iff_toInt_le, Int32.reduceToInt, ← Int32.toInt_inj, true_and, and_true, or_true, true_or, false_or, or_false, false_and, and_false, not_true_eq_false, not_false_eq_true] <;> omega)) (fun q1 q2 => (by first | omega | (simp only [Int32.lt_iff_toInt_lt, Int32.le_iff_toInt_le, Int32.reduceToInt, ← Int32.toInt_inj] at *; omega))) (fun k9 q1 q2 q3 => (by first | omega | (simp only [Int32.lt_iff_toInt_lt, Int32.le_iff_toInt_le, Int32.reduceToInt, ← Int32.toInt_inj] at *; omega)))), rfl⟩
                  have hf_2435 := (hk_2430 a_0 (ne_kd e_2405 hf_2404 rfl)).trans e_2405
                  have fr_2436 := FR.w hk_2430 hf_2404 (k := 2176) rfl
                  have lk_2437 := lf_at (g0 := g_f) eg_2434 (by omega) (by omega)
                  have ag_2438 := ag_2388.st eg_2434 (by omega) (by omega)
                  try simp only [Int32.reduceToInt] at lk_2437
                  refine v_aload_n hC dX12_readLoss_165 rfl ?_
                  refine v_get hC fl_X12_34 m_1 hf_2435 rfl dX12_readLoss_166 ?_
                  refine v_iload_n hC dX12_readLoss_169 rfl ?_
                  refine v_iconst hC dX12_readLoss_170 (v := 2) (by decide) ?_
                  obtain ⟨v_2439, h_2440⟩ : ∃ v9 : Int32, v_49 + 2 = v9 := ⟨_, rfl⟩
                  refine v_iadd hC dX12_readLoss_171 h_2440 ?_
                  have h_2441 := add_v h_2440 (by first | omega | (simp only [Int32.lt_iff_toInt_lt, Int32.le_iff_toInt_le, Int32.reduceToInt, ← Int32.toInt_inj, true_and, and_true, or_true, true_or, false_or, or_false, false_and, and_false, not_true_eq_false, not_false_eq_true] <;> omega)) (by first | omega | (simp only [Int32.lt_iff_toInt_lt, Int32.le_iff_toInt_le, Int32.reduceToInt, ← Int32.toInt_inj, true_and, and_true, or_true, true_or, false_or, or_false, false_and, and_false, not_true_eq_false, not_false_eq_true] <;> omega))
                  try simp only [Int32.reduceToInt] at h_2441
                  refine v_aload_n hC dX12_readLoss_172 rfl ?_
                  refine v_ldcwS hC sr_X12_295 dX12_readLoss_173 ?_
                  refine v_aload_n hC dX12_readLoss_176 rfl ?_
                  refine v_get hC fl_X12_34 m_1 hf_2435 rfl dX12_readLoss_177 ?_
                  refine v_iload_n hC dX12_readLoss_180 rfl ?_
                  refine v_iconst hC dX12_readLoss_181 (v := 1) (by decide) ?_
                  obtain ⟨v_2442, h_2443⟩ : ∃ v9 : Int32, v_49 + 1 = v9 := ⟨_, rfl⟩
                  refine v_iadd hC dX12_readLoss_182 h_2443 ?_
                  have h_2444 := add_v h_2443 (by first | omega | (simp only [Int32.lt_iff_toInt_lt, Int32.le_iff_toInt_le, Int32.reduceToInt, ← Int32.toInt_inj, true_and, and_true, or_true, true_or, false_or, or_false, false_and, and_false, not_true_eq_false, not_false_eq_true] <;> omega)) (by first | omega | (simp only [Int32.lt_iff_toInt_lt, Int32.le_iff_toInt_le, Int32.reduceToInt, ← Int32.toInt_inj, true_and, and_true, or_true, true_or, false_or, or_false, false_and, and_false, not_true_eq_false, not_false_eq_true] <;> omega))
                  try simp only [Int32.reduceToInt] at h_2444
                  obtain ⟨v_2445, h_2446⟩ : ∃ v9 : Int32, g_2431 (v_2442 : Int32).toNatClampNeg = v9 := ⟨_, rfl⟩
                  refine v_iald hC m_22 hf_2429 (vp_in_iff.mpr (by first | omega | (simp only [Int32.lt_iff_toInt_lt, Int32.le_iff_toInt_le, Int32.reduceToInt, ← Int32.toInt_inj, true_and, and_true, or_true, true_or, false_or, or_false, false_and, and_false, not_true_eq_false, not_false_eq_true] <;> omega))) h_2446 dX12_readLoss_183 ?_
                  refine v_bipush hC dX12_readLoss_184 (v := 15) (by decide) ?_
                  refine v_vi hC (rest := [.int v_2439, .ref (q 14)]) m_1 hf_2435 rfl mi_X12_told ms_X12_told (p_X12_told hW_2432 k_0 (by decide)) mx_X12_told ml_X12_189 (by decide) rfl (cells1 := 0) (slots1 := 0) (by decide) (by decide) (Nat.le_of_ble_eq_true rfl) (Nat.le_of_ble_eq_true rfl) rfl (Nat.le_of_ble_eq_true rfl) dX12_readLoss_186 (fun r_2447 L_2448 f_2449 h_2450 => ?_)
                  obtain ⟨rfl, hW_2454, hF_2455, x_2451, x_2452, x_2453, -, -⟩ := h_2450
                  have fe_2456 : fld (f_2428 a_0) 8 = (v_2411 : Int32).toInt := by rw [hf_2435]; rfl
                  have fe_2457 : fld (f_2428 a_0) 12 = (v_2418 : Int32).toInt := by rw [hf_2435]; rfl
                  have hf_2458 := hF_2455.at hf_2429 rfl
                  obtain ⟨v_2460, v_2461, v_2463, v_2465, v_2467, v_2469, v_2471, v_2472, v_2473, v_2474, v_2476, e_2459, b_2462, b_2464, b_2466, b_2468, b_2470, b_2475, b_2477⟩ := hW_2454.at m_1 t_2
                  have fe_2478 : fld (f_2449 a_0) 8 = (v_2465 : Int32).toInt := by rw [e_2459]; rfl
                  have fe_2479 : fld (f_2449 a_0) 9 = (v_2467 : Int32).toInt := by rw [e_2459]; rfl
                  have fe_2480 : fld (f_2449 a_0) 10 = (v_2469 : Int32).toInt := by rw [e_2459]; rfl
                  have fe_2481 : fld (f_2449 a_0) 12 = (v_2472 : Int32).toInt := by rw [e_2459]; rfl
                  rw [fe_2481, fe_2457] at x_2451
                  rw [fe_2481, fe_2456, fe_2479, fe_2478] at x_2452
                  rw [fe_2481, fe_2480, fe_2479, fe_2478] at x_2453
                  clear fe_2456 fe_2457 fe_2478 fe_2479 fe_2480 fe_2481
                  try simp only [Int32.reduceToInt, Int64.reduceToInt] at x_2451
                  try simp only [Int32.reduceToInt, Int64.reduceToInt] at x_2452
                  try simp only [Int32.reduceToInt, Int64.reduceToInt] at x_2453
                  refine v_iast hC m_22 hf_2458 (vp_in_iff.mpr (by first | omega | (simp only [Int32.lt_iff_toInt_lt, Int32.le_iff_toInt_le, Int32.reduceToInt, ← Int32.toInt_inj, true_and, and_true, or_true, true_or, false_or, or_false, false_and, and_false, not_true_eq_false, not_false_eq_true] <;> omega))) dX12_readLoss_189 (fun f_2482 hf_2483 hk_2484 => ?_)
                  have hW_2486 := hW_2454.up hf_2483 hk_2484 t_23 ⟨_, rfl, (ok_2433.up (by first | omega | (simp only [Int32.lt_iff_toInt_lt, Int32.le_iff_toInt_le, Int32.reduceToInt, ← Int32.toInt_inj, true_and, and_true, or_true, true_or, false_or, or_false, false_and, and_false, not_true_eq_false, not_false_eq_true] <;> omega)) (fun q1 q2 => (by first | omega | (simp only [Int32.lt_iff_toInt_lt, Int32.le_iff_toInt_le, Int32.reduceToInt, ← Int32.toInt_inj] at *; omega))) (fun k9 q1 q2 q3 => (by first | omega | (simp only [Int32.lt_iff_toInt_lt, Int32.le_iff_toInt_le, Int32.reduceToInt, ← Int32.toInt_inj] at *; omega))))⟩
                  obtain ⟨g_2485, hf_2483, ok_2487, eg_2488⟩ : ∃ g9, f_2482 (q 14) = aI E 2076 g9 ∧ FOK g9 ∧ g9 = upd g_2431 (v_2439 : Int32).toNatClampNeg r_2447 := ⟨_, hf_2483, (ok_2433.up (by first | omega | (simp only [Int32.lt_iff_toInt_lt, Int32.le_iff_toInt_le, Int32.reduceToInt, ← Int32.toInt_inj, true_and, and_true, or_true, true_or, false_or, or_false, false_and, and_false, not_true_eq_false, not_false_eq_true] <;> omega)) (fun q1 q2 => (by first | omega | (simp only [Int32.lt_iff_toInt_lt, Int32.le_iff_toInt_le, Int32.reduceToInt, ← Int32.toInt_inj] at *; omega))) (fun k9 q1 q2 q3 => (by first | omega | (simp only [Int32.lt_iff_toInt_lt, Int32.le_iff_toInt_le, Int32.reduceToInt, ← Int32.toInt_inj] at *; omega)))), rfl⟩
                  have hf_2489 := (hk_2484 a_0 (ne_kd e_2459 hf_2458 rfl)).trans e_2459
                  have fr_2490 := FR.w hk_2484 hf_2458 (k := 2176) rfl
                  have lk_2491 := l2_at (g0 := g_f) eg_2488 (by omega) (by omega)
                  have ag_2492 := ag_2438.st eg_2488 (by omega) (by omega)
                  try simp only [Int32.reduceToInt] at lk_2491
                  refine v_goto hC dX12_readLoss_190 (tgt := 258) (by decide) ?_
                  refine v_aload_n hC dX12_readLoss_258 rfl ?_
                  refine v_vv hC (rest := []) m_1 hf_2489 rfl mi_X12_ends ms_X12_ends (p_X12_ends hW_2486 k_0) mx_X12_ends ml_X12_178 (by decide) rfl (cells1 := 0) (slots1 := 0) (by decide) (by decide) (Nat.le_of_ble_eq_true rfl) (Nat.le_of_ble_eq_true rfl) rfl (Nat.le_of_ble_eq_true rfl) dX12_readLoss_259 (fun L_2494 f_2495 h_2496 => ?_)
                  obtain ⟨rfl, hW_2499, hF_2500, x_2497, x_2498, -, -⟩ := h_2496
                  have fe_2501 : fld (f_2482 a_0) 8 = (v_2465 : Int32).toInt := by rw [hf_2489]; rfl
                  have fe_2502 : fld (f_2482 a_0) 10 = (v_2469 : Int32).toInt := by rw [hf_2489]; rfl
                  have fe_2503 : fld (f_2482 a_0) 12 = (v_2472 : Int32).toInt := by rw [hf_2489]; rfl
                  have hf_2504 := hF_2500.at hf_2483 rfl
                  obtain ⟨v_2506, v_2507, v_2509, v_2511, v_2513, v_2515, v_2517, v_2518, v_2519, v_2520, v_2522, e_2505, b_2508, b_2510, b_2512, b_2514, b_2516, b_2521, b_2523⟩ := hW_2499.at m_1 t_2
                  have fe_2524 : fld (f_2495 a_0) 8 = (v_2511 : Int32).toInt := by rw [e_2505]; rfl
                  have fe_2525 : fld (f_2495 a_0) 9 = (v_2513 : Int32).toInt := by rw [e_2505]; rfl
                  have fe_2526 : fld (f_2495 a_0) 12 = (v_2518 : Int32).toInt := by rw [e_2505]; rfl
                  rw [fe_2526, fe_2503] at x_2497
                  rw [fe_2526, fe_2502, fe_2501, fe_2525, fe_2524] at x_2498
                  clear fe_2501 fe_2502 fe_2503 fe_2524 fe_2525 fe_2526
                  refine v_aload_n hC dX12_readLoss_262 rfl ?_
                  refine v_get hC fl_X12_34 m_1 e_2505 rfl dX12_readLoss_263 ?_
                  refine v_bipush hC dX12_readLoss_266 (v := 6) (by decide) ?_
                  refine v_dup2 hC dX12_readLoss_268 rfl rfl ?_
                  have l6_2527 : (g_2485 6).toInt = (g_f 6).toInt := congrArg Int32.toInt ag_2492.2.1
                  refine v_iald hC m_22 hf_2504 (vp_in_iff.mpr (by decide)) (v := g_2485 6) rfl dX12_readLoss_269 ?_
                  refine v_iconst hC dX12_readLoss_270 (v := 1) (by decide) ?_
                  obtain ⟨v_2528, h_2529⟩ : ∃ v9 : Int32, (g_2485 6) + 1 = v9 := ⟨_, rfl⟩
                  refine v_iadd hC dX12_readLoss_271 h_2529 ?_
                  have h_2530 := add_v h_2529 (by first | omega | (simp only [Int32.lt_iff_toInt_lt, Int32.le_iff_toInt_le, Int32.reduceToInt, ← Int32.toInt_inj, true_and, and_true, or_true, true_or, false_or, or_false, false_and, and_false, not_true_eq_false, not_false_eq_true] <;> omega)) (by first | omega | (simp only [Int32.lt_iff_toInt_lt, Int32.le_iff_toInt_le, Int32.reduceToInt, ← Int32.toInt_inj, true_and, and_true, or_true, true_or, false_or, or_false, false_and, and_false, not_true_eq_false, not_false_eq_true] <;> omega))
                  try simp only [Int32.reduceToInt] at h_2530
                  refine v_iast hC m_22 hf_2504 (vp_in_iff.mpr (by decide)) dX12_readLoss_272 (fun f_2531 hf_2532 hk_2533 => ?_)
                  have hW_2535 := hW_2499.up hf_2532 hk_2533 t_23 ⟨_, rfl, (ok_2487.up (i := 6) (by decide) (fun q1 q2 => absurd (And.intro q1 q2) (by decide)) (fun k9 q1 q2 q3 => by simp only [Int32.reduceToInt] at q3; omega))⟩
                  obtain ⟨g_2534, hf_2532, ok_2536, eg_2537⟩ : ∃ g9, f_2531 (q 14) = aI E 2076 g9 ∧ FOK g9 ∧ g9 = upd g_2485 (6 : Int32).toNatClampNeg v_2528 := ⟨_, hf_2532, (ok_2487.up (i := 6) (by decide) (fun q1 q2 => absurd (And.intro q1 q2) (by decide)) (fun k9 q1 q2 q3 => by simp only [Int32.reduceToInt] at q3; omega)), rfl⟩
                  have hf_2538 := (hk_2533 a_0 (ne_kd e_2505 hf_2504 rfl)).trans e_2505
                  have fr_2539 := FR.w hk_2533 hf_2504 (k := 2176) rfl
                  have ln6_2540 := FOK.n6 ag_2492.1 eg_2537
                  have ln6_2540_t : (g_2534 6).toInt = v_2528.toInt := congrArg Int32.toInt ln6_2540.2
                  have fe_2541 : fld (f_2531 a_0) 12 = (v_2518 : Int32).toInt := by rw [hf_2538]; rfl
                  have fe_2542 : fld (f_2531 a_0) 8 = (v_2511 : Int32).toInt := by rw [hf_2538]; rfl
                  have fe_2543 : fld (f_2531 a_0) 12 = (v_2518 : Int32).toInt := by rw [hf_2538]; rfl
                  have fe_2544 : fld (f_2531 a_0) 20 = (v_2522 : Int32).toInt := by rw [hf_2538]; rfl
                  exact hR _ _ _ _ _ _ dX12_readLoss_273 (Nat.le_of_ble_eq_true rfl) (Nat.le_of_ble_eq_true rfl) ⟨rfl, hW_2535, (((((((((hF_1611.tr hF_1652).tr fr_2386).tr hF_2400).tr fr_2436).tr hF_2455).tr fr_2490).tr hF_2500).tr fr_2539).mono rfl), ⟨_, hf_2532, ln6_2540.1, (by omega), (by rw [fe_2541]; by_cases q9 : v_2518.toInt = 0; exact .inr (LO.fin hLO ag_2492 eg_2537 (by omega) (by omega) (fun q8 => by omega)); exact .inl q9)⟩, (by simp only [fe_2542, fe_2543, mz_43, mz_44, true_and, and_true, or_true, true_or, false_or, or_false, false_and, and_false, not_true_eq_false, not_false_eq_true] <;> first | omega | (simp only [Int32.lt_iff_toInt_lt, Int32.le_iff_toInt_le, Int32.reduceToInt, ← Int32.toInt_inj, true_and, and_true, or_true, true_or, false_or, or_false, false_and, and_false, not_true_eq_false, not_false_eq_true] <;> omega)), (by simp only [fe_2544, mz_45, true_and, and_true, or_true, true_or, false_or, or_false, false_and, and_false, not_true_eq_false, not_false_eq_true] <;> first | omega | (simp only [Int32.lt_iff_toInt_lt, Int32.le_iff_toInt_le, Int32.reduceToInt, ← Int32.toInt_inj, true_and, and_true, or_true, true_or, false_or, or_false, false_and, and_false, not_true_eq_false, not_false_eq_true] <;> omega))⟩
                · simp only [Int32.lt_iff_toInt_lt, Int32.le_iff_toInt_le, Int32.reduceToInt, ← Int32.toInt_inj] at h_2377
                  refine v_aload_n hC dX12_readLoss_131 rfl ?_
                  refine v_vv hC (rest := []) m_1 e_1656 rfl mi_X12_advance ms_X12_advance (p_X12_advance hW_1651 k_0) mx_X12_advance ml_X12_156 (by decide) rfl (cells1 := 0) (slots1 := 0) (by decide) (by decide) (Nat.le_of_ble_eq_true rfl) (Nat.le_of_ble_eq_true rfl) rfl (Nat.le_of_ble_eq_true rfl) dX12_readLoss_132 (fun L_2546 f_2547 h_2548 => ?_)
                  obtain ⟨rfl, hW_2552, hF_2553, x_2549, x_2550, x_2551, -⟩ := h_2548
                  have fe_2554 : fld (f_1647 a_0) 8 = (v_1662 : Int32).toInt := by rw [e_1656]; rfl
                  have fe_2555 : fld (f_1647 a_0) 12 = (v_1669 : Int32).toInt := by rw [e_1656]; rfl
                  have hf_2556 := hF_2553.at hf_1655 rfl
                  obtain ⟨v_2558, v_2559, v_2561, v_2563, v_2565, v_2567, v_2569, v_2570, v_2571, v_2572, v_2574, e_2557, b_2560, b_2562, b_2564, b_2566, b_2568, b_2573, b_2575⟩ := hW_2552.at m_1 t_2
                  have fe_2576 : fld (f_2547 a_0) 8 = (v_2563 : Int32).toInt := by rw [e_2557]; rfl
                  have fe_2577 : fld (f_2547 a_0) 9 = (v_2565 : Int32).toInt := by rw [e_2557]; rfl
                  have fe_2578 : fld (f_2547 a_0) 10 = (v_2567 : Int32).toInt := by rw [e_2557]; rfl
                  have fe_2579 : fld (f_2547 a_0) 12 = (v_2570 : Int32).toInt := by rw [e_2557]; rfl
                  rw [fe_2554, fe_2577, fe_2576] at x_2549
                  rw [fe_2578, fe_2577, fe_2576] at x_2550
                  rw [fe_2579, fe_2555] at x_2551
                  clear fe_2554 fe_2555 fe_2576 fe_2577 fe_2578 fe_2579
                  refine v_aload_n hC dX12_readLoss_135 rfl ?_
                  refine v_get hC fl_X12_34 m_1 e_2557 rfl dX12_readLoss_136 ?_
                  refine v_iload_n hC dX12_readLoss_139 rfl ?_
                  refine v_iload_n hC dX12_readLoss_140 rfl ?_
                  refine v_if_eq_t hC dX12_readLoss_141 (tgt := 148) (by decide) (by first | omega | (simp only [Int32.lt_iff_toInt_lt, Int32.le_iff_toInt_le, Int32.reduceToInt, ← Int32.toInt_inj, true_and, and_true, or_true, true_or, false_or, or_false, false_and, and_false, not_true_eq_false, not_false_eq_true] <;> omega)) ?_
                  refine v_iconst hC dX12_readLoss_148 (v := 0) (by decide) ?_
                  refine v_iast hC m_22 hf_2556 (vp_in_iff.mpr (by first | omega | (simp only [Int32.lt_iff_toInt_lt, Int32.le_iff_toInt_le, Int32.reduceToInt, ← Int32.toInt_inj, true_and, and_true, or_true, true_or, false_or, or_false, false_and, and_false, not_true_eq_false, not_false_eq_true] <;> omega))) dX12_readLoss_149 (fun f_2580 hf_2581 hk_2582 => ?_)
                  have hW_2584 := hW_2552.up hf_2581 hk_2582 t_23 ⟨_, rfl, (o_f.up (by first | omega | (simp only [Int32.lt_iff_toInt_lt, Int32.le_iff_toInt_le, Int32.reduceToInt, ← Int32.toInt_inj, true_and, and_true, or_true, true_or, false_or, or_false, false_and, and_false, not_true_eq_false, not_false_eq_true] <;> omega)) (fun q1 q2 => (by first | omega | (simp only [Int32.lt_iff_toInt_lt, Int32.le_iff_toInt_le, Int32.reduceToInt, ← Int32.toInt_inj] at *; omega))) (fun k9 q1 q2 q3 => (by first | omega | (simp only [Int32.lt_iff_toInt_lt, Int32.le_iff_toInt_le, Int32.reduceToInt, ← Int32.toInt_inj] at *; omega))))⟩
                  obtain ⟨g_2583, hf_2581, ok_2585, eg_2586⟩ : ∃ g9, f_2580 (q 14) = aI E 2076 g9 ∧ FOK g9 ∧ g9 = upd g_f (v_49 : Int32).toNatClampNeg 0 := ⟨_, hf_2581, (o_f.up (by first | omega | (simp only [Int32.lt_iff_toInt_lt, Int32.le_iff_toInt_le, Int32.reduceToInt, ← Int32.toInt_inj, true_and, and_true, or_true, true_or, false_or, or_false, false_and, and_false, not_true_eq_false, not_false_eq_true] <;> omega)) (fun q1 q2 => (by first | omega | (simp only [Int32.lt_iff_toInt_lt, Int32.le_iff_toInt_le, Int32.reduceToInt, ← Int32.toInt_inj] at *; omega))) (fun k9 q1 q2 q3 => (by first | omega | (simp only [Int32.lt_iff_toInt_lt, Int32.le_iff_toInt_le, Int32.reduceToInt, ← Int32.toInt_inj] at *; omega)))), rfl⟩
                  have hf_2587 := (hk_2582 a_0 (ne_kd e_2557 hf_2556 rfl)).trans e_2557
                  have fr_2588 := FR.w hk_2582 hf_2556 (k := 2176) rfl
                  have lk_2589 := lk_at (g0 := g_f) eg_2586 (by omega) (by omega)
                  have ag_2590 := (AG.rf o_f).st eg_2586 (by omega) (by omega)
                  try simp only [Int32.reduceToInt] at lk_2589
                  refine v_aload_n hC dX12_readLoss_150 rfl ?_
                  refine v_get hC fl_X12_34 m_1 hf_2587 rfl dX12_readLoss_151 ?_
                  refine v_iload_n hC dX12_readLoss_154 rfl ?_
                  refine v_iconst hC dX12_readLoss_155 (v := 1) (by decide) ?_
                  obtain ⟨v_2591, h_2592⟩ : ∃ v9 : Int32, v_49 + 1 = v9 := ⟨_, rfl⟩
                  refine v_iadd hC dX12_readLoss_156 h_2592 ?_
                  have h_2593 := add_v h_2592 (by first | omega | (simp only [Int32.lt_iff_toInt_lt, Int32.le_iff_toInt_le, Int32.reduceToInt, ← Int32.toInt_inj, true_and, and_true, or_true, true_or, false_or, or_false, false_and, and_false, not_true_eq_false, not_false_eq_true] <;> omega)) (by first | omega | (simp only [Int32.lt_iff_toInt_lt, Int32.le_iff_toInt_le, Int32.reduceToInt, ← Int32.toInt_inj, true_and, and_true, or_true, true_or, false_or, or_false, false_and, and_false, not_true_eq_false, not_false_eq_true] <;> omega))
                  try simp only [Int32.reduceToInt] at h_2593
                  refine v_aload_n hC dX12_readLoss_157 rfl ?_
                  refine v_iconst hC dX12_readLoss_158 (v := 0) (by decide) ?_
                  refine v_bipush hC dX12_readLoss_159 (v := 15) (by decide) ?_
                  refine v_vi hC (rest := [.int v_2591, .ref (q 14)]) m_1 hf_2587 rfl mi_X12_number ms_X12_number (p_X12_number hW_2584 k_0) mx_X12_number ml_X12_170 (by decide) rfl (cells1 := 0) (slots1 := 0) (by decide) (by decide) (Nat.le_of_ble_eq_true rfl) (Nat.le_of_ble_eq_true rfl) rfl (Nat.le_of_ble_eq_true rfl) dX12_readLoss_161 (fun r_2594 L_2595 f_2596 h_2597 => ?_)
                  obtain ⟨rfl, hW_2601, hF_2602, x_2598, x_2599, x_2600, -, -⟩ := h_2597
                  have fe_2603 : fld (f_2580 a_0) 8 = (v_2563 : Int32).toInt := by rw [hf_2587]; rfl
                  have fe_2604 : fld (f_2580 a_0) 10 = (v_2567 : Int32).toInt := by rw [hf_2587]; rfl
                  have fe_2605 : fld (f_2580 a_0) 12 = (v_2570 : Int32).toInt := by rw [hf_2587]; rfl
                  have hf_2606 := hF_2602.at hf_2581 rfl
                  obtain ⟨v_2608, v_2609, v_2611, v_2613, v_2615, v_2617, v_2619, v_2620, v_2621, v_2622, v_2624, e_2607, b_2610, b_2612, b_2614, b_2616, b_2618, b_2623, b_2625⟩ := hW_2601.at m_1 t_2
                  have fe_2626 : fld (f_2596 a_0) 8 = (v_2613 : Int32).toInt := by rw [e_2607]; rfl
                  have fe_2627 : fld (f_2596 a_0) 9 = (v_2615 : Int32).toInt := by rw [e_2607]; rfl
                  have fe_2628 : fld (f_2596 a_0) 10 = (v_2617 : Int32).toInt := by rw [e_2607]; rfl
                  have fe_2629 : fld (f_2596 a_0) 12 = (v_2620 : Int32).toInt := by rw [e_2607]; rfl
                  rw [fe_2629, fe_2605] at x_2598
                  rw [fe_2629, fe_2604, fe_2603, fe_2627, fe_2626] at x_2599
                  rw [fe_2629, fe_2628, fe_2627, fe_2626] at x_2600
                  clear fe_2603 fe_2604 fe_2605 fe_2626 fe_2627 fe_2628 fe_2629
                  try simp only [Int32.reduceToInt, Int64.reduceToInt] at x_2598
                  try simp only [Int32.reduceToInt, Int64.reduceToInt] at x_2599
                  try simp only [Int32.reduceToInt, Int64.reduceToInt] at x_2600
                  refine v_iast hC m_22 hf_2606 (vp_in_iff.mpr (by first | omega | (simp only [Int32.lt_iff_toInt_lt, Int32.le_iff_toInt_le, Int32.reduceToInt, ← Int32.toInt_inj, true_and, and_true, or_true, true_or, false_or, or_false, false_and, and_false, not_true_eq_false, not_false_eq_true] <;> omega))) dX12_readLoss_164 (fun f_2630 hf_2631 hk_2632 => ?_)
                  have hW_2634 := hW_2601.up hf_2631 hk_2632 t_23 ⟨_, rfl, (ok_2585.up (by first | omega | (simp only [Int32.lt_iff_toInt_lt, Int32.le_iff_toInt_le, Int32.reduceToInt, ← Int32.toInt_inj, true_and, and_true, or_true, true_or, false_or, or_false, false_and, and_false, not_true_eq_false, not_false_eq_true] <;> omega)) (fun q1 q2 => (by first | omega | (simp only [Int32.lt_iff_toInt_lt, Int32.le_iff_toInt_le, Int32.reduceToInt, ← Int32.toInt_inj] at *; omega))) (fun k9 q1 q2 q3 => (by first | omega | (simp only [Int32.lt_iff_toInt_lt, Int32.le_iff_toInt_le, Int32.reduceToInt, ← Int32.toInt_inj] at *; omega))))⟩
                  obtain ⟨g_2633, hf_2631, ok_2635, eg_2636⟩ : ∃ g9, f_2630 (q 14) = aI E 2076 g9 ∧ FOK g9 ∧ g9 = upd g_2583 (v_2591 : Int32).toNatClampNeg r_2594 := ⟨_, hf_2631, (ok_2585.up (by first | omega | (simp only [Int32.lt_iff_toInt_lt, Int32.le_iff_toInt_le, Int32.reduceToInt, ← Int32.toInt_inj, true_and, and_true, or_true, true_or, false_or, or_false, false_and, and_false, not_true_eq_false, not_false_eq_true] <;> omega)) (fun q1 q2 => (by first | omega | (simp only [Int32.lt_iff_toInt_lt, Int32.le_iff_toInt_le, Int32.reduceToInt, ← Int32.toInt_inj] at *; omega))) (fun k9 q1 q2 q3 => (by first | omega | (simp only [Int32.lt_iff_toInt_lt, Int32.le_iff_toInt_le, Int32.reduceToInt, ← Int32.toInt_inj] at *; omega)))), rfl⟩
                  have hf_2637 := (hk_2632 a_0 (ne_kd e_2607 hf_2606 rfl)).trans e_2607
                  have fr_2638 := FR.w hk_2632 hf_2606 (k := 2176) rfl
                  have lk_2639 := lf_at (g0 := g_f) eg_2636 (by omega) (by omega)
                  have ag_2640 := ag_2590.st eg_2636 (by omega) (by omega)
                  try simp only [Int32.reduceToInt] at lk_2639
                  refine v_aload_n hC dX12_readLoss_165 rfl ?_
                  refine v_get hC fl_X12_34 m_1 hf_2637 rfl dX12_readLoss_166 ?_
                  refine v_iload_n hC dX12_readLoss_169 rfl ?_
                  refine v_iconst hC dX12_readLoss_170 (v := 2) (by decide) ?_
                  obtain ⟨v_2641, h_2642⟩ : ∃ v9 : Int32, v_49 + 2 = v9 := ⟨_, rfl⟩
                  refine v_iadd hC dX12_readLoss_171 h_2642 ?_
                  have h_2643 := add_v h_2642 (by first | omega | (simp only [Int32.lt_iff_toInt_lt, Int32.le_iff_toInt_le, Int32.reduceToInt, ← Int32.toInt_inj, true_and, and_true, or_true, true_or, false_or, or_false, false_and, and_false, not_true_eq_false, not_false_eq_true] <;> omega)) (by first | omega | (simp only [Int32.lt_iff_toInt_lt, Int32.le_iff_toInt_le, Int32.reduceToInt, ← Int32.toInt_inj, true_and, and_true, or_true, true_or, false_or, or_false, false_and, and_false, not_true_eq_false, not_false_eq_true] <;> omega))
                  try simp only [Int32.reduceToInt] at h_2643
                  refine v_aload_n hC dX12_readLoss_172 rfl ?_
                  refine v_ldcwS hC sr_X12_295 dX12_readLoss_173 ?_
                  refine v_aload_n hC dX12_readLoss_176 rfl ?_
                  refine v_get hC fl_X12_34 m_1 hf_2637 rfl dX12_readLoss_177 ?_
                  refine v_iload_n hC dX12_readLoss_180 rfl ?_
                  refine v_iconst hC dX12_readLoss_181 (v := 1) (by decide) ?_
                  obtain ⟨v_2644, h_2645⟩ : ∃ v9 : Int32, v_49 + 1 = v9 := ⟨_, rfl⟩
                  refine v_iadd hC dX12_readLoss_182 h_2645 ?_
                  have h_2646 := add_v h_2645 (by first | omega | (simp only [Int32.lt_iff_toInt_lt, Int32.le_iff_toInt_le, Int32.reduceToInt, ← Int32.toInt_inj, true_and, and_true, or_true, true_or, false_or, or_false, false_and, and_false, not_true_eq_false, not_false_eq_true] <;> omega)) (by first | omega | (simp only [Int32.lt_iff_toInt_lt, Int32.le_iff_toInt_le, Int32.reduceToInt, ← Int32.toInt_inj, true_and, and_true, or_true, true_or, false_or, or_false, false_and, and_false, not_true_eq_false, not_false_eq_true] <;> omega))
                  try simp only [Int32.reduceToInt] at h_2646
                  obtain ⟨v_2647, h_2648⟩ : ∃ v9 : Int32, g_2633 (v_2644 : Int32).toNatClampNeg = v9 := ⟨_, rfl⟩
                  refine v_iald hC m_22 hf_2631 (vp_in_iff.mpr (by first | omega | (simp only [Int32.lt_iff_toInt_lt, Int32.le_iff_toInt_le, Int32.reduceToInt, ← Int32.toInt_inj, true_and, and_true, or_true, true_or, false_or, or_false, false_and, and_false, not_true_eq_false, not_false_eq_true] <;> omega))) h_2648 dX12_readLoss_183 ?_
                  refine v_bipush hC dX12_readLoss_184 (v := 15) (by decide) ?_
                  refine v_vi hC (rest := [.int v_2641, .ref (q 14)]) m_1 hf_2637 rfl mi_X12_told ms_X12_told (p_X12_told hW_2634 k_0 (by decide)) mx_X12_told ml_X12_189 (by decide) rfl (cells1 := 0) (slots1 := 0) (by decide) (by decide) (Nat.le_of_ble_eq_true rfl) (Nat.le_of_ble_eq_true rfl) rfl (Nat.le_of_ble_eq_true rfl) dX12_readLoss_186 (fun r_2649 L_2650 f_2651 h_2652 => ?_)
                  obtain ⟨rfl, hW_2656, hF_2657, x_2653, x_2654, x_2655, -, -⟩ := h_2652
                  have fe_2658 : fld (f_2630 a_0) 8 = (v_2613 : Int32).toInt := by rw [hf_2637]; rfl
                  have fe_2659 : fld (f_2630 a_0) 12 = (v_2620 : Int32).toInt := by rw [hf_2637]; rfl
                  have hf_2660 := hF_2657.at hf_2631 rfl
                  obtain ⟨v_2662, v_2663, v_2665, v_2667, v_2669, v_2671, v_2673, v_2674, v_2675, v_2676, v_2678, e_2661, b_2664, b_2666, b_2668, b_2670, b_2672, b_2677, b_2679⟩ := hW_2656.at m_1 t_2
                  have fe_2680 : fld (f_2651 a_0) 8 = (v_2667 : Int32).toInt := by rw [e_2661]; rfl
                  have fe_2681 : fld (f_2651 a_0) 9 = (v_2669 : Int32).toInt := by rw [e_2661]; rfl
                  have fe_2682 : fld (f_2651 a_0) 10 = (v_2671 : Int32).toInt := by rw [e_2661]; rfl
                  have fe_2683 : fld (f_2651 a_0) 12 = (v_2674 : Int32).toInt := by rw [e_2661]; rfl
                  rw [fe_2683, fe_2659] at x_2653
                  rw [fe_2683, fe_2658, fe_2681, fe_2680] at x_2654
                  rw [fe_2683, fe_2682, fe_2681, fe_2680] at x_2655
                  clear fe_2658 fe_2659 fe_2680 fe_2681 fe_2682 fe_2683
                  try simp only [Int32.reduceToInt, Int64.reduceToInt] at x_2653
                  try simp only [Int32.reduceToInt, Int64.reduceToInt] at x_2654
                  try simp only [Int32.reduceToInt, Int64.reduceToInt] at x_2655
                  refine v_iast hC m_22 hf_2660 (vp_in_iff.mpr (by first | omega | (simp only [Int32.lt_iff_toInt_lt, Int32.le_iff_toInt_le, Int32.reduceToInt, ← Int32.toInt_inj, true_and, and_true, or_true, true_or, false_or, or_false, false_and, and_false, not_true_eq_false, not_false_eq_true] <;> omega))) dX12_readLoss_189 (fun f_2684 hf_2685 hk_2686 => ?_)
                  have hW_2688 := hW_2656.up hf_2685 hk_2686 t_23 ⟨_, rfl, (ok_2635.up (by first | omega | (simp only [Int32.lt_iff_toInt_lt, Int32.le_iff_toInt_le, Int32.reduceToInt, ← Int32.toInt_inj, true_and, and_true, or_true, true_or, false_or, or_false, false_and, and_false, not_true_eq_false, not_false_eq_true] <;> omega)) (fun q1 q2 => (by first | omega | (simp only [Int32.lt_iff_toInt_lt, Int32.le_iff_toInt_le, Int32.reduceToInt, ← Int32.toInt_inj] at *; omega))) (fun k9 q1 q2 q3 => (by first | omega | (simp only [Int32.lt_iff_toInt_lt, Int32.le_iff_toInt_le, Int32.reduceToInt, ← Int32.toInt_inj] at *; omega))))⟩
                  obtain ⟨g_2687, hf_2685, ok_2689, eg_2690⟩ : ∃ g9, f_2684 (q 14) = aI E 2076 g9 ∧ FOK g9 ∧ g9 = upd g_2633 (v_2641 : Int32).toNatClampNeg r_2649 := ⟨_, hf_2685, (ok_2635.up (by first | omega | (simp only [Int32.lt_iff_toInt_lt, Int32.le_iff_toInt_le, Int32.reduceToInt, ← Int32.toInt_inj, true_and, and_true, or_true, true_or, false_or, or_false, false_and, and_false, not_true_eq_false, not_false_eq_true] <;> omega)) (fun q1 q2 => (by first | omega | (simp only [Int32.lt_iff_toInt_lt, Int32.le_iff_toInt_le, Int32.reduceToInt, ← Int32.toInt_inj] at *; omega))) (fun k9 q1 q2 q3 => (by first | omega | (simp only [Int32.lt_iff_toInt_lt, Int32.le_iff_toInt_le, Int32.reduceToInt, ← Int32.toInt_inj] at *; omega)))), rfl⟩
                  have hf_2691 := (hk_2686 a_0 (ne_kd e_2661 hf_2660 rfl)).trans e_2661
                  have fr_2692 := FR.w hk_2686 hf_2660 (k := 2176) rfl
                  have lk_2693 := l2_at (g0 := g_f) eg_2690 (by omega) (by omega)
                  have ag_2694 := ag_2640.st eg_2690 (by omega) (by omega)
                  try simp only [Int32.reduceToInt] at lk_2693
                  refine v_goto hC dX12_readLoss_190 (tgt := 258) (by decide) ?_
                  refine v_aload_n hC dX12_readLoss_258 rfl ?_
                  refine v_vv hC (rest := []) m_1 hf_2691 rfl mi_X12_ends ms_X12_ends (p_X12_ends hW_2688 k_0) mx_X12_ends ml_X12_178 (by decide) rfl (cells1 := 0) (slots1 := 0) (by decide) (by decide) (Nat.le_of_ble_eq_true rfl) (Nat.le_of_ble_eq_true rfl) rfl (Nat.le_of_ble_eq_true rfl) dX12_readLoss_259 (fun L_2696 f_2697 h_2698 => ?_)
                  obtain ⟨rfl, hW_2701, hF_2702, x_2699, x_2700, -, -⟩ := h_2698
                  have fe_2703 : fld (f_2684 a_0) 8 = (v_2667 : Int32).toInt := by rw [hf_2691]; rfl
                  have fe_2704 : fld (f_2684 a_0) 10 = (v_2671 : Int32).toInt := by rw [hf_2691]; rfl
                  have fe_2705 : fld (f_2684 a_0) 12 = (v_2674 : Int32).toInt := by rw [hf_2691]; rfl
                  have hf_2706 := hF_2702.at hf_2685 rfl
                  obtain ⟨v_2708, v_2709, v_2711, v_2713, v_2715, v_2717, v_2719, v_2720, v_2721, v_2722, v_2724, e_2707, b_2710, b_2712, b_2714, b_2716, b_2718, b_2723, b_2725⟩ := hW_2701.at m_1 t_2
                  have fe_2726 : fld (f_2697 a_0) 8 = (v_2713 : Int32).toInt := by rw [e_2707]; rfl
                  have fe_2727 : fld (f_2697 a_0) 9 = (v_2715 : Int32).toInt := by rw [e_2707]; rfl
                  have fe_2728 : fld (f_2697 a_0) 12 = (v_2720 : Int32).toInt := by rw [e_2707]; rfl
                  rw [fe_2728, fe_2705] at x_2699
                  rw [fe_2728, fe_2704, fe_2703, fe_2727, fe_2726] at x_2700
                  clear fe_2703 fe_2704 fe_2705 fe_2726 fe_2727 fe_2728
                  refine v_aload_n hC dX12_readLoss_262 rfl ?_
                  refine v_get hC fl_X12_34 m_1 e_2707 rfl dX12_readLoss_263 ?_
                  refine v_bipush hC dX12_readLoss_266 (v := 6) (by decide) ?_
                  refine v_dup2 hC dX12_readLoss_268 rfl rfl ?_
                  have l6_2729 : (g_2687 6).toInt = (g_f 6).toInt := congrArg Int32.toInt ag_2694.2.1
                  refine v_iald hC m_22 hf_2706 (vp_in_iff.mpr (by decide)) (v := g_2687 6) rfl dX12_readLoss_269 ?_
                  refine v_iconst hC dX12_readLoss_270 (v := 1) (by decide) ?_
                  obtain ⟨v_2730, h_2731⟩ : ∃ v9 : Int32, (g_2687 6) + 1 = v9 := ⟨_, rfl⟩
                  refine v_iadd hC dX12_readLoss_271 h_2731 ?_
                  have h_2732 := add_v h_2731 (by first | omega | (simp only [Int32.lt_iff_toInt_lt, Int32.le_iff_toInt_le, Int32.reduceToInt, ← Int32.toInt_inj, true_and, and_true, or_true, true_or, false_or, or_false, false_and, and_false, not_true_eq_false, not_false_eq_true] <;> omega)) (by first | omega | (simp only [Int32.lt_iff_toInt_lt, Int32.le_iff_toInt_le, Int32.reduceToInt, ← Int32.toInt_inj, true_and, and_true, or_true, true_or, false_or, or_false, false_and, and_false, not_true_eq_false, not_false_eq_true] <;> omega))
                  try simp only [Int32.reduceToInt] at h_2732
                  refine v_iast hC m_22 hf_2706 (vp_in_iff.mpr (by decide)) dX12_readLoss_272 (fun f_2733 hf_2734 hk_2735 => ?_)
                  have hW_2737 := hW_2701.up hf_2734 hk_2735 t_23 ⟨_, rfl, (ok_2689.up (i := 6) (by decide) (fun q1 q2 => absurd (And.intro q1 q2) (by decide)) (fun k9 q1 q2 q3 => by simp only [Int32.reduceToInt] at q3; omega))⟩
                  obtain ⟨g_2736, hf_2734, ok_2738, eg_2739⟩ : ∃ g9, f_2733 (q 14) = aI E 2076 g9 ∧ FOK g9 ∧ g9 = upd g_2687 (6 : Int32).toNatClampNeg v_2730 := ⟨_, hf_2734, (ok_2689.up (i := 6) (by decide) (fun q1 q2 => absurd (And.intro q1 q2) (by decide)) (fun k9 q1 q2 q3 => by simp only [Int32.reduceToInt] at q3; omega)), rfl⟩
                  have hf_2740 := (hk_2735 a_0 (ne_kd e_2707 hf_2706 rfl)).trans e_2707
                  have fr_2741 := FR.w hk_2735 hf_2706 (k := 2176) rfl
                  have ln6_2742 := FOK.n6 ag_2694.1 eg_2739
                  have ln6_2742_t : (g_2736 6).toInt = v_2730.toInt := congrArg Int32.toInt ln6_2742.2
                  have fe_2743 : fld (f_2733 a_0) 12 = (v_2720 : Int32).toInt := by rw [hf_2740]; rfl
                  have fe_2744 : fld (f_2733 a_0) 8 = (v_2713 : Int32).toInt := by rw [hf_2740]; rfl
                  have fe_2745 : fld (f_2733 a_0) 12 = (v_2720 : Int32).toInt := by rw [hf_2740]; rfl
                  have fe_2746 : fld (f_2733 a_0) 20 = (v_2724 : Int32).toInt := by rw [hf_2740]; rfl
                  exact hR _ _ _ _ _ _ dX12_readLoss_273 (Nat.le_of_ble_eq_true rfl) (Nat.le_of_ble_eq_true rfl) ⟨rfl, hW_2737, ((((((((((hF_1611.tr hF_1652).tr hF_2553).tr fr_2588).tr hF_2602).tr fr_2638).tr hF_2657).tr fr_2692).tr hF_2702).tr fr_2741).mono rfl), ⟨_, hf_2734, ln6_2742.1, (by omega), (by rw [fe_2743]; by_cases q9 : v_2720.toInt = 0; exact .inr (LO.fin hLO ag_2694 eg_2739 (by omega) (by omega) (fun q8 => by omega)); exact .inl q9)⟩, (by simp only [fe_2744, fe_2745, mz_43, mz_44, true_and, and_true, or_true, true_or, false_or, or_false, false_and, and_false, not_true_eq_false, not_false_eq_true] <;> first | omega | (simp only [Int32.lt_iff_toInt_lt, Int32.le_iff_toInt_le, Int32.reduceToInt, ← Int32.toInt_inj, true_and, and_true, or_true, true_or, false_or, or_false, false_and, and_false, not_true_eq_false, not_false_eq_true] <;> omega)), (by simp only [fe_2746, mz_45, true_and, and_true, or_true, true_or, false_or, or_false, false_and, and_false, not_true_eq_false, not_false_eq_true] <;> first | omega | (simp only [Int32.lt_iff_toInt_lt, Int32.le_iff_toInt_le, Int32.reduceToInt, ← Int32.toInt_inj, true_and, and_true, or_true, true_or, false_or, or_false, false_and, and_false, not_true_eq_false, not_false_eq_true] <;> omega))⟩
              · simp only [Int32.lt_iff_toInt_lt, Int32.le_iff_toInt_le, Int32.reduceToInt, ← Int32.toInt_inj] at h_2367
                refine v_aload_n hC dX12_readLoss_119 rfl ?_
                refine v_iconst hC dX12_readLoss_120 (v := 1) (by decide) ?_
                refine v_vv hC (rest := []) m_1 e_1656 rfl mi_X12_errs ms_X12_errs (p_X12_errs hW_1651 k_0 (by decide)) mx_X12_errs ml_X12_162 (by decide) rfl (cells1 := 0) (slots1 := 0) (by decide) (by decide) (Nat.le_of_ble_eq_true rfl) (Nat.le_of_ble_eq_true rfl) rfl (Nat.le_of_ble_eq_true rfl) dX12_readLoss_121 (fun L_2748 f_2749 h_2750 => ?_)
                obtain ⟨rfl, hW_2753, hF_2754, x_2751, x_2752, -, -, -⟩ := h_2750
                have fe_2755 : fld (f_1647 a_0) 8 = (v_1662 : Int32).toInt := by rw [e_1656]; rfl
                have hf_2756 := hF_2754.at hf_1655 rfl
                obtain ⟨v_2758, v_2759, v_2761, v_2763, v_2765, v_2767, v_2769, v_2770, v_2771, v_2772, v_2774, e_2757, b_2760, b_2762, b_2764, b_2766, b_2768, b_2773, b_2775⟩ := hW_2753.at m_1 t_2
                have fe_2776 : fld (f_2749 a_0) 8 = (v_2763 : Int32).toInt := by rw [e_2757]; rfl
                have fe_2777 : fld (f_2749 a_0) 12 = (v_2770 : Int32).toInt := by rw [e_2757]; rfl
                rw [fe_2777] at x_2751
                rw [fe_2776, fe_2755] at x_2752
                clear fe_2755 fe_2776 fe_2777
                refine v_aload_n hC dX12_readLoss_124 rfl ?_
                refine v_vi hC (rest := []) m_1 e_2757 rfl mi_X12_good ms_X12_good (p_X12_good hW_2753 k_0) mx_X12_good ml_X12_139 (by decide) rfl (cells1 := 0) (slots1 := 0) (by decide) (by decide) (Nat.le_of_ble_eq_true rfl) (Nat.le_of_ble_eq_true rfl) rfl (Nat.le_of_ble_eq_true rfl) dX12_readLoss_125 (fun r_2778 L_2779 f_2780 h_2781 => ?_)
                obtain ⟨rfl, rfl, b_2782, x_2783⟩ := h_2781
                have fe_2786 : fld (f_2749 a_0) 12 = (v_2770 : Int32).toInt := by rw [e_2757]; rfl
                rw [fe_2786] at x_2783
                clear fe_2786
                try simp only [Int32.reduceToInt, Int64.reduceToInt] at x_2783
                refine v_if_eq hC dX12_readLoss_128 (tgt := 135) (by decide) (fun h_2787 => ?_) (fun h_2787 => ?_)
                · simp only [Int32.lt_iff_toInt_lt, Int32.le_iff_toInt_le, Int32.reduceToInt, ← Int32.toInt_inj] at h_2787
                  refine v_aload_n hC dX12_readLoss_135 rfl ?_
                  refine v_get hC fl_X12_34 m_1 e_2757 rfl dX12_readLoss_136 ?_
                  refine v_iload_n hC dX12_readLoss_139 rfl ?_
                  refine v_iload_n hC dX12_readLoss_140 rfl ?_
                  refine v_if_eq_t hC dX12_readLoss_141 (tgt := 148) (by decide) (by first | omega | (simp only [Int32.lt_iff_toInt_lt, Int32.le_iff_toInt_le, Int32.reduceToInt, ← Int32.toInt_inj, true_and, and_true, or_true, true_or, false_or, or_false, false_and, and_false, not_true_eq_false, not_false_eq_true] <;> omega)) ?_
                  refine v_iconst hC dX12_readLoss_148 (v := 0) (by decide) ?_
                  refine v_iast hC m_22 hf_2756 (vp_in_iff.mpr (by first | omega | (simp only [Int32.lt_iff_toInt_lt, Int32.le_iff_toInt_le, Int32.reduceToInt, ← Int32.toInt_inj, true_and, and_true, or_true, true_or, false_or, or_false, false_and, and_false, not_true_eq_false, not_false_eq_true] <;> omega))) dX12_readLoss_149 (fun f_2788 hf_2789 hk_2790 => ?_)
                  have hW_2792 := hW_2753.up hf_2789 hk_2790 t_23 ⟨_, rfl, (o_f.up (by first | omega | (simp only [Int32.lt_iff_toInt_lt, Int32.le_iff_toInt_le, Int32.reduceToInt, ← Int32.toInt_inj, true_and, and_true, or_true, true_or, false_or, or_false, false_and, and_false, not_true_eq_false, not_false_eq_true] <;> omega)) (fun q1 q2 => (by first | omega | (simp only [Int32.lt_iff_toInt_lt, Int32.le_iff_toInt_le, Int32.reduceToInt, ← Int32.toInt_inj] at *; omega))) (fun k9 q1 q2 q3 => (by first | omega | (simp only [Int32.lt_iff_toInt_lt, Int32.le_iff_toInt_le, Int32.reduceToInt, ← Int32.toInt_inj] at *; omega))))⟩
                  obtain ⟨g_2791, hf_2789, ok_2793, eg_2794⟩ : ∃ g9, f_2788 (q 14) = aI E 2076 g9 ∧ FOK g9 ∧ g9 = upd g_f (v_49 : Int32).toNatClampNeg 0 := ⟨_, hf_2789, (o_f.up (by first | omega | (simp only [Int32.lt_iff_toInt_lt, Int32.le_iff_toInt_le, Int32.reduceToInt, ← Int32.toInt_inj, true_and, and_true, or_true, true_or, false_or, or_false, false_and, and_false, not_true_eq_false, not_false_eq_true] <;> omega)) (fun q1 q2 => (by first | omega | (simp only [Int32.lt_iff_toInt_lt, Int32.le_iff_toInt_le, Int32.reduceToInt, ← Int32.toInt_inj] at *; omega))) (fun k9 q1 q2 q3 => (by first | omega | (simp only [Int32.lt_iff_toInt_lt, Int32.le_iff_toInt_le, Int32.reduceToInt, ← Int32.toInt_inj] at *; omega)))), rfl⟩
                  have hf_2795 := (hk_2790 a_0 (ne_kd e_2757 hf_2756 rfl)).trans e_2757
                  have fr_2796 := FR.w hk_2790 hf_2756 (k := 2176) rfl
                  have lk_2797 := lk_at (g0 := g_f) eg_2794 (by omega) (by omega)
                  have ag_2798 := (AG.rf o_f).st eg_2794 (by omega) (by omega)
                  try simp only [Int32.reduceToInt] at lk_2797
                  refine v_aload_n hC dX12_readLoss_150 rfl ?_
                  refine v_get hC fl_X12_34 m_1 hf_2795 rfl dX12_readLoss_151 ?_
                  refine v_iload_n hC dX12_readLoss_154 rfl ?_
                  refine v_iconst hC dX12_readLoss_155 (v := 1) (by decide) ?_
                  obtain ⟨v_2799, h_2800⟩ : ∃ v9 : Int32, v_49 + 1 = v9 := ⟨_, rfl⟩
                  refine v_iadd hC dX12_readLoss_156 h_2800 ?_
                  have h_2801 := add_v h_2800 (by first | omega | (simp only [Int32.lt_iff_toInt_lt, Int32.le_iff_toInt_le, Int32.reduceToInt, ← Int32.toInt_inj, true_and, and_true, or_true, true_or, false_or, or_false, false_and, and_false, not_true_eq_false, not_false_eq_true] <;> omega)) (by first | omega | (simp only [Int32.lt_iff_toInt_lt, Int32.le_iff_toInt_le, Int32.reduceToInt, ← Int32.toInt_inj, true_and, and_true, or_true, true_or, false_or, or_false, false_and, and_false, not_true_eq_false, not_false_eq_true] <;> omega))
                  try simp only [Int32.reduceToInt] at h_2801
                  refine v_aload_n hC dX12_readLoss_157 rfl ?_
                  refine v_iconst hC dX12_readLoss_158 (v := 0) (by decide) ?_
                  refine v_bipush hC dX12_readLoss_159 (v := 15) (by decide) ?_
                  refine v_vi hC (rest := [.int v_2799, .ref (q 14)]) m_1 hf_2795 rfl mi_X12_number ms_X12_number (p_X12_number hW_2792 k_0) mx_X12_number ml_X12_170 (by decide) rfl (cells1 := 0) (slots1 := 0) (by decide) (by decide) (Nat.le_of_ble_eq_true rfl) (Nat.le_of_ble_eq_true rfl) rfl (Nat.le_of_ble_eq_true rfl) dX12_readLoss_161 (fun r_2802 L_2803 f_2804 h_2805 => ?_)
                  obtain ⟨rfl, hW_2809, hF_2810, x_2806, x_2807, x_2808, -, -⟩ := h_2805
                  have fe_2811 : fld (f_2788 a_0) 8 = (v_2763 : Int32).toInt := by rw [hf_2795]; rfl
                  have fe_2812 : fld (f_2788 a_0) 10 = (v_2767 : Int32).toInt := by rw [hf_2795]; rfl
                  have fe_2813 : fld (f_2788 a_0) 12 = (v_2770 : Int32).toInt := by rw [hf_2795]; rfl
                  have hf_2814 := hF_2810.at hf_2789 rfl
                  obtain ⟨v_2816, v_2817, v_2819, v_2821, v_2823, v_2825, v_2827, v_2828, v_2829, v_2830, v_2832, e_2815, b_2818, b_2820, b_2822, b_2824, b_2826, b_2831, b_2833⟩ := hW_2809.at m_1 t_2
                  have fe_2834 : fld (f_2804 a_0) 8 = (v_2821 : Int32).toInt := by rw [e_2815]; rfl
                  have fe_2835 : fld (f_2804 a_0) 9 = (v_2823 : Int32).toInt := by rw [e_2815]; rfl
                  have fe_2836 : fld (f_2804 a_0) 10 = (v_2825 : Int32).toInt := by rw [e_2815]; rfl
                  have fe_2837 : fld (f_2804 a_0) 12 = (v_2828 : Int32).toInt := by rw [e_2815]; rfl
                  rw [fe_2837, fe_2813] at x_2806
                  rw [fe_2837, fe_2812, fe_2811, fe_2835, fe_2834] at x_2807
                  rw [fe_2837, fe_2836, fe_2835, fe_2834] at x_2808
                  clear fe_2811 fe_2812 fe_2813 fe_2834 fe_2835 fe_2836 fe_2837
                  try simp only [Int32.reduceToInt, Int64.reduceToInt] at x_2806
                  try simp only [Int32.reduceToInt, Int64.reduceToInt] at x_2807
                  try simp only [Int32.reduceToInt, Int64.reduceToInt] at x_2808
                  refine v_iast hC m_22 hf_2814 (vp_in_iff.mpr (by first | omega | (simp only [Int32.lt_iff_toInt_lt, Int32.le_iff_toInt_le, Int32.reduceToInt, ← Int32.toInt_inj, true_and, and_true, or_true, true_or, false_or, or_false, false_and, and_false, not_true_eq_false, not_false_eq_true] <;> omega))) dX12_readLoss_164 (fun f_2838 hf_2839 hk_2840 => ?_)
                  have hW_2842 := hW_2809.up hf_2839 hk_2840 t_23 ⟨_, rfl, (ok_2793.up (by first | omega | (simp only [Int32.lt_iff_toInt_lt, Int32.le_iff_toInt_le, Int32.reduceToInt, ← Int32.toInt_inj, true_and, and_true, or_true, true_or, false_or, or_false, false_and, and_false, not_true_eq_false, not_false_eq_true] <;> omega)) (fun q1 q2 => (by first | omega | (simp only [Int32.lt_iff_toInt_lt, Int32.le_iff_toInt_le, Int32.reduceToInt, ← Int32.toInt_inj] at *; omega))) (fun k9 q1 q2 q3 => (by first | omega | (simp only [Int32.lt_iff_toInt_lt, Int32.le_iff_toInt_le, Int32.reduceToInt, ← Int32.toInt_inj] at *; omega))))⟩
                  obtain ⟨g_2841, hf_2839, ok_2843, eg_2844⟩ : ∃ g9, f_2838 (q 14) = aI E 2076 g9 ∧ FOK g9 ∧ g9 = upd g_2791 (v_2799 : Int32).toNatClampNeg r_2802 := ⟨_, hf_2839, (ok_2793.up (by first | omega | (simp only [Int32.lt_iff_toInt_lt, Int32.le_iff_toInt_le, Int32.reduceToInt, ← Int32.toInt_inj, true_and, and_true, or_true, true_or, false_or, or_false, false_and, and_false, not_true_eq_false, not_false_eq_true] <;> omega)) (fun q1 q2 => (by first | omega | (simp only [Int32.lt_iff_toInt_lt, Int32.le_iff_toInt_le, Int32.reduceToInt, ← Int32.toInt_inj] at *; omega))) (fun k9 q1 q2 q3 => (by first | omega | (simp only [Int32.lt_iff_toInt_lt, Int32.le_iff_toInt_le, Int32.reduceToInt, ← Int32.toInt_inj] at *; omega)))), rfl⟩
                  have hf_2845 := (hk_2840 a_0 (ne_kd e_2815 hf_2814 rfl)).trans e_2815
                  have fr_2846 := FR.w hk_2840 hf_2814 (k := 2176) rfl
                  have lk_2847 := lf_at (g0 := g_f) eg_2844 (by omega) (by omega)
                  have ag_2848 := ag_2798.st eg_2844 (by omega) (by omega)
                  try simp only [Int32.reduceToInt] at lk_2847
                  refine v_aload_n hC dX12_readLoss_165 rfl ?_
                  refine v_get hC fl_X12_34 m_1 hf_2845 rfl dX12_readLoss_166 ?_
                  refine v_iload_n hC dX12_readLoss_169 rfl ?_
                  refine v_iconst hC dX12_readLoss_170 (v := 2) (by decide) ?_
                  obtain ⟨v_2849, h_2850⟩ : ∃ v9 : Int32, v_49 + 2 = v9 := ⟨_, rfl⟩
                  refine v_iadd hC dX12_readLoss_171 h_2850 ?_
                  have h_2851 := add_v h_2850 (by first | omega | (simp only [Int32.lt_iff_toInt_lt, Int32.le_iff_toInt_le, Int32.reduceToInt, ← Int32.toInt_inj, true_and, and_true, or_true, true_or, false_or, or_false, false_and, and_false, not_true_eq_false, not_false_eq_true] <;> omega)) (by first | omega | (simp only [Int32.lt_iff_toInt_lt, Int32.le_iff_toInt_le, Int32.reduceToInt, ← Int32.toInt_inj, true_and, and_true, or_true, true_or, false_or, or_false, false_and, and_false, not_true_eq_false, not_false_eq_true] <;> omega))
                  try simp only [Int32.reduceToInt] at h_2851
                  refine v_aload_n hC dX12_readLoss_172 rfl ?_
                  refine v_ldcwS hC sr_X12_295 dX12_readLoss_173 ?_
                  refine v_aload_n hC dX12_readLoss_176 rfl ?_
                  refine v_get hC fl_X12_34 m_1 hf_2845 rfl dX12_readLoss_177 ?_
                  refine v_iload_n hC dX12_readLoss_180 rfl ?_
                  refine v_iconst hC dX12_readLoss_181 (v := 1) (by decide) ?_
                  obtain ⟨v_2852, h_2853⟩ : ∃ v9 : Int32, v_49 + 1 = v9 := ⟨_, rfl⟩
                  refine v_iadd hC dX12_readLoss_182 h_2853 ?_
                  have h_2854 := add_v h_2853 (by first | omega | (simp only [Int32.lt_iff_toInt_lt, Int32.le_iff_toInt_le, Int32.reduceToInt, ← Int32.toInt_inj, true_and, and_true, or_true, true_or, false_or, or_false, false_and, and_false, not_true_eq_false, not_false_eq_true] <;> omega)) (by first | omega | (simp only [Int32.lt_iff_toInt_lt, Int32.le_iff_toInt_le, Int32.reduceToInt, ← Int32.toInt_inj, true_and, and_true, or_true, true_or, false_or, or_false, false_and, and_false, not_true_eq_false, not_false_eq_true] <;> omega))
                  try simp only [Int32.reduceToInt] at h_2854
                  obtain ⟨v_2855, h_2856⟩ : ∃ v9 : Int32, g_2841 (v_2852 : Int32).toNatClampNeg = v9 := ⟨_, rfl⟩
                  refine v_iald hC m_22 hf_2839 (vp_in_iff.mpr (by first | omega | (simp only [Int32.lt_iff_toInt_lt, Int32.le_iff_toInt_le, Int32.reduceToInt, ← Int32.toInt_inj, true_and, and_true, or_true, true_or, false_or, or_false, false_and, and_false, not_true_eq_false, not_false_eq_true] <;> omega))) h_2856 dX12_readLoss_183 ?_
                  refine v_bipush hC dX12_readLoss_184 (v := 15) (by decide) ?_
                  refine v_vi hC (rest := [.int v_2849, .ref (q 14)]) m_1 hf_2845 rfl mi_X12_told ms_X12_told (p_X12_told hW_2842 k_0 (by decide)) mx_X12_told ml_X12_189 (by decide) rfl (cells1 := 0) (slots1 := 0) (by decide) (by decide) (Nat.le_of_ble_eq_true rfl) (Nat.le_of_ble_eq_true rfl) rfl (Nat.le_of_ble_eq_true rfl) dX12_readLoss_186 (fun r_2857 L_2858 f_2859 h_2860 => ?_)
                  obtain ⟨rfl, hW_2864, hF_2865, x_2861, x_2862, x_2863, -, -⟩ := h_2860
                  have fe_2866 : fld (f_2838 a_0) 8 = (v_2821 : Int32).toInt := by rw [hf_2845]; rfl
                  have fe_2867 : fld (f_2838 a_0) 12 = (v_2828 : Int32).toInt := by rw [hf_2845]; rfl
                  have hf_2868 := hF_2865.at hf_2839 rfl
                  obtain ⟨v_2870, v_2871, v_2873, v_2875, v_2877, v_2879, v_2881, v_2882, v_2883, v_2884, v_2886, e_2869, b_2872, b_2874, b_2876, b_2878, b_2880, b_2885, b_2887⟩ := hW_2864.at m_1 t_2
                  have fe_2888 : fld (f_2859 a_0) 8 = (v_2875 : Int32).toInt := by rw [e_2869]; rfl
                  have fe_2889 : fld (f_2859 a_0) 9 = (v_2877 : Int32).toInt := by rw [e_2869]; rfl
                  have fe_2890 : fld (f_2859 a_0) 10 = (v_2879 : Int32).toInt := by rw [e_2869]; rfl
                  have fe_2891 : fld (f_2859 a_0) 12 = (v_2882 : Int32).toInt := by rw [e_2869]; rfl
                  rw [fe_2891, fe_2867] at x_2861
                  rw [fe_2891, fe_2866, fe_2889, fe_2888] at x_2862
                  rw [fe_2891, fe_2890, fe_2889, fe_2888] at x_2863
                  clear fe_2866 fe_2867 fe_2888 fe_2889 fe_2890 fe_2891
                  try simp only [Int32.reduceToInt, Int64.reduceToInt] at x_2861
                  try simp only [Int32.reduceToInt, Int64.reduceToInt] at x_2862
                  try simp only [Int32.reduceToInt, Int64.reduceToInt] at x_2863
                  refine v_iast hC m_22 hf_2868 (vp_in_iff.mpr (by first | omega | (simp only [Int32.lt_iff_toInt_lt, Int32.le_iff_toInt_le, Int32.reduceToInt, ← Int32.toInt_inj, true_and, and_true, or_true, true_or, false_or, or_false, false_and, and_false, not_true_eq_false, not_false_eq_true] <;> omega))) dX12_readLoss_189 (fun f_2892 hf_2893 hk_2894 => ?_)
                  have hW_2896 := hW_2864.up hf_2893 hk_2894 t_23 ⟨_, rfl, (ok_2843.up (by first | omega | (simp only [Int32.lt_iff_toInt_lt, Int32.le_iff_toInt_le, Int32.reduceToInt, ← Int32.toInt_inj, true_and, and_true, or_true, true_or, false_or, or_false, false_and, and_false, not_true_eq_false, not_false_eq_true] <;> omega)) (fun q1 q2 => (by first | omega | (simp only [Int32.lt_iff_toInt_lt, Int32.le_iff_toInt_le, Int32.reduceToInt, ← Int32.toInt_inj] at *; omega))) (fun k9 q1 q2 q3 => (by first | omega | (simp only [Int32.lt_iff_toInt_lt, Int32.le_iff_toInt_le, Int32.reduceToInt, ← Int32.toInt_inj] at *; omega))))⟩
                  obtain ⟨g_2895, hf_2893, ok_2897, eg_2898⟩ : ∃ g9, f_2892 (q 14) = aI E 2076 g9 ∧ FOK g9 ∧ g9 = upd g_2841 (v_2849 : Int32).toNatClampNeg r_2857 := ⟨_, hf_2893, (ok_2843.up (by first | omega | (simp only [Int32.lt_iff_toInt_lt, Int32.le_iff_toInt_le, Int32.reduceToInt, ← Int32.toInt_inj, true_and, and_true, or_true, true_or, false_or, or_false, false_and, and_false, not_true_eq_false, not_false_eq_true] <;> omega)) (fun q1 q2 => (by first | omega | (simp only [Int32.lt_iff_toInt_lt, Int32.le_iff_toInt_le, Int32.reduceToInt, ← Int32.toInt_inj] at *; omega))) (fun k9 q1 q2 q3 => (by first | omega | (simp only [Int32.lt_iff_toInt_lt, Int32.le_iff_toInt_le, Int32.reduceToInt, ← Int32.toInt_inj] at *; omega)))), rfl⟩
                  have hf_2899 := (hk_2894 a_0 (ne_kd e_2869 hf_2868 rfl)).trans e_2869
                  have fr_2900 := FR.w hk_2894 hf_2868 (k := 2176) rfl
                  have lk_2901 := l2_at (g0 := g_f) eg_2898 (by omega) (by omega)
                  have ag_2902 := ag_2848.st eg_2898 (by omega) (by omega)
                  try simp only [Int32.reduceToInt] at lk_2901
                  refine v_goto hC dX12_readLoss_190 (tgt := 258) (by decide) ?_
                  refine v_aload_n hC dX12_readLoss_258 rfl ?_
                  refine v_vv hC (rest := []) m_1 hf_2899 rfl mi_X12_ends ms_X12_ends (p_X12_ends hW_2896 k_0) mx_X12_ends ml_X12_178 (by decide) rfl (cells1 := 0) (slots1 := 0) (by decide) (by decide) (Nat.le_of_ble_eq_true rfl) (Nat.le_of_ble_eq_true rfl) rfl (Nat.le_of_ble_eq_true rfl) dX12_readLoss_259 (fun L_2904 f_2905 h_2906 => ?_)
                  obtain ⟨rfl, hW_2909, hF_2910, x_2907, x_2908, -, -⟩ := h_2906
                  have fe_2911 : fld (f_2892 a_0) 8 = (v_2875 : Int32).toInt := by rw [hf_2899]; rfl
                  have fe_2912 : fld (f_2892 a_0) 10 = (v_2879 : Int32).toInt := by rw [hf_2899]; rfl
                  have fe_2913 : fld (f_2892 a_0) 12 = (v_2882 : Int32).toInt := by rw [hf_2899]; rfl
                  have hf_2914 := hF_2910.at hf_2893 rfl
                  obtain ⟨v_2916, v_2917, v_2919, v_2921, v_2923, v_2925, v_2927, v_2928, v_2929, v_2930, v_2932, e_2915, b_2918, b_2920, b_2922, b_2924, b_2926, b_2931, b_2933⟩ := hW_2909.at m_1 t_2
                  have fe_2934 : fld (f_2905 a_0) 8 = (v_2921 : Int32).toInt := by rw [e_2915]; rfl
                  have fe_2935 : fld (f_2905 a_0) 9 = (v_2923 : Int32).toInt := by rw [e_2915]; rfl
                  have fe_2936 : fld (f_2905 a_0) 12 = (v_2928 : Int32).toInt := by rw [e_2915]; rfl
                  rw [fe_2936, fe_2913] at x_2907
                  rw [fe_2936, fe_2912, fe_2911, fe_2935, fe_2934] at x_2908
                  clear fe_2911 fe_2912 fe_2913 fe_2934 fe_2935 fe_2936
                  refine v_aload_n hC dX12_readLoss_262 rfl ?_
                  refine v_get hC fl_X12_34 m_1 e_2915 rfl dX12_readLoss_263 ?_
                  refine v_bipush hC dX12_readLoss_266 (v := 6) (by decide) ?_
                  refine v_dup2 hC dX12_readLoss_268 rfl rfl ?_
                  have l6_2937 : (g_2895 6).toInt = (g_f 6).toInt := congrArg Int32.toInt ag_2902.2.1
                  refine v_iald hC m_22 hf_2914 (vp_in_iff.mpr (by decide)) (v := g_2895 6) rfl dX12_readLoss_269 ?_
                  refine v_iconst hC dX12_readLoss_270 (v := 1) (by decide) ?_
                  obtain ⟨v_2938, h_2939⟩ : ∃ v9 : Int32, (g_2895 6) + 1 = v9 := ⟨_, rfl⟩
                  refine v_iadd hC dX12_readLoss_271 h_2939 ?_
                  have h_2940 := add_v h_2939 (by first | omega | (simp only [Int32.lt_iff_toInt_lt, Int32.le_iff_toInt_le, Int32.reduceToInt, ← Int32.toInt_inj, true_and, and_true, or_true, true_or, false_or, or_false, false_and, and_false, not_true_eq_false, not_false_eq_true] <;> omega)) (by first | omega | (simp only [Int32.lt_iff_toInt_lt, Int32.le_iff_toInt_le, Int32.reduceToInt, ← Int32.toInt_inj, true_and, and_true, or_true, true_or, false_or, or_false, false_and, and_false, not_true_eq_false, not_false_eq_true] <;> omega))
                  try simp only [Int32.reduceToInt] at h_2940
                  refine v_iast hC m_22 hf_2914 (vp_in_iff.mpr (by decide)) dX12_readLoss_272 (fun f_2941 hf_2942 hk_2943 => ?_)
                  have hW_2945 := hW_2909.up hf_2942 hk_2943 t_23 ⟨_, rfl, (ok_2897.up (i := 6) (by decide) (fun q1 q2 => absurd (And.intro q1 q2) (by decide)) (fun k9 q1 q2 q3 => by simp only [Int32.reduceToInt] at q3; omega))⟩
                  obtain ⟨g_2944, hf_2942, ok_2946, eg_2947⟩ : ∃ g9, f_2941 (q 14) = aI E 2076 g9 ∧ FOK g9 ∧ g9 = upd g_2895 (6 : Int32).toNatClampNeg v_2938 := ⟨_, hf_2942, (ok_2897.up (i := 6) (by decide) (fun q1 q2 => absurd (And.intro q1 q2) (by decide)) (fun k9 q1 q2 q3 => by simp only [Int32.reduceToInt] at q3; omega)), rfl⟩
                  have hf_2948 := (hk_2943 a_0 (ne_kd e_2915 hf_2914 rfl)).trans e_2915
                  have fr_2949 := FR.w hk_2943 hf_2914 (k := 2176) rfl
                  have ln6_2950 := FOK.n6 ag_2902.1 eg_2947
                  have ln6_2950_t : (g_2944 6).toInt = v_2938.toInt := congrArg Int32.toInt ln6_2950.2
                  have fe_2951 : fld (f_2941 a_0) 12 = (v_2928 : Int32).toInt := by rw [hf_2948]; rfl
                  have fe_2952 : fld (f_2941 a_0) 8 = (v_2921 : Int32).toInt := by rw [hf_2948]; rfl
                  have fe_2953 : fld (f_2941 a_0) 12 = (v_2928 : Int32).toInt := by rw [hf_2948]; rfl
                  have fe_2954 : fld (f_2941 a_0) 20 = (v_2932 : Int32).toInt := by rw [hf_2948]; rfl
                  exact hR _ _ _ _ _ _ dX12_readLoss_273 (Nat.le_of_ble_eq_true rfl) (Nat.le_of_ble_eq_true rfl) ⟨rfl, hW_2945, ((((((((((hF_1611.tr hF_1652).tr hF_2754).tr fr_2796).tr hF_2810).tr fr_2846).tr hF_2865).tr fr_2900).tr hF_2910).tr fr_2949).mono rfl), ⟨_, hf_2942, ln6_2950.1, (by omega), (by rw [fe_2951]; by_cases q9 : v_2928.toInt = 0; exact .inr (LO.fin hLO ag_2902 eg_2947 (by omega) (by omega) (fun q8 => by omega)); exact .inl q9)⟩, (by simp only [fe_2952, fe_2953, mz_43, mz_44, true_and, and_true, or_true, true_or, false_or, or_false, false_and, and_false, not_true_eq_false, not_false_eq_true] <;> first | omega | (simp only [Int32.lt_iff_toInt_lt, Int32.le_iff_toInt_le, Int32.reduceToInt, ← Int32.toInt_inj, true_and, and_true, or_true, true_or, false_or, or_false, false_and, and_false, not_true_eq_false, not_false_eq_true] <;> omega)), (by simp only [fe_2954, mz_45, true_and, and_true, or_true, true_or, false_or, or_false, false_and, and_false, not_true_eq_false, not_false_eq_true] <;> first | omega | (simp only [Int32.lt_iff_toInt_lt, Int32.le_iff_toInt_le, Int32.reduceToInt, ← Int32.toInt_inj, true_and, and_true, or_true, true_or, false_or, or_false, false_and, and_false, not_true_eq_false, not_false_eq_true] <;> omega))⟩
                · simp only [Int32.lt_iff_toInt_lt, Int32.le_iff_toInt_le, Int32.reduceToInt, ← Int32.toInt_inj] at h_2787
                  refine v_aload_n hC dX12_readLoss_131 rfl ?_
                  refine v_vv hC (rest := []) m_1 e_2757 rfl mi_X12_advance ms_X12_advance (p_X12_advance hW_2753 k_0) mx_X12_advance ml_X12_156 (by decide) rfl (cells1 := 0) (slots1 := 0) (by decide) (by decide) (Nat.le_of_ble_eq_true rfl) (Nat.le_of_ble_eq_true rfl) rfl (Nat.le_of_ble_eq_true rfl) dX12_readLoss_132 (fun L_2956 f_2957 h_2958 => ?_)
                  obtain ⟨rfl, hW_2962, hF_2963, x_2959, x_2960, x_2961, -⟩ := h_2958
                  have fe_2964 : fld (f_2749 a_0) 8 = (v_2763 : Int32).toInt := by rw [e_2757]; rfl
                  have fe_2965 : fld (f_2749 a_0) 12 = (v_2770 : Int32).toInt := by rw [e_2757]; rfl
                  have hf_2966 := hF_2963.at hf_2756 rfl
                  obtain ⟨v_2968, v_2969, v_2971, v_2973, v_2975, v_2977, v_2979, v_2980, v_2981, v_2982, v_2984, e_2967, b_2970, b_2972, b_2974, b_2976, b_2978, b_2983, b_2985⟩ := hW_2962.at m_1 t_2
                  have fe_2986 : fld (f_2957 a_0) 8 = (v_2973 : Int32).toInt := by rw [e_2967]; rfl
                  have fe_2987 : fld (f_2957 a_0) 9 = (v_2975 : Int32).toInt := by rw [e_2967]; rfl
                  have fe_2988 : fld (f_2957 a_0) 10 = (v_2977 : Int32).toInt := by rw [e_2967]; rfl
                  have fe_2989 : fld (f_2957 a_0) 12 = (v_2980 : Int32).toInt := by rw [e_2967]; rfl
                  rw [fe_2964, fe_2987, fe_2986] at x_2959
                  rw [fe_2988, fe_2987, fe_2986] at x_2960
                  rw [fe_2989, fe_2965] at x_2961
                  clear fe_2964 fe_2965 fe_2986 fe_2987 fe_2988 fe_2989
                  refine v_aload_n hC dX12_readLoss_135 rfl ?_
                  refine v_get hC fl_X12_34 m_1 e_2967 rfl dX12_readLoss_136 ?_
                  refine v_iload_n hC dX12_readLoss_139 rfl ?_
                  refine v_iload_n hC dX12_readLoss_140 rfl ?_
                  refine v_if_eq_t hC dX12_readLoss_141 (tgt := 148) (by decide) (by first | omega | (simp only [Int32.lt_iff_toInt_lt, Int32.le_iff_toInt_le, Int32.reduceToInt, ← Int32.toInt_inj, true_and, and_true, or_true, true_or, false_or, or_false, false_and, and_false, not_true_eq_false, not_false_eq_true] <;> omega)) ?_
                  refine v_iconst hC dX12_readLoss_148 (v := 0) (by decide) ?_
                  refine v_iast hC m_22 hf_2966 (vp_in_iff.mpr (by first | omega | (simp only [Int32.lt_iff_toInt_lt, Int32.le_iff_toInt_le, Int32.reduceToInt, ← Int32.toInt_inj, true_and, and_true, or_true, true_or, false_or, or_false, false_and, and_false, not_true_eq_false, not_false_eq_true] <;> omega))) dX12_readLoss_149 (fun f_2990 hf_2991 hk_2992 => ?_)
                  have hW_2994 := hW_2962.up hf_2991 hk_2992 t_23 ⟨_, rfl, (o_f.up (by first | omega | (simp only [Int32.lt_iff_toInt_lt, Int32.le_iff_toInt_le, Int32.reduceToInt, ← Int32.toInt_inj, true_and, and_true, or_true, true_or, false_or, or_false, false_and, and_false, not_true_eq_false, not_false_eq_true] <;> omega)) (fun q1 q2 => (by first | omega | (simp only [Int32.lt_iff_toInt_lt, Int32.le_iff_toInt_le, Int32.reduceToInt, ← Int32.toInt_inj] at *; omega))) (fun k9 q1 q2 q3 => (by first | omega | (simp only [Int32.lt_iff_toInt_lt, Int32.le_iff_toInt_le, Int32.reduceToInt, ← Int32.toInt_inj] at *; omega))))⟩
                  obtain ⟨g_2993, hf_2991, ok_2995, eg_2996⟩ : ∃ g9, f_2990 (q 14) = aI E 2076 g9 ∧ FOK g9 ∧ g9 = upd g_f (v_49 : Int32).toNatClampNeg 0 := ⟨_, hf_2991, (o_f.up (by first | omega | (simp only [Int32.lt_iff_toInt_lt, Int32.le_iff_toInt_le, Int32.reduceToInt, ← Int32.toInt_inj, true_and, and_true, or_true, true_or, false_or, or_false, false_and, and_false, not_true_eq_false, not_false_eq_true] <;> omega)) (fun q1 q2 => (by first | omega | (simp only [Int32.lt_iff_toInt_lt, Int32.le_iff_toInt_le, Int32.reduceToInt, ← Int32.toInt_inj] at *; omega))) (fun k9 q1 q2 q3 => (by first | omega | (simp only [Int32.lt_iff_toInt_lt, Int32.le_iff_toInt_le, Int32.reduceToInt, ← Int32.toInt_inj] at *; omega)))), rfl⟩
                  have hf_2997 := (hk_2992 a_0 (ne_kd e_2967 hf_2966 rfl)).trans e_2967
                  have fr_2998 := FR.w hk_2992 hf_2966 (k := 2176) rfl
                  have lk_2999 := lk_at (g0 := g_f) eg_2996 (by omega) (by omega)
                  have ag_3000 := (AG.rf o_f).st eg_2996 (by omega) (by omega)
                  try simp only [Int32.reduceToInt] at lk_2999
                  refine v_aload_n hC dX12_readLoss_150 rfl ?_
                  refine v_get hC fl_X12_34 m_1 hf_2997 rfl dX12_readLoss_151 ?_
                  refine v_iload_n hC dX12_readLoss_154 rfl ?_
                  refine v_iconst hC dX12_readLoss_155 (v := 1) (by decide) ?_
                  obtain ⟨v_3001, h_3002⟩ : ∃ v9 : Int32, v_49 + 1 = v9 := ⟨_, rfl⟩
                  refine v_iadd hC dX12_readLoss_156 h_3002 ?_
                  have h_3003 := add_v h_3002 (by first | omega | (simp only [Int32.lt_iff_toInt_lt, Int32.le_iff_toInt_le, Int32.reduceToInt, ← Int32.toInt_inj, true_and, and_true, or_true, true_or, false_or, or_false, false_and, and_false, not_true_eq_false, not_false_eq_true] <;> omega)) (by first | omega | (simp only [Int32.lt_iff_toInt_lt, Int32.le_iff_toInt_le, Int32.reduceToInt, ← Int32.toInt_inj, true_and, and_true, or_true, true_or, false_or, or_false, false_and, and_false, not_true_eq_false, not_false_eq_true] <;> omega))
                  try simp only [Int32.reduceToInt] at h_3003
                  refine v_aload_n hC dX12_readLoss_157 rfl ?_
                  refine v_iconst hC dX12_readLoss_158 (v := 0) (by decide) ?_
                  refine v_bipush hC dX12_readLoss_159 (v := 15) (by decide) ?_
                  refine v_vi hC (rest := [.int v_3001, .ref (q 14)]) m_1 hf_2997 rfl mi_X12_number ms_X12_number (p_X12_number hW_2994 k_0) mx_X12_number ml_X12_170 (by decide) rfl (cells1 := 0) (slots1 := 0) (by decide) (by decide) (Nat.le_of_ble_eq_true rfl) (Nat.le_of_ble_eq_true rfl) rfl (Nat.le_of_ble_eq_true rfl) dX12_readLoss_161 (fun r_3004 L_3005 f_3006 h_3007 => ?_)
                  obtain ⟨rfl, hW_3011, hF_3012, x_3008, x_3009, x_3010, -, -⟩ := h_3007
                  have fe_3013 : fld (f_2990 a_0) 8 = (v_2973 : Int32).toInt := by rw [hf_2997]; rfl
                  have fe_3014 : fld (f_2990 a_0) 10 = (v_2977 : Int32).toInt := by rw [hf_2997]; rfl
                  have fe_3015 : fld (f_2990 a_0) 12 = (v_2980 : Int32).toInt := by rw [hf_2997]; rfl
                  have hf_3016 := hF_3012.at hf_2991 rfl
                  obtain ⟨v_3018, v_3019, v_3021, v_3023, v_3025, v_3027, v_3029, v_3030, v_3031, v_3032, v_3034, e_3017, b_3020, b_3022, b_3024, b_3026, b_3028, b_3033, b_3035⟩ := hW_3011.at m_1 t_2
                  have fe_3036 : fld (f_3006 a_0) 8 = (v_3023 : Int32).toInt := by rw [e_3017]; rfl
                  have fe_3037 : fld (f_3006 a_0) 9 = (v_3025 : Int32).toInt := by rw [e_3017]; rfl
                  have fe_3038 : fld (f_3006 a_0) 10 = (v_3027 : Int32).toInt := by rw [e_3017]; rfl
                  have fe_3039 : fld (f_3006 a_0) 12 = (v_3030 : Int32).toInt := by rw [e_3017]; rfl
                  rw [fe_3039, fe_3015] at x_3008
                  rw [fe_3039, fe_3014, fe_3013, fe_3037, fe_3036] at x_3009
                  rw [fe_3039, fe_3038, fe_3037, fe_3036] at x_3010
                  clear fe_3013 fe_3014 fe_3015 fe_3036 fe_3037 fe_3038 fe_3039
                  try simp only [Int32.reduceToInt, Int64.reduceToInt] at x_3008
                  try simp only [Int32.reduceToInt, Int64.reduceToInt] at x_3009
                  try simp only [Int32.reduceToInt, Int64.reduceToInt] at x_3010
                  refine v_iast hC m_22 hf_3016 (vp_in_iff.mpr (by first | omega | (simp only [Int32.lt_iff_toInt_lt, Int32.le_iff_toInt_le, Int32.reduceToInt, ← Int32.toInt_inj, true_and, and_true, or_true, true_or, false_or, or_false, false_and, and_false, not_true_eq_false, not_false_eq_true] <;> omega))) dX12_readLoss_164 (fun f_3040 hf_3041 hk_3042 => ?_)
                  have hW_3044 := hW_3011.up hf_3041 hk_3042 t_23 ⟨_, rfl, (ok_2995.up (by first | omega | (simp only [Int32.lt_iff_toInt_lt, Int32.le_iff_toInt_le, Int32.reduceToInt, ← Int32.toInt_inj, true_and, and_true, or_true, true_or, false_or, or_false, false_and, and_false, not_true_eq_false, not_false_eq_true] <;> omega)) (fun q1 q2 => (by first | omega | (simp only [Int32.lt_iff_toInt_lt, Int32.le_iff_toInt_le, Int32.reduceToInt, ← Int32.toInt_inj] at *; omega))) (fun k9 q1 q2 q3 => (by first | omega | (simp only [Int32.lt_iff_toInt_lt, Int32.le_iff_toInt_le, Int32.reduceToInt, ← Int32.toInt_inj] at *; omega))))⟩
                  obtain ⟨g_3043, hf_3041, ok_3045, eg_3046⟩ : ∃ g9, f_3040 (q 14) = aI E 2076 g9 ∧ FOK g9 ∧ g9 = upd g_2993 (v_3001 : Int32).toNatClampNeg r_3004 := ⟨_, hf_3041, (ok_2995.up (by first | omega | (simp only [Int32.lt_iff_toInt_lt, Int32.le_iff_toInt_le, Int32.reduceToInt, ← Int32.toInt_inj, true_and, and_true, or_true, true_or, false_or, or_false, false_and, and_false, not_true_eq_false, not_false_eq_true] <;> omega)) (fun q1 q2 => (by first | omega | (simp only [Int32.lt_iff_toInt_lt, Int32.le_iff_toInt_le, Int32.reduceToInt, ← Int32.toInt_inj] at *; omega))) (fun k9 q1 q2 q3 => (by first | omega | (simp only [Int32.lt_iff_toInt_lt, Int32.le_iff_toInt_le, Int32.reduceToInt, ← Int32.toInt_inj] at *; omega)))), rfl⟩
                  have hf_3047 := (hk_3042 a_0 (ne_kd e_3017 hf_3016 rfl)).trans e_3017
                  have fr_3048 := FR.w hk_3042 hf_3016 (k := 2176) rfl
                  have lk_3049 := lf_at (g0 := g_f) eg_3046 (by omega) (by omega)
                  have ag_3050 := ag_3000.st eg_3046 (by omega) (by omega)
                  try simp only [Int32.reduceToInt] at lk_3049
                  refine v_aload_n hC dX12_readLoss_165 rfl ?_
                  refine v_get hC fl_X12_34 m_1 hf_3047 rfl dX12_readLoss_166 ?_
                  refine v_iload_n hC dX12_readLoss_169 rfl ?_
                  refine v_iconst hC dX12_readLoss_170 (v := 2) (by decide) ?_
                  obtain ⟨v_3051, h_3052⟩ : ∃ v9 : Int32, v_49 + 2 = v9 := ⟨_, rfl⟩
                  refine v_iadd hC dX12_readLoss_171 h_3052 ?_
                  have h_3053 := add_v h_3052 (by first | omega | (simp only [Int32.lt_iff_toInt_lt, Int32.le_iff_toInt_le, Int32.reduceToInt, ← Int32.toInt_inj, true_and, and_true, or_true, true_or, false_or, or_false, false_and, and_false, not_true_eq_false, not_false_eq_true] <;> omega)) (by first | omega | (simp only [Int32.lt_iff_toInt_lt, Int32.le_iff_toInt_le, Int32.reduceToInt, ← Int32.toInt_inj, true_and, and_true, or_true, true_or, false_or, or_false, false_and, and_false, not_true_eq_false, not_false_eq_true] <;> omega))
                  try simp only [Int32.reduceToInt] at h_3053
                  refine v_aload_n hC dX12_readLoss_172 rfl ?_
                  refine v_ldcwS hC sr_X12_295 dX12_readLoss_173 ?_
                  refine v_aload_n hC dX12_readLoss_176 rfl ?_
                  refine v_get hC fl_X12_34 m_1 hf_3047 rfl dX12_readLoss_177 ?_
                  refine v_iload_n hC dX12_readLoss_180 rfl ?_
                  refine v_iconst hC dX12_readLoss_181 (v := 1) (by decide) ?_
                  obtain ⟨v_3054, h_3055⟩ : ∃ v9 : Int32, v_49 + 1 = v9 := ⟨_, rfl⟩
                  refine v_iadd hC dX12_readLoss_182 h_3055 ?_
                  have h_3056 := add_v h_3055 (by first | omega | (simp only [Int32.lt_iff_toInt_lt, Int32.le_iff_toInt_le, Int32.reduceToInt, ← Int32.toInt_inj, true_and, and_true, or_true, true_or, false_or, or_false, false_and, and_false, not_true_eq_false, not_false_eq_true] <;> omega)) (by first | omega | (simp only [Int32.lt_iff_toInt_lt, Int32.le_iff_toInt_le, Int32.reduceToInt, ← Int32.toInt_inj, true_and, and_true, or_true, true_or, false_or, or_false, false_and, and_false, not_true_eq_false, not_false_eq_true] <;> omega))
                  try simp only [Int32.reduceToInt] at h_3056
                  obtain ⟨v_3057, h_3058⟩ : ∃ v9 : Int32, g_3043 (v_3054 : Int32).toNatClampNeg = v9 := ⟨_, rfl⟩
                  refine v_iald hC m_22 hf_3041 (vp_in_iff.mpr (by first | omega | (simp only [Int32.lt_iff_toInt_lt, Int32.le_iff_toInt_le, Int32.reduceToInt, ← Int32.toInt_inj, true_and, and_true, or_true, true_or, false_or, or_false, false_and, and_false, not_true_eq_false, not_false_eq_true] <;> omega))) h_3058 dX12_readLoss_183 ?_
                  refine v_bipush hC dX12_readLoss_184 (v := 15) (by decide) ?_
                  refine v_vi hC (rest := [.int v_3051, .ref (q 14)]) m_1 hf_3047 rfl mi_X12_told ms_X12_told (p_X12_told hW_3044 k_0 (by decide)) mx_X12_told ml_X12_189 (by decide) rfl (cells1 := 0) (slots1 := 0) (by decide) (by decide) (Nat.le_of_ble_eq_true rfl) (Nat.le_of_ble_eq_true rfl) rfl (Nat.le_of_ble_eq_true rfl) dX12_readLoss_186 (fun r_3059 L_3060 f_3061 h_3062 => ?_)
                  obtain ⟨rfl, hW_3066, hF_3067, x_3063, x_3064, x_3065, -, -⟩ := h_3062
                  have fe_3068 : fld (f_3040 a_0) 8 = (v_3023 : Int32).toInt := by rw [hf_3047]; rfl
                  have fe_3069 : fld (f_3040 a_0) 12 = (v_3030 : Int32).toInt := by rw [hf_3047]; rfl
                  have hf_3070 := hF_3067.at hf_3041 rfl
                  obtain ⟨v_3072, v_3073, v_3075, v_3077, v_3079, v_3081, v_3083, v_3084, v_3085, v_3086, v_3088, e_3071, b_3074, b_3076, b_3078, b_3080, b_3082, b_3087, b_3089⟩ := hW_3066.at m_1 t_2
                  have fe_3090 : fld (f_3061 a_0) 8 = (v_3077 : Int32).toInt := by rw [e_3071]; rfl
                  have fe_3091 : fld (f_3061 a_0) 9 = (v_3079 : Int32).toInt := by rw [e_3071]; rfl
                  have fe_3092 : fld (f_3061 a_0) 10 = (v_3081 : Int32).toInt := by rw [e_3071]; rfl
                  have fe_3093 : fld (f_3061 a_0) 12 = (v_3084 : Int32).toInt := by rw [e_3071]; rfl
                  rw [fe_3093, fe_3069] at x_3063
                  rw [fe_3093, fe_3068, fe_3091, fe_3090] at x_3064
                  rw [fe_3093, fe_3092, fe_3091, fe_3090] at x_3065
                  clear fe_3068 fe_3069 fe_3090 fe_3091 fe_3092 fe_3093
                  try simp only [Int32.reduceToInt, Int64.reduceToInt] at x_3063
                  try simp only [Int32.reduceToInt, Int64.reduceToInt] at x_3064
                  try simp only [Int32.reduceToInt, Int64.reduceToInt] at x_3065
                  refine v_iast hC m_22 hf_3070 (vp_in_iff.mpr (by first | omega | (simp only [Int32.lt_iff_toInt_lt, Int32.le_iff_toInt_le, Int32.reduceToInt, ← Int32.toInt_inj, true_and, and_true, or_true, true_or, false_or, or_false, false_and, and_false, not_true_eq_false, not_false_eq_true] <;> omega))) dX12_readLoss_189 (fun f_3094 hf_3095 hk_3096 => ?_)
                  have hW_3098 := hW_3066.up hf_3095 hk_3096 t_23 ⟨_, rfl, (ok_3045.up (by first | omega | (simp only [Int32.lt_iff_toInt_lt, Int32.le_iff_toInt_le, Int32.reduceToInt, ← Int32.toInt_inj, true_and, and_true, or_true, true_or, false_or, or_false, false_and, and_false, not_true_eq_false, not_false_eq_true] <;> omega)) (fun q1 q2 => (by first | omega | (simp only [Int32.lt_iff_toInt_lt, Int32.le_iff_toInt_le, Int32.reduceToInt, ← Int32.toInt_inj] at *; omega))) (fun k9 q1 q2 q3 => (by first | omega | (simp only [Int32.lt_iff_toInt_lt, Int32.le_iff_toInt_le, Int32.reduceToInt, ← Int32.toInt_inj] at *; omega))))⟩
                  obtain ⟨g_3097, hf_3095, ok_3099, eg_3100⟩ : ∃ g9, f_3094 (q 14) = aI E 2076 g9 ∧ FOK g9 ∧ g9 = upd g_3043 (v_3051 : Int32).toNatClampNeg r_3059 := ⟨_, hf_3095, (ok_3045.up (by first | omega | (simp only [Int32.lt_iff_toInt_lt, Int32.le_iff_toInt_le, Int32.reduceToInt, ← Int32.toInt_inj, true_and, and_true, or_true, true_or, false_or, or_false, false_and, and_false, not_true_eq_false, not_false_eq_true] <;> omega)) (fun q1 q2 => (by first | omega | (simp only [Int32.lt_iff_toInt_lt, Int32.le_iff_toInt_le, Int32.reduceToInt, ← Int32.toInt_inj] at *; omega))) (fun k9 q1 q2 q3 => (by first | omega | (simp only [Int32.lt_iff_toInt_lt, Int32.le_iff_toInt_le, Int32.reduceToInt, ← Int32.toInt_inj] at *; omega)))), rfl⟩
                  have hf_3101 := (hk_3096 a_0 (ne_kd e_3071 hf_3070 rfl)).trans e_3071
                  have fr_3102 := FR.w hk_3096 hf_3070 (k := 2176) rfl
                  have lk_3103 := l2_at (g0 := g_f) eg_3100 (by omega) (by omega)
                  have ag_3104 := ag_3050.st eg_3100 (by omega) (by omega)
                  try simp only [Int32.reduceToInt] at lk_3103
                  refine v_goto hC dX12_readLoss_190 (tgt := 258) (by decide) ?_
                  refine v_aload_n hC dX12_readLoss_258 rfl ?_
                  refine v_vv hC (rest := []) m_1 hf_3101 rfl mi_X12_ends ms_X12_ends (p_X12_ends hW_3098 k_0) mx_X12_ends ml_X12_178 (by decide) rfl (cells1 := 0) (slots1 := 0) (by decide) (by decide) (Nat.le_of_ble_eq_true rfl) (Nat.le_of_ble_eq_true rfl) rfl (Nat.le_of_ble_eq_true rfl) dX12_readLoss_259 (fun L_3106 f_3107 h_3108 => ?_)
                  obtain ⟨rfl, hW_3111, hF_3112, x_3109, x_3110, -, -⟩ := h_3108
                  have fe_3113 : fld (f_3094 a_0) 8 = (v_3077 : Int32).toInt := by rw [hf_3101]; rfl
                  have fe_3114 : fld (f_3094 a_0) 10 = (v_3081 : Int32).toInt := by rw [hf_3101]; rfl
                  have fe_3115 : fld (f_3094 a_0) 12 = (v_3084 : Int32).toInt := by rw [hf_3101]; rfl
                  have hf_3116 := hF_3112.at hf_3095 rfl
                  obtain ⟨v_3118, v_3119, v_3121, v_3123, v_3125, v_3127, v_3129, v_3130, v_3131, v_3132, v_3134, e_3117, b_3120, b_3122, b_3124, b_3126, b_3128, b_3133, b_3135⟩ := hW_3111.at m_1 t_2
                  have fe_3136 : fld (f_3107 a_0) 8 = (v_3123 : Int32).toInt := by rw [e_3117]; rfl
                  have fe_3137 : fld (f_3107 a_0) 9 = (v_3125 : Int32).toInt := by rw [e_3117]; rfl
                  have fe_3138 : fld (f_3107 a_0) 12 = (v_3130 : Int32).toInt := by rw [e_3117]; rfl
                  rw [fe_3138, fe_3115] at x_3109
                  rw [fe_3138, fe_3114, fe_3113, fe_3137, fe_3136] at x_3110
                  clear fe_3113 fe_3114 fe_3115 fe_3136 fe_3137 fe_3138
                  refine v_aload_n hC dX12_readLoss_262 rfl ?_
                  refine v_get hC fl_X12_34 m_1 e_3117 rfl dX12_readLoss_263 ?_
                  refine v_bipush hC dX12_readLoss_266 (v := 6) (by decide) ?_
                  refine v_dup2 hC dX12_readLoss_268 rfl rfl ?_
                  have l6_3139 : (g_3097 6).toInt = (g_f 6).toInt := congrArg Int32.toInt ag_3104.2.1
                  refine v_iald hC m_22 hf_3116 (vp_in_iff.mpr (by decide)) (v := g_3097 6) rfl dX12_readLoss_269 ?_
                  refine v_iconst hC dX12_readLoss_270 (v := 1) (by decide) ?_
                  obtain ⟨v_3140, h_3141⟩ : ∃ v9 : Int32, (g_3097 6) + 1 = v9 := ⟨_, rfl⟩
                  refine v_iadd hC dX12_readLoss_271 h_3141 ?_
                  have h_3142 := add_v h_3141 (by first | omega | (simp only [Int32.lt_iff_toInt_lt, Int32.le_iff_toInt_le, Int32.reduceToInt, ← Int32.toInt_inj, true_and, and_true, or_true, true_or, false_or, or_false, false_and, and_false, not_true_eq_false, not_false_eq_true] <;> omega)) (by first | omega | (simp only [Int32.lt_iff_toInt_lt, Int32.le_iff_toInt_le, Int32.reduceToInt, ← Int32.toInt_inj, true_and, and_true, or_true, true_or, false_or, or_false, false_and, and_false, not_true_eq_false, not_false_eq_true] <;> omega))
                  try simp only [Int32.reduceToInt] at h_3142
                  refine v_iast hC m_22 hf_3116 (vp_in_iff.mpr (by decide)) dX12_readLoss_272 (fun f_3143 hf_3144 hk_3145 => ?_)
                  have hW_3147 := hW_3111.up hf_3144 hk_3145 t_23 ⟨_, rfl, (ok_3099.up (i := 6) (by decide) (fun q1 q2 => absurd (And.intro q1 q2) (by decide)) (fun k9 q1 q2 q3 => by simp only [Int32.reduceToInt] at q3; omega))⟩
                  obtain ⟨g_3146, hf_3144, ok_3148, eg_3149⟩ : ∃ g9, f_3143 (q 14) = aI E 2076 g9 ∧ FOK g9 ∧ g9 = upd g_3097 (6 : Int32).toNatClampNeg v_3140 := ⟨_, hf_3144, (ok_3099.up (i := 6) (by decide) (fun q1 q2 => absurd (And.intro q1 q2) (by decide)) (fun k9 q1 q2 q3 => by simp only [Int32.reduceToInt] at q3; omega)), rfl⟩
                  have hf_3150 := (hk_3145 a_0 (ne_kd e_3117 hf_3116 rfl)).trans e_3117
                  have fr_3151 := FR.w hk_3145 hf_3116 (k := 2176) rfl
                  have ln6_3152 := FOK.n6 ag_3104.1 eg_3149
                  have ln6_3152_t : (g_3146 6).toInt = v_3140.toInt := congrArg Int32.toInt ln6_3152.2
                  have fe_3153 : fld (f_3143 a_0) 12 = (v_3130 : Int32).toInt := by rw [hf_3150]; rfl
                  have fe_3154 : fld (f_3143 a_0) 8 = (v_3123 : Int32).toInt := by rw [hf_3150]; rfl
                  have fe_3155 : fld (f_3143 a_0) 12 = (v_3130 : Int32).toInt := by rw [hf_3150]; rfl
                  have fe_3156 : fld (f_3143 a_0) 20 = (v_3134 : Int32).toInt := by rw [hf_3150]; rfl
                  exact hR _ _ _ _ _ _ dX12_readLoss_273 (Nat.le_of_ble_eq_true rfl) (Nat.le_of_ble_eq_true rfl) ⟨rfl, hW_3147, (((((((((((hF_1611.tr hF_1652).tr hF_2754).tr hF_2963).tr fr_2998).tr hF_3012).tr fr_3048).tr hF_3067).tr fr_3102).tr hF_3112).tr fr_3151).mono rfl), ⟨_, hf_3144, ln6_3152.1, (by omega), (by rw [fe_3153]; by_cases q9 : v_3130.toInt = 0; exact .inr (LO.fin hLO ag_3104 eg_3149 (by omega) (by omega) (fun q8 => by omega)); exact .inl q9)⟩, (by simp only [fe_3154, fe_3155, mz_43, mz_44, true_and, and_true, or_true, true_or, false_or, or_false, false_and, and_false, not_true_eq_false, not_false_eq_true] <;> first | omega | (simp only [Int32.lt_iff_toInt_lt, Int32.le_iff_toInt_le, Int32.reduceToInt, ← Int32.toInt_inj, true_and, and_true, or_true, true_or, false_or, or_false, false_and, and_false, not_true_eq_false, not_false_eq_true] <;> omega)), (by simp only [fe_3156, mz_45, true_and, and_true, or_true, true_or, false_or, or_false, false_and, and_false, not_true_eq_false, not_false_eq_true] <;> first | omega | (simp only [Int32.lt_iff_toInt_lt, Int32.le_iff_toInt_le, Int32.reduceToInt, ← Int32.toInt_inj, true_and, and_true, or_true, true_or, false_or, or_false, false_and, and_false, not_true_eq_false, not_false_eq_true] <;> omega))⟩
        · simp only [Int32.lt_iff_toInt_lt, Int32.le_iff_toInt_le, Int32.reduceToInt, ← Int32.toInt_inj] at h_1644
          have fe_3157 : fld (f_1606 a_0) 12 = (v_1627 : Int32).toInt := by rw [e_1614]; rfl
          have fe_3158 : fld (f_1606 a_0) 8 = (v_1620 : Int32).toInt := by rw [e_1614]; rfl
          have fe_3159 : fld (f_1606 a_0) 12 = (v_1627 : Int32).toInt := by rw [e_1614]; rfl
          have fe_3160 : fld (f_1606 a_0) 20 = (v_1631 : Int32).toInt := by rw [e_1614]; rfl
          exact hR _ _ _ _ _ _ dX12_readLoss_87 (Nat.le_of_ble_eq_true rfl) (Nat.le_of_ble_eq_true rfl) ⟨rfl, hW_1610, (hF_1611.mono rfl), ⟨_, hf_1613, (AG.rf o_f).1, (by omega), (by rw [fe_3157]; left; omega)⟩, (by simp only [fe_3158, fe_3159, mz_43, mz_44, true_and, and_true, or_true, true_or, false_or, or_false, false_and, and_false, not_true_eq_false, not_false_eq_true] <;> first | omega | (simp only [Int32.lt_iff_toInt_lt, Int32.le_iff_toInt_le, Int32.reduceToInt, ← Int32.toInt_inj, true_and, and_true, or_true, true_or, false_or, or_false, false_and, and_false, not_true_eq_false, not_false_eq_true] <;> omega)), (by simp only [fe_3160, mz_45, true_and, and_true, or_true, true_or, false_or, or_false, false_and, and_false, not_true_eq_false, not_false_eq_true] <;> first | omega | (simp only [Int32.lt_iff_toInt_lt, Int32.le_iff_toInt_le, Int32.reduceToInt, ← Int32.toInt_inj, true_and, and_true, or_true, true_or, false_or, or_false, false_and, and_false, not_true_eq_false, not_false_eq_true] <;> omega))⟩
    · simp only [Int32.lt_iff_toInt_lt, Int32.le_iff_toInt_le, Int32.reduceToInt, ← Int32.toInt_inj] at h_76
      refine v_aload_n hC dX12_readLoss_54 rfl ?_
      refine v_iconst hC dX12_readLoss_55 (v := 1) (by decide) ?_
      refine v_vv hC (rest := []) m_1 e_24 rfl mi_X12_errs ms_X12_errs (p_X12_errs hW k_0 (by decide)) mx_X12_errs ml_X12_162 (by decide) rfl (cells1 := 0) (slots1 := 0) (by decide) (by decide) (Nat.le_of_ble_eq_true rfl) (Nat.le_of_ble_eq_true rfl) rfl (Nat.le_of_ble_eq_true rfl) dX12_readLoss_56 (fun L_3162 f_3163 h_3164 => ?_)
      obtain ⟨rfl, hW_3167, hF_3168, x_3165, x_3166, -, -, -⟩ := h_3164
      have fe_3169 : fld (f a_0) 8 = (v_30 : Int32).toInt := by rw [e_24]; rfl
      have hf_3170 := hF_3168.at e_f rfl
      obtain ⟨v_3172, v_3173, v_3175, v_3177, v_3179, v_3181, v_3183, v_3184, v_3185, v_3186, v_3188, e_3171, b_3174, b_3176, b_3178, b_3180, b_3182, b_3187, b_3189⟩ := hW_3167.at m_1 t_2
      have fe_3190 : fld (f_3163 a_0) 8 = (v_3177 : Int32).toInt := by rw [e_3171]; rfl
      have fe_3191 : fld (f_3163 a_0) 12 = (v_3184 : Int32).toInt := by rw [e_3171]; rfl
      rw [fe_3191] at x_3165
      rw [fe_3190, fe_3169] at x_3166
      clear fe_3169 fe_3190 fe_3191
      refine v_iload_n hC dX12_readLoss_59 rfl ?_
      refine v_if_eq_t hC dX12_readLoss_60 (tgt := 80) (by decide) (by first | omega | (simp only [Int32.lt_iff_toInt_lt, Int32.le_iff_toInt_le, Int32.reduceToInt, ← Int32.toInt_inj, true_and, and_true, or_true, true_or, false_or, or_false, false_and, and_false, not_true_eq_false, not_false_eq_true] <;> omega)) ?_
      refine v_aload_n hC dX12_readLoss_80 rfl ?_
      refine v_vi hC (rest := []) m_1 e_3171 rfl mi_X12_good ms_X12_good (p_X12_good hW_3167 k_0) mx_X12_good ml_X12_139 (by decide) rfl (cells1 := 0) (slots1 := 0) (by decide) (by decide) (Nat.le_of_ble_eq_true rfl) (Nat.le_of_ble_eq_true rfl) rfl (Nat.le_of_ble_eq_true rfl) dX12_readLoss_81 (fun r_3192 L_3193 f_3194 h_3195 => ?_)
      obtain ⟨rfl, rfl, b_3196, x_3197⟩ := h_3195
      have fe_3200 : fld (f_3163 a_0) 12 = (v_3184 : Int32).toInt := by rw [e_3171]; rfl
      rw [fe_3200] at x_3197
      clear fe_3200
      try simp only [Int32.reduceToInt, Int64.reduceToInt] at x_3197
      refine v_if_ne hC dX12_readLoss_84 (tgt := 88) (by decide) (fun h_3201 => ?_) (fun h_3201 => ?_)
      · simp only [Int32.lt_iff_toInt_lt, Int32.le_iff_toInt_le, Int32.reduceToInt, ← Int32.toInt_inj] at h_3201
        refine v_aload_n hC dX12_readLoss_88 rfl ?_
        refine v_ldcwS hC sr_X12_287 dX12_readLoss_89 ?_
        refine v_vi hC (rest := []) m_1 e_3171 rfl mi_X12_takes ms_X12_takes (p_X12_takes hW_3167 k_0 (by decide)) mx_X12_takes ml_X12_159 (by decide) rfl (cells1 := 0) (slots1 := 0) (by decide) (by decide) (Nat.le_of_ble_eq_true rfl) (Nat.le_of_ble_eq_true rfl) rfl (Nat.le_of_ble_eq_true rfl) dX12_readLoss_92 (fun r_3202 L_3203 f_3204 h_3205 => ?_)
        obtain ⟨rfl, hW_3208, hF_3209, rfl, x_3206, -, x_3207, -⟩ := h_3205
        have fe_3210 : fld (f_3163 a_0) 8 = (v_3177 : Int32).toInt := by rw [e_3171]; rfl
        have fe_3211 : fld (f_3163 a_0) 12 = (v_3184 : Int32).toInt := by rw [e_3171]; rfl
        have hf_3212 := hF_3209.at hf_3170 rfl
        obtain ⟨v_3214, v_3215, v_3217, v_3219, v_3221, v_3223, v_3225, v_3226, v_3227, v_3228, v_3230, e_3213, b_3216, b_3218, b_3220, b_3222, b_3224, b_3229, b_3231⟩ := hW_3208.at m_1 t_2
        have fe_3232 : fld (f_3204 a_0) 8 = (v_3219 : Int32).toInt := by rw [e_3213]; rfl
        have fe_3233 : fld (f_3204 a_0) 9 = (v_3221 : Int32).toInt := by rw [e_3213]; rfl
        have fe_3234 : fld (f_3204 a_0) 10 = (v_3223 : Int32).toInt := by rw [e_3213]; rfl
        have fe_3235 : fld (f_3204 a_0) 12 = (v_3226 : Int32).toInt := by rw [e_3213]; rfl
        rw [fe_3210, fe_3233, fe_3232, fe_3234] at x_3206
        rw [fe_3235, fe_3211] at x_3207
        clear fe_3210 fe_3211 fe_3232 fe_3233 fe_3234 fe_3235
        try simp only [Int32.reduceToInt, Int64.reduceToInt] at x_3206
        try simp only [Int32.reduceToInt, Int64.reduceToInt] at x_3207
        refine v_if_eq hC dX12_readLoss_95 (tgt := 193) (by decide) (fun h_3236 => ?_) (fun h_3236 => ?_)
        · simp only [Int32.lt_iff_toInt_lt, Int32.le_iff_toInt_le, Int32.reduceToInt, ← Int32.toInt_inj] at h_3236
          refine v_aload_n hC dX12_readLoss_193 rfl ?_
          refine v_ldcwS hC sr_X12_289 dX12_readLoss_194 ?_
          refine v_vi hC (rest := []) m_1 e_3213 rfl mi_X12_takes ms_X12_takes (p_X12_takes hW_3208 k_0 (by decide)) mx_X12_takes ml_X12_159 (by decide) rfl (cells1 := 0) (slots1 := 0) (by decide) (by decide) (Nat.le_of_ble_eq_true rfl) (Nat.le_of_ble_eq_true rfl) rfl (Nat.le_of_ble_eq_true rfl) dX12_readLoss_197 (fun r_3237 L_3238 f_3239 h_3240 => ?_)
          obtain ⟨rfl, hW_3243, hF_3244, rfl, x_3241, -, x_3242, -⟩ := h_3240
          have fe_3245 : fld (f_3204 a_0) 8 = (v_3219 : Int32).toInt := by rw [e_3213]; rfl
          have fe_3246 : fld (f_3204 a_0) 12 = (v_3226 : Int32).toInt := by rw [e_3213]; rfl
          have hf_3247 := hF_3244.at hf_3212 rfl
          obtain ⟨v_3249, v_3250, v_3252, v_3254, v_3256, v_3258, v_3260, v_3261, v_3262, v_3263, v_3265, e_3248, b_3251, b_3253, b_3255, b_3257, b_3259, b_3264, b_3266⟩ := hW_3243.at m_1 t_2
          have fe_3267 : fld (f_3239 a_0) 8 = (v_3254 : Int32).toInt := by rw [e_3248]; rfl
          have fe_3268 : fld (f_3239 a_0) 9 = (v_3256 : Int32).toInt := by rw [e_3248]; rfl
          have fe_3269 : fld (f_3239 a_0) 10 = (v_3258 : Int32).toInt := by rw [e_3248]; rfl
          have fe_3270 : fld (f_3239 a_0) 12 = (v_3261 : Int32).toInt := by rw [e_3248]; rfl
          rw [fe_3245, fe_3268, fe_3267, fe_3269] at x_3241
          rw [fe_3270, fe_3246] at x_3242
          clear fe_3245 fe_3246 fe_3267 fe_3268 fe_3269 fe_3270
          try simp only [Int32.reduceToInt, Int64.reduceToInt] at x_3241
          try simp only [Int32.reduceToInt, Int64.reduceToInt] at x_3242
          refine v_if_eq hC dX12_readLoss_200 (tgt := 247) (by decide) (fun h_3271 => ?_) (fun h_3271 => ?_)
          · simp only [Int32.lt_iff_toInt_lt, Int32.le_iff_toInt_le, Int32.reduceToInt, ← Int32.toInt_inj] at h_3271
            refine v_aload_n hC dX12_readLoss_247 rfl ?_
            refine v_vv hC (rest := []) m_1 e_3248 rfl mi_X12_advance ms_X12_advance (p_X12_advance hW_3243 k_0) mx_X12_advance ml_X12_156 (by decide) rfl (cells1 := 0) (slots1 := 0) (by decide) (by decide) (Nat.le_of_ble_eq_true rfl) (Nat.le_of_ble_eq_true rfl) rfl (Nat.le_of_ble_eq_true rfl) dX12_readLoss_248 (fun L_3273 f_3274 h_3275 => ?_)
            obtain ⟨rfl, hW_3279, hF_3280, x_3276, x_3277, x_3278, -⟩ := h_3275
            have fe_3281 : fld (f_3239 a_0) 8 = (v_3254 : Int32).toInt := by rw [e_3248]; rfl
            have fe_3282 : fld (f_3239 a_0) 12 = (v_3261 : Int32).toInt := by rw [e_3248]; rfl
            have hf_3283 := hF_3280.at hf_3247 rfl
            obtain ⟨v_3285, v_3286, v_3288, v_3290, v_3292, v_3294, v_3296, v_3297, v_3298, v_3299, v_3301, e_3284, b_3287, b_3289, b_3291, b_3293, b_3295, b_3300, b_3302⟩ := hW_3279.at m_1 t_2
            have fe_3303 : fld (f_3274 a_0) 8 = (v_3290 : Int32).toInt := by rw [e_3284]; rfl
            have fe_3304 : fld (f_3274 a_0) 9 = (v_3292 : Int32).toInt := by rw [e_3284]; rfl
            have fe_3305 : fld (f_3274 a_0) 10 = (v_3294 : Int32).toInt := by rw [e_3284]; rfl
            have fe_3306 : fld (f_3274 a_0) 12 = (v_3297 : Int32).toInt := by rw [e_3284]; rfl
            rw [fe_3281, fe_3304, fe_3303] at x_3276
            rw [fe_3305, fe_3304, fe_3303] at x_3277
            rw [fe_3306, fe_3282] at x_3278
            clear fe_3281 fe_3282 fe_3303 fe_3304 fe_3305 fe_3306
            refine v_aload_n hC dX12_readLoss_251 rfl ?_
            refine v_get hC fl_X12_34 m_1 e_3284 rfl dX12_readLoss_252 ?_
            refine v_iload_n hC dX12_readLoss_255 rfl ?_
            refine v_iconst hC dX12_readLoss_256 (v := 3) (by decide) ?_
            refine v_iast hC m_22 hf_3283 (vp_in_iff.mpr (by first | omega | (simp only [Int32.lt_iff_toInt_lt, Int32.le_iff_toInt_le, Int32.reduceToInt, ← Int32.toInt_inj, true_and, and_true, or_true, true_or, false_or, or_false, false_and, and_false, not_true_eq_false, not_false_eq_true] <;> omega))) dX12_readLoss_257 (fun f_3307 hf_3308 hk_3309 => ?_)
            have hW_3311 := hW_3279.up hf_3308 hk_3309 t_23 ⟨_, rfl, (o_f.up (by first | omega | (simp only [Int32.lt_iff_toInt_lt, Int32.le_iff_toInt_le, Int32.reduceToInt, ← Int32.toInt_inj, true_and, and_true, or_true, true_or, false_or, or_false, false_and, and_false, not_true_eq_false, not_false_eq_true] <;> omega)) (fun q1 q2 => (by first | omega | (simp only [Int32.lt_iff_toInt_lt, Int32.le_iff_toInt_le, Int32.reduceToInt, ← Int32.toInt_inj] at *; omega))) (fun k9 q1 q2 q3 => (by first | omega | (simp only [Int32.lt_iff_toInt_lt, Int32.le_iff_toInt_le, Int32.reduceToInt, ← Int32.toInt_inj] at *; omega))))⟩
            obtain ⟨g_3310, hf_3308, ok_3312, eg_3313⟩ : ∃ g9, f_3307 (q 14) = aI E 2076 g9 ∧ FOK g9 ∧ g9 = upd g_f (v_49 : Int32).toNatClampNeg 3 := ⟨_, hf_3308, (o_f.up (by first | omega | (simp only [Int32.lt_iff_toInt_lt, Int32.le_iff_toInt_le, Int32.reduceToInt, ← Int32.toInt_inj, true_and, and_true, or_true, true_or, false_or, or_false, false_and, and_false, not_true_eq_false, not_false_eq_true] <;> omega)) (fun q1 q2 => (by first | omega | (simp only [Int32.lt_iff_toInt_lt, Int32.le_iff_toInt_le, Int32.reduceToInt, ← Int32.toInt_inj] at *; omega))) (fun k9 q1 q2 q3 => (by first | omega | (simp only [Int32.lt_iff_toInt_lt, Int32.le_iff_toInt_le, Int32.reduceToInt, ← Int32.toInt_inj] at *; omega)))), rfl⟩
            have hf_3314 := (hk_3309 a_0 (ne_kd e_3284 hf_3283 rfl)).trans e_3284
            have fr_3315 := FR.w hk_3309 hf_3283 (k := 2176) rfl
            have lk_3316 := lk_at (g0 := g_f) eg_3313 (by omega) (by omega)
            have ag_3317 := (AG.rf o_f).st eg_3313 (by omega) (by omega)
            try simp only [Int32.reduceToInt] at lk_3316
            refine v_aload_n hC dX12_readLoss_258 rfl ?_
            refine v_vv hC (rest := []) m_1 hf_3314 rfl mi_X12_ends ms_X12_ends (p_X12_ends hW_3311 k_0) mx_X12_ends ml_X12_178 (by decide) rfl (cells1 := 0) (slots1 := 0) (by decide) (by decide) (Nat.le_of_ble_eq_true rfl) (Nat.le_of_ble_eq_true rfl) rfl (Nat.le_of_ble_eq_true rfl) dX12_readLoss_259 (fun L_3319 f_3320 h_3321 => ?_)
            obtain ⟨rfl, hW_3324, hF_3325, x_3322, x_3323, -, -⟩ := h_3321
            have fe_3326 : fld (f_3307 a_0) 8 = (v_3290 : Int32).toInt := by rw [hf_3314]; rfl
            have fe_3327 : fld (f_3307 a_0) 10 = (v_3294 : Int32).toInt := by rw [hf_3314]; rfl
            have fe_3328 : fld (f_3307 a_0) 12 = (v_3297 : Int32).toInt := by rw [hf_3314]; rfl
            have hf_3329 := hF_3325.at hf_3308 rfl
            obtain ⟨v_3331, v_3332, v_3334, v_3336, v_3338, v_3340, v_3342, v_3343, v_3344, v_3345, v_3347, e_3330, b_3333, b_3335, b_3337, b_3339, b_3341, b_3346, b_3348⟩ := hW_3324.at m_1 t_2
            have fe_3349 : fld (f_3320 a_0) 8 = (v_3336 : Int32).toInt := by rw [e_3330]; rfl
            have fe_3350 : fld (f_3320 a_0) 9 = (v_3338 : Int32).toInt := by rw [e_3330]; rfl
            have fe_3351 : fld (f_3320 a_0) 12 = (v_3343 : Int32).toInt := by rw [e_3330]; rfl
            rw [fe_3351, fe_3328] at x_3322
            rw [fe_3351, fe_3327, fe_3326, fe_3350, fe_3349] at x_3323
            clear fe_3326 fe_3327 fe_3328 fe_3349 fe_3350 fe_3351
            refine v_aload_n hC dX12_readLoss_262 rfl ?_
            refine v_get hC fl_X12_34 m_1 e_3330 rfl dX12_readLoss_263 ?_
            refine v_bipush hC dX12_readLoss_266 (v := 6) (by decide) ?_
            refine v_dup2 hC dX12_readLoss_268 rfl rfl ?_
            have l6_3352 : (g_3310 6).toInt = (g_f 6).toInt := congrArg Int32.toInt ag_3317.2.1
            refine v_iald hC m_22 hf_3329 (vp_in_iff.mpr (by decide)) (v := g_3310 6) rfl dX12_readLoss_269 ?_
            refine v_iconst hC dX12_readLoss_270 (v := 1) (by decide) ?_
            obtain ⟨v_3353, h_3354⟩ : ∃ v9 : Int32, (g_3310 6) + 1 = v9 := ⟨_, rfl⟩
            refine v_iadd hC dX12_readLoss_271 h_3354 ?_
            have h_3355 := add_v h_3354 (by first | omega | (simp only [Int32.lt_iff_toInt_lt, Int32.le_iff_toInt_le, Int32.reduceToInt, ← Int32.toInt_inj, true_and, and_true, or_true, true_or, false_or, or_false, false_and, and_false, not_true_eq_false, not_false_eq_true] <;> omega)) (by first | omega | (simp only [Int32.lt_iff_toInt_lt, Int32.le_iff_toInt_le, Int32.reduceToInt, ← Int32.toInt_inj, true_and, and_true, or_true, true_or, false_or, or_false, false_and, and_false, not_true_eq_false, not_false_eq_true] <;> omega))
            try simp only [Int32.reduceToInt] at h_3355
            refine v_iast hC m_22 hf_3329 (vp_in_iff.mpr (by decide)) dX12_readLoss_272 (fun f_3356 hf_3357 hk_3358 => ?_)
            have hW_3360 := hW_3324.up hf_3357 hk_3358 t_23 ⟨_, rfl, (ok_3312.up (i := 6) (by decide) (fun q1 q2 => absurd (And.intro q1 q2) (by decide)) (fun k9 q1 q2 q3 => by simp only [Int32.reduceToInt] at q3; omega))⟩
            obtain ⟨g_3359, hf_3357, ok_3361, eg_3362⟩ : ∃ g9, f_3356 (q 14) = aI E 2076 g9 ∧ FOK g9 ∧ g9 = upd g_3310 (6 : Int32).toNatClampNeg v_3353 := ⟨_, hf_3357, (ok_3312.up (i := 6) (by decide) (fun q1 q2 => absurd (And.intro q1 q2) (by decide)) (fun k9 q1 q2 q3 => by simp only [Int32.reduceToInt] at q3; omega)), rfl⟩
            have hf_3363 := (hk_3358 a_0 (ne_kd e_3330 hf_3329 rfl)).trans e_3330
            have fr_3364 := FR.w hk_3358 hf_3329 (k := 2176) rfl
            have ln6_3365 := FOK.n6 ag_3317.1 eg_3362
            have ln6_3365_t : (g_3359 6).toInt = v_3353.toInt := congrArg Int32.toInt ln6_3365.2
            have fe_3366 : fld (f_3356 a_0) 12 = (v_3343 : Int32).toInt := by rw [hf_3363]; rfl
            have fe_3367 : fld (f_3356 a_0) 8 = (v_3336 : Int32).toInt := by rw [hf_3363]; rfl
            have fe_3368 : fld (f_3356 a_0) 12 = (v_3343 : Int32).toInt := by rw [hf_3363]; rfl
            have fe_3369 : fld (f_3356 a_0) 20 = (v_3347 : Int32).toInt := by rw [hf_3363]; rfl
            exact hR _ _ _ _ _ _ dX12_readLoss_273 (Nat.le_of_ble_eq_true rfl) (Nat.le_of_ble_eq_true rfl) ⟨rfl, hW_3360, (((((((hF_3168.tr hF_3209).tr hF_3244).tr hF_3280).tr fr_3315).tr hF_3325).tr fr_3364).mono rfl), ⟨_, hf_3357, ln6_3365.1, (by omega), (by rw [fe_3366]; by_cases q9 : v_3343.toInt = 0; exact .inr (LO.fin hLO ag_3317 eg_3362 (by omega) (by omega) (fun q8 => by omega)); exact .inl q9)⟩, (by simp only [fe_3367, fe_3368, mz_43, mz_44, true_and, and_true, or_true, true_or, false_or, or_false, false_and, and_false, not_true_eq_false, not_false_eq_true] <;> first | omega | (simp only [Int32.lt_iff_toInt_lt, Int32.le_iff_toInt_le, Int32.reduceToInt, ← Int32.toInt_inj, true_and, and_true, or_true, true_or, false_or, or_false, false_and, and_false, not_true_eq_false, not_false_eq_true] <;> omega)), (by simp only [fe_3369, mz_45, true_and, and_true, or_true, true_or, false_or, or_false, false_and, and_false, not_true_eq_false, not_false_eq_true] <;> first | omega | (simp only [Int32.lt_iff_toInt_lt, Int32.le_iff_toInt_le, Int32.reduceToInt, ← Int32.toInt_inj, true_and, and_true, or_true, true_or, false_or, or_false, false_and, and_false, not_true_eq_false, not_false_eq_true] <;> omega))⟩
          · simp only [Int32.lt_iff_toInt_lt, Int32.le_iff_toInt_le, Int32.reduceToInt, ← Int32.toInt_inj] at h_3271
            refine v_aload_n hC dX12_readLoss_203 rfl ?_
            refine v_get hC fl_X12_34 m_1 e_3248 rfl dX12_readLoss_204 ?_
            refine v_iload_n hC dX12_readLoss_207 rfl ?_
            refine v_iconst hC dX12_readLoss_208 (v := 2) (by decide) ?_
            refine v_iast hC m_22 hf_3247 (vp_in_iff.mpr (by first | omega | (simp only [Int32.lt_iff_toInt_lt, Int32.le_iff_toInt_le, Int32.reduceToInt, ← Int32.toInt_inj, true_and, and_true, or_true, true_or, false_or, or_false, false_and, and_false, not_true_eq_false, not_false_eq_true] <;> omega))) dX12_readLoss_209 (fun f_3370 hf_3371 hk_3372 => ?_)
            have hW_3374 := hW_3243.up hf_3371 hk_3372 t_23 ⟨_, rfl, (o_f.up (by first | omega | (simp only [Int32.lt_iff_toInt_lt, Int32.le_iff_toInt_le, Int32.reduceToInt, ← Int32.toInt_inj, true_and, and_true, or_true, true_or, false_or, or_false, false_and, and_false, not_true_eq_false, not_false_eq_true] <;> omega)) (fun q1 q2 => (by first | omega | (simp only [Int32.lt_iff_toInt_lt, Int32.le_iff_toInt_le, Int32.reduceToInt, ← Int32.toInt_inj] at *; omega))) (fun k9 q1 q2 q3 => (by first | omega | (simp only [Int32.lt_iff_toInt_lt, Int32.le_iff_toInt_le, Int32.reduceToInt, ← Int32.toInt_inj] at *; omega))))⟩
            obtain ⟨g_3373, hf_3371, ok_3375, eg_3376⟩ : ∃ g9, f_3370 (q 14) = aI E 2076 g9 ∧ FOK g9 ∧ g9 = upd g_f (v_49 : Int32).toNatClampNeg 2 := ⟨_, hf_3371, (o_f.up (by first | omega | (simp only [Int32.lt_iff_toInt_lt, Int32.le_iff_toInt_le, Int32.reduceToInt, ← Int32.toInt_inj, true_and, and_true, or_true, true_or, false_or, or_false, false_and, and_false, not_true_eq_false, not_false_eq_true] <;> omega)) (fun q1 q2 => (by first | omega | (simp only [Int32.lt_iff_toInt_lt, Int32.le_iff_toInt_le, Int32.reduceToInt, ← Int32.toInt_inj] at *; omega))) (fun k9 q1 q2 q3 => (by first | omega | (simp only [Int32.lt_iff_toInt_lt, Int32.le_iff_toInt_le, Int32.reduceToInt, ← Int32.toInt_inj] at *; omega)))), rfl⟩
            have hf_3377 := (hk_3372 a_0 (ne_kd e_3248 hf_3247 rfl)).trans e_3248
            have fr_3378 := FR.w hk_3372 hf_3247 (k := 2176) rfl
            have lk_3379 := lk_at (g0 := g_f) eg_3376 (by omega) (by omega)
            have ag_3380 := (AG.rf o_f).st eg_3376 (by omega) (by omega)
            try simp only [Int32.reduceToInt] at lk_3379
            refine v_aload_n hC dX12_readLoss_210 rfl ?_
            refine v_get hC fl_X12_34 m_1 hf_3377 rfl dX12_readLoss_211 ?_
            refine v_iload_n hC dX12_readLoss_214 rfl ?_
            refine v_iconst hC dX12_readLoss_215 (v := 1) (by decide) ?_
            obtain ⟨v_3381, h_3382⟩ : ∃ v9 : Int32, v_49 + 1 = v9 := ⟨_, rfl⟩
            refine v_iadd hC dX12_readLoss_216 h_3382 ?_
            have h_3383 := add_v h_3382 (by first | omega | (simp only [Int32.lt_iff_toInt_lt, Int32.le_iff_toInt_le, Int32.reduceToInt, ← Int32.toInt_inj, true_and, and_true, or_true, true_or, false_or, or_false, false_and, and_false, not_true_eq_false, not_false_eq_true] <;> omega)) (by first | omega | (simp only [Int32.lt_iff_toInt_lt, Int32.le_iff_toInt_le, Int32.reduceToInt, ← Int32.toInt_inj, true_and, and_true, or_true, true_or, false_or, or_false, false_and, and_false, not_true_eq_false, not_false_eq_true] <;> omega))
            try simp only [Int32.reduceToInt] at h_3383
            refine v_aload_n hC dX12_readLoss_217 rfl ?_
            refine v_iconst hC dX12_readLoss_218 (v := 1) (by decide) ?_
            refine v_bipush hC dX12_readLoss_219 (v := 99) (by decide) ?_
            refine v_vi hC (rest := [.int v_3381, .ref (q 14)]) m_1 hf_3377 rfl mi_X12_number ms_X12_number (p_X12_number hW_3374 k_0) mx_X12_number ml_X12_170 (by decide) rfl (cells1 := 0) (slots1 := 0) (by decide) (by decide) (Nat.le_of_ble_eq_true rfl) (Nat.le_of_ble_eq_true rfl) rfl (Nat.le_of_ble_eq_true rfl) dX12_readLoss_221 (fun r_3384 L_3385 f_3386 h_3387 => ?_)
            obtain ⟨rfl, hW_3391, hF_3392, x_3388, x_3389, x_3390, -, -⟩ := h_3387
            have fe_3393 : fld (f_3370 a_0) 8 = (v_3254 : Int32).toInt := by rw [hf_3377]; rfl
            have fe_3394 : fld (f_3370 a_0) 10 = (v_3258 : Int32).toInt := by rw [hf_3377]; rfl
            have fe_3395 : fld (f_3370 a_0) 12 = (v_3261 : Int32).toInt := by rw [hf_3377]; rfl
            have hf_3396 := hF_3392.at hf_3371 rfl
            obtain ⟨v_3398, v_3399, v_3401, v_3403, v_3405, v_3407, v_3409, v_3410, v_3411, v_3412, v_3414, e_3397, b_3400, b_3402, b_3404, b_3406, b_3408, b_3413, b_3415⟩ := hW_3391.at m_1 t_2
            have fe_3416 : fld (f_3386 a_0) 8 = (v_3403 : Int32).toInt := by rw [e_3397]; rfl
            have fe_3417 : fld (f_3386 a_0) 9 = (v_3405 : Int32).toInt := by rw [e_3397]; rfl
            have fe_3418 : fld (f_3386 a_0) 10 = (v_3407 : Int32).toInt := by rw [e_3397]; rfl
            have fe_3419 : fld (f_3386 a_0) 12 = (v_3410 : Int32).toInt := by rw [e_3397]; rfl
            rw [fe_3419, fe_3395] at x_3388
            rw [fe_3419, fe_3394, fe_3393, fe_3417, fe_3416] at x_3389
            rw [fe_3419, fe_3418, fe_3417, fe_3416] at x_3390
            clear fe_3393 fe_3394 fe_3395 fe_3416 fe_3417 fe_3418 fe_3419
            try simp only [Int32.reduceToInt, Int64.reduceToInt] at x_3388
            try simp only [Int32.reduceToInt, Int64.reduceToInt] at x_3389
            try simp only [Int32.reduceToInt, Int64.reduceToInt] at x_3390
            refine v_iast hC m_22 hf_3396 (vp_in_iff.mpr (by first | omega | (simp only [Int32.lt_iff_toInt_lt, Int32.le_iff_toInt_le, Int32.reduceToInt, ← Int32.toInt_inj, true_and, and_true, or_true, true_or, false_or, or_false, false_and, and_false, not_true_eq_false, not_false_eq_true] <;> omega))) dX12_readLoss_224 (fun f_3420 hf_3421 hk_3422 => ?_)
            have hW_3424 := hW_3391.up hf_3421 hk_3422 t_23 ⟨_, rfl, (ok_3375.up (by first | omega | (simp only [Int32.lt_iff_toInt_lt, Int32.le_iff_toInt_le, Int32.reduceToInt, ← Int32.toInt_inj, true_and, and_true, or_true, true_or, false_or, or_false, false_and, and_false, not_true_eq_false, not_false_eq_true] <;> omega)) (fun q1 q2 => (by first | omega | (simp only [Int32.lt_iff_toInt_lt, Int32.le_iff_toInt_le, Int32.reduceToInt, ← Int32.toInt_inj] at *; omega))) (fun k9 q1 q2 q3 => (by first | omega | (simp only [Int32.lt_iff_toInt_lt, Int32.le_iff_toInt_le, Int32.reduceToInt, ← Int32.toInt_inj] at *; omega))))⟩
            obtain ⟨g_3423, hf_3421, ok_3425, eg_3426⟩ : ∃ g9, f_3420 (q 14) = aI E 2076 g9 ∧ FOK g9 ∧ g9 = upd g_3373 (v_3381 : Int32).toNatClampNeg r_3384 := ⟨_, hf_3421, (ok_3375.up (by first | omega | (simp only [Int32.lt_iff_toInt_lt, Int32.le_iff_toInt_le, Int32.reduceToInt, ← Int32.toInt_inj, true_and, and_true, or_true, true_or, false_or, or_false, false_and, and_false, not_true_eq_false, not_false_eq_true] <;> omega)) (fun q1 q2 => (by first | omega | (simp only [Int32.lt_iff_toInt_lt, Int32.le_iff_toInt_le, Int32.reduceToInt, ← Int32.toInt_inj] at *; omega))) (fun k9 q1 q2 q3 => (by first | omega | (simp only [Int32.lt_iff_toInt_lt, Int32.le_iff_toInt_le, Int32.reduceToInt, ← Int32.toInt_inj] at *; omega)))), rfl⟩
            have hf_3427 := (hk_3422 a_0 (ne_kd e_3397 hf_3396 rfl)).trans e_3397
            have fr_3428 := FR.w hk_3422 hf_3396 (k := 2176) rfl
            have lk_3429 := lf_at (g0 := g_f) eg_3426 (by omega) (by omega)
            have ag_3430 := ag_3380.st eg_3426 (by omega) (by omega)
            try simp only [Int32.reduceToInt] at lk_3429
            refine v_aload_n hC dX12_readLoss_225 rfl ?_
            refine v_get hC fl_X12_34 m_1 hf_3427 rfl dX12_readLoss_226 ?_
            refine v_iload_n hC dX12_readLoss_229 rfl ?_
            refine v_iconst hC dX12_readLoss_230 (v := 2) (by decide) ?_
            obtain ⟨v_3431, h_3432⟩ : ∃ v9 : Int32, v_49 + 2 = v9 := ⟨_, rfl⟩
            refine v_iadd hC dX12_readLoss_231 h_3432 ?_
            have h_3433 := add_v h_3432 (by first | omega | (simp only [Int32.lt_iff_toInt_lt, Int32.le_iff_toInt_le, Int32.reduceToInt, ← Int32.toInt_inj, true_and, and_true, or_true, true_or, false_or, or_false, false_and, and_false, not_true_eq_false, not_false_eq_true] <;> omega)) (by first | omega | (simp only [Int32.lt_iff_toInt_lt, Int32.le_iff_toInt_le, Int32.reduceToInt, ← Int32.toInt_inj, true_and, and_true, or_true, true_or, false_or, or_false, false_and, and_false, not_true_eq_false, not_false_eq_true] <;> omega))
            try simp only [Int32.reduceToInt] at h_3433
            refine v_aload_n hC dX12_readLoss_232 rfl ?_
            refine v_ldcwS hC sr_X12_297 dX12_readLoss_233 ?_
            refine v_iconst hC dX12_readLoss_236 (v := 0) (by decide) ?_
            refine v_sipush hC dX12_readLoss_237 (v := 255) (by decide) ?_
            refine v_vi hC (rest := [.int v_3431, .ref (q 14)]) m_1 hf_3427 rfl mi_X12_told ms_X12_told (p_X12_told hW_3424 k_0 (by decide)) mx_X12_told ml_X12_189 (by decide) rfl (cells1 := 0) (slots1 := 0) (by decide) (by decide) (Nat.le_of_ble_eq_true rfl) (Nat.le_of_ble_eq_true rfl) rfl (Nat.le_of_ble_eq_true rfl) dX12_readLoss_240 (fun r_3434 L_3435 f_3436 h_3437 => ?_)
            obtain ⟨rfl, hW_3441, hF_3442, x_3438, x_3439, x_3440, -, -⟩ := h_3437
            have fe_3443 : fld (f_3420 a_0) 8 = (v_3403 : Int32).toInt := by rw [hf_3427]; rfl
            have fe_3444 : fld (f_3420 a_0) 12 = (v_3410 : Int32).toInt := by rw [hf_3427]; rfl
            have hf_3445 := hF_3442.at hf_3421 rfl
            obtain ⟨v_3447, v_3448, v_3450, v_3452, v_3454, v_3456, v_3458, v_3459, v_3460, v_3461, v_3463, e_3446, b_3449, b_3451, b_3453, b_3455, b_3457, b_3462, b_3464⟩ := hW_3441.at m_1 t_2
            have fe_3465 : fld (f_3436 a_0) 8 = (v_3452 : Int32).toInt := by rw [e_3446]; rfl
            have fe_3466 : fld (f_3436 a_0) 9 = (v_3454 : Int32).toInt := by rw [e_3446]; rfl
            have fe_3467 : fld (f_3436 a_0) 10 = (v_3456 : Int32).toInt := by rw [e_3446]; rfl
            have fe_3468 : fld (f_3436 a_0) 12 = (v_3459 : Int32).toInt := by rw [e_3446]; rfl
            rw [fe_3468, fe_3444] at x_3438
            rw [fe_3468, fe_3443, fe_3466, fe_3465] at x_3439
            rw [fe_3468, fe_3467, fe_3466, fe_3465] at x_3440
            clear fe_3443 fe_3444 fe_3465 fe_3466 fe_3467 fe_3468
            try simp only [Int32.reduceToInt, Int64.reduceToInt] at x_3438
            try simp only [Int32.reduceToInt, Int64.reduceToInt] at x_3439
            try simp only [Int32.reduceToInt, Int64.reduceToInt] at x_3440
            refine v_iast hC m_22 hf_3445 (vp_in_iff.mpr (by first | omega | (simp only [Int32.lt_iff_toInt_lt, Int32.le_iff_toInt_le, Int32.reduceToInt, ← Int32.toInt_inj, true_and, and_true, or_true, true_or, false_or, or_false, false_and, and_false, not_true_eq_false, not_false_eq_true] <;> omega))) dX12_readLoss_243 (fun f_3469 hf_3470 hk_3471 => ?_)
            have hW_3473 := hW_3441.up hf_3470 hk_3471 t_23 ⟨_, rfl, (ok_3425.up (by first | omega | (simp only [Int32.lt_iff_toInt_lt, Int32.le_iff_toInt_le, Int32.reduceToInt, ← Int32.toInt_inj, true_and, and_true, or_true, true_or, false_or, or_false, false_and, and_false, not_true_eq_false, not_false_eq_true] <;> omega)) (fun q1 q2 => (by first | omega | (simp only [Int32.lt_iff_toInt_lt, Int32.le_iff_toInt_le, Int32.reduceToInt, ← Int32.toInt_inj] at *; omega))) (fun k9 q1 q2 q3 => (by first | omega | (simp only [Int32.lt_iff_toInt_lt, Int32.le_iff_toInt_le, Int32.reduceToInt, ← Int32.toInt_inj] at *; omega))))⟩
            obtain ⟨g_3472, hf_3470, ok_3474, eg_3475⟩ : ∃ g9, f_3469 (q 14) = aI E 2076 g9 ∧ FOK g9 ∧ g9 = upd g_3423 (v_3431 : Int32).toNatClampNeg r_3434 := ⟨_, hf_3470, (ok_3425.up (by first | omega | (simp only [Int32.lt_iff_toInt_lt, Int32.le_iff_toInt_le, Int32.reduceToInt, ← Int32.toInt_inj, true_and, and_true, or_true, true_or, false_or, or_false, false_and, and_false, not_true_eq_false, not_false_eq_true] <;> omega)) (fun q1 q2 => (by first | omega | (simp only [Int32.lt_iff_toInt_lt, Int32.le_iff_toInt_le, Int32.reduceToInt, ← Int32.toInt_inj] at *; omega))) (fun k9 q1 q2 q3 => (by first | omega | (simp only [Int32.lt_iff_toInt_lt, Int32.le_iff_toInt_le, Int32.reduceToInt, ← Int32.toInt_inj] at *; omega)))), rfl⟩
            have hf_3476 := (hk_3471 a_0 (ne_kd e_3446 hf_3445 rfl)).trans e_3446
            have fr_3477 := FR.w hk_3471 hf_3445 (k := 2176) rfl
            have lk_3478 := l2_at (g0 := g_f) eg_3475 (by omega) (by omega)
            have ag_3479 := ag_3430.st eg_3475 (by omega) (by omega)
            try simp only [Int32.reduceToInt] at lk_3478
            refine v_goto hC dX12_readLoss_244 (tgt := 258) (by decide) ?_
            refine v_aload_n hC dX12_readLoss_258 rfl ?_
            refine v_vv hC (rest := []) m_1 hf_3476 rfl mi_X12_ends ms_X12_ends (p_X12_ends hW_3473 k_0) mx_X12_ends ml_X12_178 (by decide) rfl (cells1 := 0) (slots1 := 0) (by decide) (by decide) (Nat.le_of_ble_eq_true rfl) (Nat.le_of_ble_eq_true rfl) rfl (Nat.le_of_ble_eq_true rfl) dX12_readLoss_259 (fun L_3481 f_3482 h_3483 => ?_)
            obtain ⟨rfl, hW_3486, hF_3487, x_3484, x_3485, -, -⟩ := h_3483
            have fe_3488 : fld (f_3469 a_0) 8 = (v_3452 : Int32).toInt := by rw [hf_3476]; rfl
            have fe_3489 : fld (f_3469 a_0) 10 = (v_3456 : Int32).toInt := by rw [hf_3476]; rfl
            have fe_3490 : fld (f_3469 a_0) 12 = (v_3459 : Int32).toInt := by rw [hf_3476]; rfl
            have hf_3491 := hF_3487.at hf_3470 rfl
            obtain ⟨v_3493, v_3494, v_3496, v_3498, v_3500, v_3502, v_3504, v_3505, v_3506, v_3507, v_3509, e_3492, b_3495, b_3497, b_3499, b_3501, b_3503, b_3508, b_3510⟩ := hW_3486.at m_1 t_2
            have fe_3511 : fld (f_3482 a_0) 8 = (v_3498 : Int32).toInt := by rw [e_3492]; rfl
            have fe_3512 : fld (f_3482 a_0) 9 = (v_3500 : Int32).toInt := by rw [e_3492]; rfl
            have fe_3513 : fld (f_3482 a_0) 12 = (v_3505 : Int32).toInt := by rw [e_3492]; rfl
            rw [fe_3513, fe_3490] at x_3484
            rw [fe_3513, fe_3489, fe_3488, fe_3512, fe_3511] at x_3485
            clear fe_3488 fe_3489 fe_3490 fe_3511 fe_3512 fe_3513
            refine v_aload_n hC dX12_readLoss_262 rfl ?_
            refine v_get hC fl_X12_34 m_1 e_3492 rfl dX12_readLoss_263 ?_
            refine v_bipush hC dX12_readLoss_266 (v := 6) (by decide) ?_
            refine v_dup2 hC dX12_readLoss_268 rfl rfl ?_
            have l6_3514 : (g_3472 6).toInt = (g_f 6).toInt := congrArg Int32.toInt ag_3479.2.1
            refine v_iald hC m_22 hf_3491 (vp_in_iff.mpr (by decide)) (v := g_3472 6) rfl dX12_readLoss_269 ?_
            refine v_iconst hC dX12_readLoss_270 (v := 1) (by decide) ?_
            obtain ⟨v_3515, h_3516⟩ : ∃ v9 : Int32, (g_3472 6) + 1 = v9 := ⟨_, rfl⟩
            refine v_iadd hC dX12_readLoss_271 h_3516 ?_
            have h_3517 := add_v h_3516 (by first | omega | (simp only [Int32.lt_iff_toInt_lt, Int32.le_iff_toInt_le, Int32.reduceToInt, ← Int32.toInt_inj, true_and, and_true, or_true, true_or, false_or, or_false, false_and, and_false, not_true_eq_false, not_false_eq_true] <;> omega)) (by first | omega | (simp only [Int32.lt_iff_toInt_lt, Int32.le_iff_toInt_le, Int32.reduceToInt, ← Int32.toInt_inj, true_and, and_true, or_true, true_or, false_or, or_false, false_and, and_false, not_true_eq_false, not_false_eq_true] <;> omega))
            try simp only [Int32.reduceToInt] at h_3517
            refine v_iast hC m_22 hf_3491 (vp_in_iff.mpr (by decide)) dX12_readLoss_272 (fun f_3518 hf_3519 hk_3520 => ?_)
            have hW_3522 := hW_3486.up hf_3519 hk_3520 t_23 ⟨_, rfl, (ok_3474.up (i := 6) (by decide) (fun q1 q2 => absurd (And.intro q1 q2) (by decide)) (fun k9 q1 q2 q3 => by simp only [Int32.reduceToInt] at q3; omega))⟩
            obtain ⟨g_3521, hf_3519, ok_3523, eg_3524⟩ : ∃ g9, f_3518 (q 14) = aI E 2076 g9 ∧ FOK g9 ∧ g9 = upd g_3472 (6 : Int32).toNatClampNeg v_3515 := ⟨_, hf_3519, (ok_3474.up (i := 6) (by decide) (fun q1 q2 => absurd (And.intro q1 q2) (by decide)) (fun k9 q1 q2 q3 => by simp only [Int32.reduceToInt] at q3; omega)), rfl⟩
            have hf_3525 := (hk_3520 a_0 (ne_kd e_3492 hf_3491 rfl)).trans e_3492
            have fr_3526 := FR.w hk_3520 hf_3491 (k := 2176) rfl
            have ln6_3527 := FOK.n6 ag_3479.1 eg_3524
            have ln6_3527_t : (g_3521 6).toInt = v_3515.toInt := congrArg Int32.toInt ln6_3527.2
            have fe_3528 : fld (f_3518 a_0) 12 = (v_3505 : Int32).toInt := by rw [hf_3525]; rfl
            have fe_3529 : fld (f_3518 a_0) 8 = (v_3498 : Int32).toInt := by rw [hf_3525]; rfl
            have fe_3530 : fld (f_3518 a_0) 12 = (v_3505 : Int32).toInt := by rw [hf_3525]; rfl
            have fe_3531 : fld (f_3518 a_0) 20 = (v_3509 : Int32).toInt := by rw [hf_3525]; rfl
            exact hR _ _ _ _ _ _ dX12_readLoss_273 (Nat.le_of_ble_eq_true rfl) (Nat.le_of_ble_eq_true rfl) ⟨rfl, hW_3522, ((((((((((hF_3168.tr hF_3209).tr hF_3244).tr fr_3378).tr hF_3392).tr fr_3428).tr hF_3442).tr fr_3477).tr hF_3487).tr fr_3526).mono rfl), ⟨_, hf_3519, ln6_3527.1, (by omega), (by rw [fe_3528]; by_cases q9 : v_3505.toInt = 0; exact .inr (LO.fin hLO ag_3479 eg_3524 (by omega) (by omega) (fun q8 => by omega)); exact .inl q9)⟩, (by simp only [fe_3529, fe_3530, mz_43, mz_44, true_and, and_true, or_true, true_or, false_or, or_false, false_and, and_false, not_true_eq_false, not_false_eq_true] <;> first | omega | (simp only [Int32.lt_iff_toInt_lt, Int32.le_iff_toInt_le, Int32.reduceToInt, ← Int32.toInt_inj, true_and, and_true, or_true, true_or, false_or, or_false, false_and, and_false, not_true_eq_false, not_false_eq_true] <;> omega)), (by simp only [fe_3531, mz_45, true_and, and_true, or_true, true_or, false_or, or_false, false_and, and_false, not_true_eq_false, not_false_eq_true] <;> first | omega | (simp only [Int32.lt_iff_toInt_lt, Int32.le_iff_toInt_le, Int32.reduceToInt, ← Int32.toInt_inj, true_and, and_true, or_true, true_or, false_or, or_false, false_and, and_false, not_true_eq_false, not_false_eq_true] <;> omega))⟩
        · simp only [Int32.lt_iff_toInt_lt, Int32.le_iff_toInt_le, Int32.reduceToInt, ← Int32.toInt_inj] at h_3236
          refine v_aload_n hC dX12_readLoss_98 rfl ?_
          refine v_ldcwS hC sr_X12_293 dX12_readLoss_99 ?_
          refine v_vi hC (rest := []) m_1 e_3213 rfl mi_X12_is ms_X12_is (p_X12_is hW_3208 k_0 (by decide)) mx_X12_is ml_X12_152 (by decide) rfl (cells1 := 0) (slots1 := 0) (by decide) (by decide) (Nat.le_of_ble_eq_true rfl) (Nat.le_of_ble_eq_true rfl) rfl (Nat.le_of_ble_eq_true rfl) dX12_readLoss_102 (fun r_3532 L_3533 f_3534 h_3535 => ?_)
          obtain ⟨rfl, rfl, rfl⟩ := h_3535
          refine v_istore_n hC dX12_readLoss_105 (by decide) (lv' := [(3, .int (iw (f_3204 a_0) (f_3204 (q 4)) 74)), (2, .int v_74), (1, .int v_49), (0, .ref a_0)]) rfl ?_
          refine v_iload_n hC dX12_readLoss_106 rfl ?_
          refine v_if_ne hC dX12_readLoss_107 (tgt := 124) (by decide) (fun h_3538 => ?_) (fun h_3538 => ?_)
          · simp only [Int32.lt_iff_toInt_lt, Int32.le_iff_toInt_le, Int32.reduceToInt, ← Int32.toInt_inj] at h_3538
            refine v_aload_n hC dX12_readLoss_124 rfl ?_
            refine v_vi hC (rest := []) m_1 e_3213 rfl mi_X12_good ms_X12_good (p_X12_good hW_3208 k_0) mx_X12_good ml_X12_139 (by decide) rfl (cells1 := 0) (slots1 := 0) (by decide) (by decide) (Nat.le_of_ble_eq_true rfl) (Nat.le_of_ble_eq_true rfl) rfl (Nat.le_of_ble_eq_true rfl) dX12_readLoss_125 (fun r_3539 L_3540 f_3541 h_3542 => ?_)
            obtain ⟨rfl, rfl, b_3543, x_3544⟩ := h_3542
            have fe_3547 : fld (f_3204 a_0) 12 = (v_3226 : Int32).toInt := by rw [e_3213]; rfl
            rw [fe_3547] at x_3544
            clear fe_3547
            try simp only [Int32.reduceToInt, Int64.reduceToInt] at x_3544
            refine v_if_eq hC dX12_readLoss_128 (tgt := 135) (by decide) (fun h_3548 => ?_) (fun h_3548 => ?_)
            · simp only [Int32.lt_iff_toInt_lt, Int32.le_iff_toInt_le, Int32.reduceToInt, ← Int32.toInt_inj] at h_3548
              refine v_aload_n hC dX12_readLoss_135 rfl ?_
              refine v_get hC fl_X12_34 m_1 e_3213 rfl dX12_readLoss_136 ?_
              refine v_iload_n hC dX12_readLoss_139 rfl ?_
              refine v_iload_n hC dX12_readLoss_140 rfl ?_
              refine v_if_eq_f hC dX12_readLoss_141 (tgt := 148) (by decide) (by first | omega | (simp only [Int32.lt_iff_toInt_lt, Int32.le_iff_toInt_le, Int32.reduceToInt, ← Int32.toInt_inj, true_and, and_true, or_true, true_or, false_or, or_false, false_and, and_false, not_true_eq_false, not_false_eq_true] <;> omega)) ?_
              refine v_iconst hC dX12_readLoss_144 (v := 1) (by decide) ?_
              refine v_goto hC dX12_readLoss_145 (tgt := 149) (by decide) ?_
              refine v_iast hC m_22 hf_3212 (vp_in_iff.mpr (by first | omega | (simp only [Int32.lt_iff_toInt_lt, Int32.le_iff_toInt_le, Int32.reduceToInt, ← Int32.toInt_inj, true_and, and_true, or_true, true_or, false_or, or_false, false_and, and_false, not_true_eq_false, not_false_eq_true] <;> omega))) dX12_readLoss_149 (fun f_3549 hf_3550 hk_3551 => ?_)
              have hW_3553 := hW_3208.up hf_3550 hk_3551 t_23 ⟨_, rfl, (o_f.up (by first | omega | (simp only [Int32.lt_iff_toInt_lt, Int32.le_iff_toInt_le, Int32.reduceToInt, ← Int32.toInt_inj, true_and, and_true, or_true, true_or, false_or, or_false, false_and, and_false, not_true_eq_false, not_false_eq_true] <;> omega)) (fun q1 q2 => (by first | omega | (simp only [Int32.lt_iff_toInt_lt, Int32.le_iff_toInt_le, Int32.reduceToInt, ← Int32.toInt_inj] at *; omega))) (fun k9 q1 q2 q3 => (by first | omega | (simp only [Int32.lt_iff_toInt_lt, Int32.le_iff_toInt_le, Int32.reduceToInt, ← Int32.toInt_inj] at *; omega))))⟩
              obtain ⟨g_3552, hf_3550, ok_3554, eg_3555⟩ : ∃ g9, f_3549 (q 14) = aI E 2076 g9 ∧ FOK g9 ∧ g9 = upd g_f (v_49 : Int32).toNatClampNeg 1 := ⟨_, hf_3550, (o_f.up (by first | omega | (simp only [Int32.lt_iff_toInt_lt, Int32.le_iff_toInt_le, Int32.reduceToInt, ← Int32.toInt_inj, true_and, and_true, or_true, true_or, false_or, or_false, false_and, and_false, not_true_eq_false, not_false_eq_true] <;> omega)) (fun q1 q2 => (by first | omega | (simp only [Int32.lt_iff_toInt_lt, Int32.le_iff_toInt_le, Int32.reduceToInt, ← Int32.toInt_inj] at *; omega))) (fun k9 q1 q2 q3 => (by first | omega | (simp only [Int32.lt_iff_toInt_lt, Int32.le_iff_toInt_le, Int32.reduceToInt, ← Int32.toInt_inj] at *; omega)))), rfl⟩
              have hf_3556 := (hk_3551 a_0 (ne_kd e_3213 hf_3212 rfl)).trans e_3213
              have fr_3557 := FR.w hk_3551 hf_3212 (k := 2176) rfl
              have lk_3558 := lk_at (g0 := g_f) eg_3555 (by omega) (by omega)
              have ag_3559 := (AG.rf o_f).st eg_3555 (by omega) (by omega)
              try simp only [Int32.reduceToInt] at lk_3558
              refine v_aload_n hC dX12_readLoss_150 rfl ?_
              refine v_get hC fl_X12_34 m_1 hf_3556 rfl dX12_readLoss_151 ?_
              refine v_iload_n hC dX12_readLoss_154 rfl ?_
              refine v_iconst hC dX12_readLoss_155 (v := 1) (by decide) ?_
              obtain ⟨v_3560, h_3561⟩ : ∃ v9 : Int32, v_49 + 1 = v9 := ⟨_, rfl⟩
              refine v_iadd hC dX12_readLoss_156 h_3561 ?_
              have h_3562 := add_v h_3561 (by first | omega | (simp only [Int32.lt_iff_toInt_lt, Int32.le_iff_toInt_le, Int32.reduceToInt, ← Int32.toInt_inj, true_and, and_true, or_true, true_or, false_or, or_false, false_and, and_false, not_true_eq_false, not_false_eq_true] <;> omega)) (by first | omega | (simp only [Int32.lt_iff_toInt_lt, Int32.le_iff_toInt_le, Int32.reduceToInt, ← Int32.toInt_inj, true_and, and_true, or_true, true_or, false_or, or_false, false_and, and_false, not_true_eq_false, not_false_eq_true] <;> omega))
              try simp only [Int32.reduceToInt] at h_3562
              refine v_aload_n hC dX12_readLoss_157 rfl ?_
              refine v_iconst hC dX12_readLoss_158 (v := 0) (by decide) ?_
              refine v_bipush hC dX12_readLoss_159 (v := 15) (by decide) ?_
              refine v_vi hC (rest := [.int v_3560, .ref (q 14)]) m_1 hf_3556 rfl mi_X12_number ms_X12_number (p_X12_number hW_3553 k_0) mx_X12_number ml_X12_170 (by decide) rfl (cells1 := 0) (slots1 := 0) (by decide) (by decide) (Nat.le_of_ble_eq_true rfl) (Nat.le_of_ble_eq_true rfl) rfl (Nat.le_of_ble_eq_true rfl) dX12_readLoss_161 (fun r_3563 L_3564 f_3565 h_3566 => ?_)
              obtain ⟨rfl, hW_3570, hF_3571, x_3567, x_3568, x_3569, -, -⟩ := h_3566
              have fe_3572 : fld (f_3549 a_0) 8 = (v_3219 : Int32).toInt := by rw [hf_3556]; rfl
              have fe_3573 : fld (f_3549 a_0) 10 = (v_3223 : Int32).toInt := by rw [hf_3556]; rfl
              have fe_3574 : fld (f_3549 a_0) 12 = (v_3226 : Int32).toInt := by rw [hf_3556]; rfl
              have hf_3575 := hF_3571.at hf_3550 rfl
              obtain ⟨v_3577, v_3578, v_3580, v_3582, v_3584, v_3586, v_3588, v_3589, v_3590, v_3591, v_3593, e_3576, b_3579, b_3581, b_3583, b_3585, b_3587, b_3592, b_3594⟩ := hW_3570.at m_1 t_2
              have fe_3595 : fld (f_3565 a_0) 8 = (v_3582 : Int32).toInt := by rw [e_3576]; rfl
              have fe_3596 : fld (f_3565 a_0) 9 = (v_3584 : Int32).toInt := by rw [e_3576]; rfl
              have fe_3597 : fld (f_3565 a_0) 10 = (v_3586 : Int32).toInt := by rw [e_3576]; rfl
              have fe_3598 : fld (f_3565 a_0) 12 = (v_3589 : Int32).toInt := by rw [e_3576]; rfl
              rw [fe_3598, fe_3574] at x_3567
              rw [fe_3598, fe_3573, fe_3572, fe_3596, fe_3595] at x_3568
              rw [fe_3598, fe_3597, fe_3596, fe_3595] at x_3569
              clear fe_3572 fe_3573 fe_3574 fe_3595 fe_3596 fe_3597 fe_3598
              try simp only [Int32.reduceToInt, Int64.reduceToInt] at x_3567
              try simp only [Int32.reduceToInt, Int64.reduceToInt] at x_3568
              try simp only [Int32.reduceToInt, Int64.reduceToInt] at x_3569
              refine v_iast hC m_22 hf_3575 (vp_in_iff.mpr (by first | omega | (simp only [Int32.lt_iff_toInt_lt, Int32.le_iff_toInt_le, Int32.reduceToInt, ← Int32.toInt_inj, true_and, and_true, or_true, true_or, false_or, or_false, false_and, and_false, not_true_eq_false, not_false_eq_true] <;> omega))) dX12_readLoss_164 (fun f_3599 hf_3600 hk_3601 => ?_)
              have hW_3603 := hW_3570.up hf_3600 hk_3601 t_23 ⟨_, rfl, (ok_3554.up (by first | omega | (simp only [Int32.lt_iff_toInt_lt, Int32.le_iff_toInt_le, Int32.reduceToInt, ← Int32.toInt_inj, true_and, and_true, or_true, true_or, false_or, or_false, false_and, and_false, not_true_eq_false, not_false_eq_true] <;> omega)) (fun q1 q2 => (by first | omega | (simp only [Int32.lt_iff_toInt_lt, Int32.le_iff_toInt_le, Int32.reduceToInt, ← Int32.toInt_inj] at *; omega))) (fun k9 q1 q2 q3 => (by first | omega | (simp only [Int32.lt_iff_toInt_lt, Int32.le_iff_toInt_le, Int32.reduceToInt, ← Int32.toInt_inj] at *; omega))))⟩
              obtain ⟨g_3602, hf_3600, ok_3604, eg_3605⟩ : ∃ g9, f_3599 (q 14) = aI E 2076 g9 ∧ FOK g9 ∧ g9 = upd g_3552 (v_3560 : Int32).toNatClampNeg r_3563 := ⟨_, hf_3600, (ok_3554.up (by first | omega | (simp only [Int32.lt_iff_toInt_lt, Int32.le_iff_toInt_le, Int32.reduceToInt, ← Int32.toInt_inj, true_and, and_true, or_true, true_or, false_or, or_false, false_and, and_false, not_true_eq_false, not_false_eq_true] <;> omega)) (fun q1 q2 => (by first | omega | (simp only [Int32.lt_iff_toInt_lt, Int32.le_iff_toInt_le, Int32.reduceToInt, ← Int32.toInt_inj] at *; omega))) (fun k9 q1 q2 q3 => (by first | omega | (simp only [Int32.lt_iff_toInt_lt, Int32.le_iff_toInt_le, Int32.reduceToInt, ← Int32.toInt_inj] at *; omega)))), rfl⟩
              have hf_3606 := (hk_3601 a_0 (ne_kd e_3576 hf_3575 rfl)).trans e_3576
              have fr_3607 := FR.w hk_3601 hf_3575 (k := 2176) rfl
              have lk_3608 := lf_at (g0 := g_f) eg_3605 (by omega) (by omega)
              have ag_3609 := ag_3559.st eg_3605 (by omega) (by omega)
              try simp only [Int32.reduceToInt] at lk_3608
              refine v_aload_n hC dX12_readLoss_165 rfl ?_
              refine v_get hC fl_X12_34 m_1 hf_3606 rfl dX12_readLoss_166 ?_
              refine v_iload_n hC dX12_readLoss_169 rfl ?_
              refine v_iconst hC dX12_readLoss_170 (v := 2) (by decide) ?_
              obtain ⟨v_3610, h_3611⟩ : ∃ v9 : Int32, v_49 + 2 = v9 := ⟨_, rfl⟩
              refine v_iadd hC dX12_readLoss_171 h_3611 ?_
              have h_3612 := add_v h_3611 (by first | omega | (simp only [Int32.lt_iff_toInt_lt, Int32.le_iff_toInt_le, Int32.reduceToInt, ← Int32.toInt_inj, true_and, and_true, or_true, true_or, false_or, or_false, false_and, and_false, not_true_eq_false, not_false_eq_true] <;> omega)) (by first | omega | (simp only [Int32.lt_iff_toInt_lt, Int32.le_iff_toInt_le, Int32.reduceToInt, ← Int32.toInt_inj, true_and, and_true, or_true, true_or, false_or, or_false, false_and, and_false, not_true_eq_false, not_false_eq_true] <;> omega))
              try simp only [Int32.reduceToInt] at h_3612
              refine v_aload_n hC dX12_readLoss_172 rfl ?_
              refine v_ldcwS hC sr_X12_295 dX12_readLoss_173 ?_
              refine v_aload_n hC dX12_readLoss_176 rfl ?_
              refine v_get hC fl_X12_34 m_1 hf_3606 rfl dX12_readLoss_177 ?_
              refine v_iload_n hC dX12_readLoss_180 rfl ?_
              refine v_iconst hC dX12_readLoss_181 (v := 1) (by decide) ?_
              obtain ⟨v_3613, h_3614⟩ : ∃ v9 : Int32, v_49 + 1 = v9 := ⟨_, rfl⟩
              refine v_iadd hC dX12_readLoss_182 h_3614 ?_
              have h_3615 := add_v h_3614 (by first | omega | (simp only [Int32.lt_iff_toInt_lt, Int32.le_iff_toInt_le, Int32.reduceToInt, ← Int32.toInt_inj, true_and, and_true, or_true, true_or, false_or, or_false, false_and, and_false, not_true_eq_false, not_false_eq_true] <;> omega)) (by first | omega | (simp only [Int32.lt_iff_toInt_lt, Int32.le_iff_toInt_le, Int32.reduceToInt, ← Int32.toInt_inj, true_and, and_true, or_true, true_or, false_or, or_false, false_and, and_false, not_true_eq_false, not_false_eq_true] <;> omega))
              try simp only [Int32.reduceToInt] at h_3615
              obtain ⟨v_3616, h_3617⟩ : ∃ v9 : Int32, g_3602 (v_3613 : Int32).toNatClampNeg = v9 := ⟨_, rfl⟩
              refine v_iald hC m_22 hf_3600 (vp_in_iff.mpr (by first | omega | (simp only [Int32.lt_iff_toInt_lt, Int32.le_iff_toInt_le, Int32.reduceToInt, ← Int32.toInt_inj, true_and, and_true, or_true, true_or, false_or, or_false, false_and, and_false, not_true_eq_false, not_false_eq_true] <;> omega))) h_3617 dX12_readLoss_183 ?_
              refine v_bipush hC dX12_readLoss_184 (v := 15) (by decide) ?_
              refine v_vi hC (rest := [.int v_3610, .ref (q 14)]) m_1 hf_3606 rfl mi_X12_told ms_X12_told (p_X12_told hW_3603 k_0 (by decide)) mx_X12_told ml_X12_189 (by decide) rfl (cells1 := 0) (slots1 := 0) (by decide) (by decide) (Nat.le_of_ble_eq_true rfl) (Nat.le_of_ble_eq_true rfl) rfl (Nat.le_of_ble_eq_true rfl) dX12_readLoss_186 (fun r_3618 L_3619 f_3620 h_3621 => ?_)
              obtain ⟨rfl, hW_3625, hF_3626, x_3622, x_3623, x_3624, -, -⟩ := h_3621
              have fe_3627 : fld (f_3599 a_0) 8 = (v_3582 : Int32).toInt := by rw [hf_3606]; rfl
              have fe_3628 : fld (f_3599 a_0) 12 = (v_3589 : Int32).toInt := by rw [hf_3606]; rfl
              have hf_3629 := hF_3626.at hf_3600 rfl
              obtain ⟨v_3631, v_3632, v_3634, v_3636, v_3638, v_3640, v_3642, v_3643, v_3644, v_3645, v_3647, e_3630, b_3633, b_3635, b_3637, b_3639, b_3641, b_3646, b_3648⟩ := hW_3625.at m_1 t_2
              have fe_3649 : fld (f_3620 a_0) 8 = (v_3636 : Int32).toInt := by rw [e_3630]; rfl
              have fe_3650 : fld (f_3620 a_0) 9 = (v_3638 : Int32).toInt := by rw [e_3630]; rfl
              have fe_3651 : fld (f_3620 a_0) 10 = (v_3640 : Int32).toInt := by rw [e_3630]; rfl
              have fe_3652 : fld (f_3620 a_0) 12 = (v_3643 : Int32).toInt := by rw [e_3630]; rfl
              rw [fe_3652, fe_3628] at x_3622
              rw [fe_3652, fe_3627, fe_3650, fe_3649] at x_3623
              rw [fe_3652, fe_3651, fe_3650, fe_3649] at x_3624
              clear fe_3627 fe_3628 fe_3649 fe_3650 fe_3651 fe_3652
              try simp only [Int32.reduceToInt, Int64.reduceToInt] at x_3622
              try simp only [Int32.reduceToInt, Int64.reduceToInt] at x_3623
              try simp only [Int32.reduceToInt, Int64.reduceToInt] at x_3624
              refine v_iast hC m_22 hf_3629 (vp_in_iff.mpr (by first | omega | (simp only [Int32.lt_iff_toInt_lt, Int32.le_iff_toInt_le, Int32.reduceToInt, ← Int32.toInt_inj, true_and, and_true, or_true, true_or, false_or, or_false, false_and, and_false, not_true_eq_false, not_false_eq_true] <;> omega))) dX12_readLoss_189 (fun f_3653 hf_3654 hk_3655 => ?_)
              have hW_3657 := hW_3625.up hf_3654 hk_3655 t_23 ⟨_, rfl, (ok_3604.up (by first | omega | (simp only [Int32.lt_iff_toInt_lt, Int32.le_iff_toInt_le, Int32.reduceToInt, ← Int32.toInt_inj, true_and, and_true, or_true, true_or, false_or, or_false, false_and, and_false, not_true_eq_false, not_false_eq_true] <;> omega)) (fun q1 q2 => (by first | omega | (simp only [Int32.lt_iff_toInt_lt, Int32.le_iff_toInt_le, Int32.reduceToInt, ← Int32.toInt_inj] at *; omega))) (fun k9 q1 q2 q3 => (by first | omega | (simp only [Int32.lt_iff_toInt_lt, Int32.le_iff_toInt_le, Int32.reduceToInt, ← Int32.toInt_inj] at *; omega))))⟩
              obtain ⟨g_3656, hf_3654, ok_3658, eg_3659⟩ : ∃ g9, f_3653 (q 14) = aI E 2076 g9 ∧ FOK g9 ∧ g9 = upd g_3602 (v_3610 : Int32).toNatClampNeg r_3618 := ⟨_, hf_3654, (ok_3604.up (by first | omega | (simp only [Int32.lt_iff_toInt_lt, Int32.le_iff_toInt_le, Int32.reduceToInt, ← Int32.toInt_inj, true_and, and_true, or_true, true_or, false_or, or_false, false_and, and_false, not_true_eq_false, not_false_eq_true] <;> omega)) (fun q1 q2 => (by first | omega | (simp only [Int32.lt_iff_toInt_lt, Int32.le_iff_toInt_le, Int32.reduceToInt, ← Int32.toInt_inj] at *; omega))) (fun k9 q1 q2 q3 => (by first | omega | (simp only [Int32.lt_iff_toInt_lt, Int32.le_iff_toInt_le, Int32.reduceToInt, ← Int32.toInt_inj] at *; omega)))), rfl⟩
              have hf_3660 := (hk_3655 a_0 (ne_kd e_3630 hf_3629 rfl)).trans e_3630
              have fr_3661 := FR.w hk_3655 hf_3629 (k := 2176) rfl
              have lk_3662 := l2_at (g0 := g_f) eg_3659 (by omega) (by omega)
              have ag_3663 := ag_3609.st eg_3659 (by omega) (by omega)
              try simp only [Int32.reduceToInt] at lk_3662
              refine v_goto hC dX12_readLoss_190 (tgt := 258) (by decide) ?_
              refine v_aload_n hC dX12_readLoss_258 rfl ?_
              refine v_vv hC (rest := []) m_1 hf_3660 rfl mi_X12_ends ms_X12_ends (p_X12_ends hW_3657 k_0) mx_X12_ends ml_X12_178 (by decide) rfl (cells1 := 0) (slots1 := 0) (by decide) (by decide) (Nat.le_of_ble_eq_true rfl) (Nat.le_of_ble_eq_true rfl) rfl (Nat.le_of_ble_eq_true rfl) dX12_readLoss_259 (fun L_3665 f_3666 h_3667 => ?_)
              obtain ⟨rfl, hW_3670, hF_3671, x_3668, x_3669, -, -⟩ := h_3667
              have fe_3672 : fld (f_3653 a_0) 8 = (v_3636 : Int32).toInt := by rw [hf_3660]; rfl
              have fe_3673 : fld (f_3653 a_0) 10 = (v_3640 : Int32).toInt := by rw [hf_3660]; rfl
              have fe_3674 : fld (f_3653 a_0) 12 = (v_3643 : Int32).toInt := by rw [hf_3660]; rfl
              have hf_3675 := hF_3671.at hf_3654 rfl
              obtain ⟨v_3677, v_3678, v_3680, v_3682, v_3684, v_3686, v_3688, v_3689, v_3690, v_3691, v_3693, e_3676, b_3679, b_3681, b_3683, b_3685, b_3687, b_3692, b_3694⟩ := hW_3670.at m_1 t_2
              have fe_3695 : fld (f_3666 a_0) 8 = (v_3682 : Int32).toInt := by rw [e_3676]; rfl
              have fe_3696 : fld (f_3666 a_0) 9 = (v_3684 : Int32).toInt := by rw [e_3676]; rfl
              have fe_3697 : fld (f_3666 a_0) 12 = (v_3689 : Int32).toInt := by rw [e_3676]; rfl
              rw [fe_3697, fe_3674] at x_3668
              rw [fe_3697, fe_3673, fe_3672, fe_3696, fe_3695] at x_3669
              clear fe_3672 fe_3673 fe_3674 fe_3695 fe_3696 fe_3697
              refine v_aload_n hC dX12_readLoss_262 rfl ?_
              refine v_get hC fl_X12_34 m_1 e_3676 rfl dX12_readLoss_263 ?_
              refine v_bipush hC dX12_readLoss_266 (v := 6) (by decide) ?_
              refine v_dup2 hC dX12_readLoss_268 rfl rfl ?_
              have l6_3698 : (g_3656 6).toInt = (g_f 6).toInt := congrArg Int32.toInt ag_3663.2.1
              refine v_iald hC m_22 hf_3675 (vp_in_iff.mpr (by decide)) (v := g_3656 6) rfl dX12_readLoss_269 ?_
              refine v_iconst hC dX12_readLoss_270 (v := 1) (by decide) ?_
              obtain ⟨v_3699, h_3700⟩ : ∃ v9 : Int32, (g_3656 6) + 1 = v9 := ⟨_, rfl⟩
              refine v_iadd hC dX12_readLoss_271 h_3700 ?_
              have h_3701 := add_v h_3700 (by first | omega | (simp only [Int32.lt_iff_toInt_lt, Int32.le_iff_toInt_le, Int32.reduceToInt, ← Int32.toInt_inj, true_and, and_true, or_true, true_or, false_or, or_false, false_and, and_false, not_true_eq_false, not_false_eq_true] <;> omega)) (by first | omega | (simp only [Int32.lt_iff_toInt_lt, Int32.le_iff_toInt_le, Int32.reduceToInt, ← Int32.toInt_inj, true_and, and_true, or_true, true_or, false_or, or_false, false_and, and_false, not_true_eq_false, not_false_eq_true] <;> omega))
              try simp only [Int32.reduceToInt] at h_3701
              refine v_iast hC m_22 hf_3675 (vp_in_iff.mpr (by decide)) dX12_readLoss_272 (fun f_3702 hf_3703 hk_3704 => ?_)
              have hW_3706 := hW_3670.up hf_3703 hk_3704 t_23 ⟨_, rfl, (ok_3658.up (i := 6) (by decide) (fun q1 q2 => absurd (And.intro q1 q2) (by decide)) (fun k9 q1 q2 q3 => by simp only [Int32.reduceToInt] at q3; omega))⟩
              obtain ⟨g_3705, hf_3703, ok_3707, eg_3708⟩ : ∃ g9, f_3702 (q 14) = aI E 2076 g9 ∧ FOK g9 ∧ g9 = upd g_3656 (6 : Int32).toNatClampNeg v_3699 := ⟨_, hf_3703, (ok_3658.up (i := 6) (by decide) (fun q1 q2 => absurd (And.intro q1 q2) (by decide)) (fun k9 q1 q2 q3 => by simp only [Int32.reduceToInt] at q3; omega)), rfl⟩
              have hf_3709 := (hk_3704 a_0 (ne_kd e_3676 hf_3675 rfl)).trans e_3676
              have fr_3710 := FR.w hk_3704 hf_3675 (k := 2176) rfl
              have ln6_3711 := FOK.n6 ag_3663.1 eg_3708
              have ln6_3711_t : (g_3705 6).toInt = v_3699.toInt := congrArg Int32.toInt ln6_3711.2
              have fe_3712 : fld (f_3702 a_0) 12 = (v_3689 : Int32).toInt := by rw [hf_3709]; rfl
              have fe_3713 : fld (f_3702 a_0) 8 = (v_3682 : Int32).toInt := by rw [hf_3709]; rfl
              have fe_3714 : fld (f_3702 a_0) 12 = (v_3689 : Int32).toInt := by rw [hf_3709]; rfl
              have fe_3715 : fld (f_3702 a_0) 20 = (v_3693 : Int32).toInt := by rw [hf_3709]; rfl
              exact hR _ _ _ _ _ _ dX12_readLoss_273 (Nat.le_of_ble_eq_true rfl) (Nat.le_of_ble_eq_true rfl) ⟨rfl, hW_3706, (((((((((hF_3168.tr hF_3209).tr fr_3557).tr hF_3571).tr fr_3607).tr hF_3626).tr fr_3661).tr hF_3671).tr fr_3710).mono rfl), ⟨_, hf_3703, ln6_3711.1, (by omega), (by rw [fe_3712]; by_cases q9 : v_3689.toInt = 0; exact .inr (LO.fin hLO ag_3663 eg_3708 (by omega) (by omega) (fun q8 => by omega)); exact .inl q9)⟩, (by simp only [fe_3713, fe_3714, mz_43, mz_44, true_and, and_true, or_true, true_or, false_or, or_false, false_and, and_false, not_true_eq_false, not_false_eq_true] <;> first | omega | (simp only [Int32.lt_iff_toInt_lt, Int32.le_iff_toInt_le, Int32.reduceToInt, ← Int32.toInt_inj, true_and, and_true, or_true, true_or, false_or, or_false, false_and, and_false, not_true_eq_false, not_false_eq_true] <;> omega)), (by simp only [fe_3715, mz_45, true_and, and_true, or_true, true_or, false_or, or_false, false_and, and_false, not_true_eq_false, not_false_eq_true] <;> first | omega | (simp only [Int32.lt_iff_toInt_lt, Int32.le_iff_toInt_le, Int32.reduceToInt, ← Int32.toInt_inj, true_and, and_true, or_true, true_or, false_or, or_false, false_and, and_false, not_true_eq_false, not_false_eq_true] <;> omega))⟩
            · simp only [Int32.lt_iff_toInt_lt, Int32.le_iff_toInt_le, Int32.reduceToInt, ← Int32.toInt_inj] at h_3548
              refine v_aload_n hC dX12_readLoss_131 rfl ?_
              refine v_vv hC (rest := []) m_1 e_3213 rfl mi_X12_advance ms_X12_advance (p_X12_advance hW_3208 k_0) mx_X12_advance ml_X12_156 (by decide) rfl (cells1 := 0) (slots1 := 0) (by decide) (by decide) (Nat.le_of_ble_eq_true rfl) (Nat.le_of_ble_eq_true rfl) rfl (Nat.le_of_ble_eq_true rfl) dX12_readLoss_132 (fun L_3717 f_3718 h_3719 => ?_)
              obtain ⟨rfl, hW_3723, hF_3724, x_3720, x_3721, x_3722, -⟩ := h_3719
              have fe_3725 : fld (f_3204 a_0) 8 = (v_3219 : Int32).toInt := by rw [e_3213]; rfl
              have fe_3726 : fld (f_3204 a_0) 12 = (v_3226 : Int32).toInt := by rw [e_3213]; rfl
              have hf_3727 := hF_3724.at hf_3212 rfl
              obtain ⟨v_3729, v_3730, v_3732, v_3734, v_3736, v_3738, v_3740, v_3741, v_3742, v_3743, v_3745, e_3728, b_3731, b_3733, b_3735, b_3737, b_3739, b_3744, b_3746⟩ := hW_3723.at m_1 t_2
              have fe_3747 : fld (f_3718 a_0) 8 = (v_3734 : Int32).toInt := by rw [e_3728]; rfl
              have fe_3748 : fld (f_3718 a_0) 9 = (v_3736 : Int32).toInt := by rw [e_3728]; rfl
              have fe_3749 : fld (f_3718 a_0) 10 = (v_3738 : Int32).toInt := by rw [e_3728]; rfl
              have fe_3750 : fld (f_3718 a_0) 12 = (v_3741 : Int32).toInt := by rw [e_3728]; rfl
              rw [fe_3725, fe_3748, fe_3747] at x_3720
              rw [fe_3749, fe_3748, fe_3747] at x_3721
              rw [fe_3750, fe_3726] at x_3722
              clear fe_3725 fe_3726 fe_3747 fe_3748 fe_3749 fe_3750
              refine v_aload_n hC dX12_readLoss_135 rfl ?_
              refine v_get hC fl_X12_34 m_1 e_3728 rfl dX12_readLoss_136 ?_
              refine v_iload_n hC dX12_readLoss_139 rfl ?_
              refine v_iload_n hC dX12_readLoss_140 rfl ?_
              refine v_if_eq_f hC dX12_readLoss_141 (tgt := 148) (by decide) (by first | omega | (simp only [Int32.lt_iff_toInt_lt, Int32.le_iff_toInt_le, Int32.reduceToInt, ← Int32.toInt_inj, true_and, and_true, or_true, true_or, false_or, or_false, false_and, and_false, not_true_eq_false, not_false_eq_true] <;> omega)) ?_
              refine v_iconst hC dX12_readLoss_144 (v := 1) (by decide) ?_
              refine v_goto hC dX12_readLoss_145 (tgt := 149) (by decide) ?_
              refine v_iast hC m_22 hf_3727 (vp_in_iff.mpr (by first | omega | (simp only [Int32.lt_iff_toInt_lt, Int32.le_iff_toInt_le, Int32.reduceToInt, ← Int32.toInt_inj, true_and, and_true, or_true, true_or, false_or, or_false, false_and, and_false, not_true_eq_false, not_false_eq_true] <;> omega))) dX12_readLoss_149 (fun f_3751 hf_3752 hk_3753 => ?_)
              have hW_3755 := hW_3723.up hf_3752 hk_3753 t_23 ⟨_, rfl, (o_f.up (by first | omega | (simp only [Int32.lt_iff_toInt_lt, Int32.le_iff_toInt_le, Int32.reduceToInt, ← Int32.toInt_inj, true_and, and_true, or_true, true_or, false_or, or_false, false_and, and_false, not_true_eq_false, not_false_eq_true] <;> omega)) (fun q1 q2 => (by first | omega | (simp only [Int32.lt_iff_toInt_lt, Int32.le_iff_toInt_le, Int32.reduceToInt, ← Int32.toInt_inj] at *; omega))) (fun k9 q1 q2 q3 => (by first | omega | (simp only [Int32.lt_iff_toInt_lt, Int32.le_iff_toInt_le, Int32.reduceToInt, ← Int32.toInt_inj] at *; omega))))⟩
              obtain ⟨g_3754, hf_3752, ok_3756, eg_3757⟩ : ∃ g9, f_3751 (q 14) = aI E 2076 g9 ∧ FOK g9 ∧ g9 = upd g_f (v_49 : Int32).toNatClampNeg 1 := ⟨_, hf_3752, (o_f.up (by first | omega | (simp only [Int32.lt_iff_toInt_lt, Int32.le_iff_toInt_le, Int32.reduceToInt, ← Int32.toInt_inj, true_and, and_true, or_true, true_or, false_or, or_false, false_and, and_false, not_true_eq_false, not_false_eq_true] <;> omega)) (fun q1 q2 => (by first | omega | (simp only [Int32.lt_iff_toInt_lt, Int32.le_iff_toInt_le, Int32.reduceToInt, ← Int32.toInt_inj] at *; omega))) (fun k9 q1 q2 q3 => (by first | omega | (simp only [Int32.lt_iff_toInt_lt, Int32.le_iff_toInt_le, Int32.reduceToInt, ← Int32.toInt_inj] at *; omega)))), rfl⟩
              have hf_3758 := (hk_3753 a_0 (ne_kd e_3728 hf_3727 rfl)).trans e_3728
              have fr_3759 := FR.w hk_3753 hf_3727 (k := 2176) rfl
              have lk_3760 := lk_at (g0 := g_f) eg_3757 (by omega) (by omega)
              have ag_3761 := (AG.rf o_f).st eg_3757 (by omega) (by omega)
              try simp only [Int32.reduceToInt] at lk_3760
              refine v_aload_n hC dX12_readLoss_150 rfl ?_
              refine v_get hC fl_X12_34 m_1 hf_3758 rfl dX12_readLoss_151 ?_
              refine v_iload_n hC dX12_readLoss_154 rfl ?_
              refine v_iconst hC dX12_readLoss_155 (v := 1) (by decide) ?_
              obtain ⟨v_3762, h_3763⟩ : ∃ v9 : Int32, v_49 + 1 = v9 := ⟨_, rfl⟩
              refine v_iadd hC dX12_readLoss_156 h_3763 ?_
              have h_3764 := add_v h_3763 (by first | omega | (simp only [Int32.lt_iff_toInt_lt, Int32.le_iff_toInt_le, Int32.reduceToInt, ← Int32.toInt_inj, true_and, and_true, or_true, true_or, false_or, or_false, false_and, and_false, not_true_eq_false, not_false_eq_true] <;> omega)) (by first | omega | (simp only [Int32.lt_iff_toInt_lt, Int32.le_iff_toInt_le, Int32.reduceToInt, ← Int32.toInt_inj, true_and, and_true, or_true, true_or, false_or, or_false, false_and, and_false, not_true_eq_false, not_false_eq_true] <;> omega))
              try simp only [Int32.reduceToInt] at h_3764
              refine v_aload_n hC dX12_readLoss_157 rfl ?_
              refine v_iconst hC dX12_readLoss_158 (v := 0) (by decide) ?_
              refine v_bipush hC dX12_readLoss_159 (v := 15) (by decide) ?_
              refine v_vi hC (rest := [.int v_3762, .ref (q 14)]) m_1 hf_3758 rfl mi_X12_number ms_X12_number (p_X12_number hW_3755 k_0) mx_X12_number ml_X12_170 (by decide) rfl (cells1 := 0) (slots1 := 0) (by decide) (by decide) (Nat.le_of_ble_eq_true rfl) (Nat.le_of_ble_eq_true rfl) rfl (Nat.le_of_ble_eq_true rfl) dX12_readLoss_161 (fun r_3765 L_3766 f_3767 h_3768 => ?_)
              obtain ⟨rfl, hW_3772, hF_3773, x_3769, x_3770, x_3771, -, -⟩ := h_3768
              have fe_3774 : fld (f_3751 a_0) 8 = (v_3734 : Int32).toInt := by rw [hf_3758]; rfl
              have fe_3775 : fld (f_3751 a_0) 10 = (v_3738 : Int32).toInt := by rw [hf_3758]; rfl
              have fe_3776 : fld (f_3751 a_0) 12 = (v_3741 : Int32).toInt := by rw [hf_3758]; rfl
              have hf_3777 := hF_3773.at hf_3752 rfl
              obtain ⟨v_3779, v_3780, v_3782, v_3784, v_3786, v_3788, v_3790, v_3791, v_3792, v_3793, v_3795, e_3778, b_3781, b_3783, b_3785, b_3787, b_3789, b_3794, b_3796⟩ := hW_3772.at m_1 t_2
              have fe_3797 : fld (f_3767 a_0) 8 = (v_3784 : Int32).toInt := by rw [e_3778]; rfl
              have fe_3798 : fld (f_3767 a_0) 9 = (v_3786 : Int32).toInt := by rw [e_3778]; rfl
              have fe_3799 : fld (f_3767 a_0) 10 = (v_3788 : Int32).toInt := by rw [e_3778]; rfl
              have fe_3800 : fld (f_3767 a_0) 12 = (v_3791 : Int32).toInt := by rw [e_3778]; rfl
              rw [fe_3800, fe_3776] at x_3769
              rw [fe_3800, fe_3775, fe_3774, fe_3798, fe_3797] at x_3770
              rw [fe_3800, fe_3799, fe_3798, fe_3797] at x_3771
              clear fe_3774 fe_3775 fe_3776 fe_3797 fe_3798 fe_3799 fe_3800
              try simp only [Int32.reduceToInt, Int64.reduceToInt] at x_3769
              try simp only [Int32.reduceToInt, Int64.reduceToInt] at x_3770
              try simp only [Int32.reduceToInt, Int64.reduceToInt] at x_3771
              refine v_iast hC m_22 hf_3777 (vp_in_iff.mpr (by first | omega | (simp only [Int32.lt_iff_toInt_lt, Int32.le_iff_toInt_le, Int32.reduceToInt, ← Int32.toInt_inj, true_and, and_true, or_true, true_or, false_or, or_false, false_and, and_false, not_true_eq_false, not_false_eq_true] <;> omega))) dX12_readLoss_164 (fun f_3801 hf_3802 hk_3803 => ?_)
              have hW_3805 := hW_3772.up hf_3802 hk_3803 t_23 ⟨_, rfl, (ok_3756.up (by first | omega | (simp only [Int32.lt_iff_toInt_lt, Int32.le_iff_toInt_le, Int32.reduceToInt, ← Int32.toInt_inj, true_and, and_true, or_true, true_or, false_or, or_false, false_and, and_false, not_true_eq_false, not_false_eq_true] <;> omega)) (fun q1 q2 => (by first | omega | (simp only [Int32.lt_iff_toInt_lt, Int32.le_iff_toInt_le, Int32.reduceToInt, ← Int32.toInt_inj] at *; omega))) (fun k9 q1 q2 q3 => (by first | omega | (simp only [Int32.lt_iff_toInt_lt, Int32.le_iff_toInt_le, Int32.reduceToInt, ← Int32.toInt_inj] at *; omega))))⟩
              obtain ⟨g_3804, hf_3802, ok_3806, eg_3807⟩ : ∃ g9, f_3801 (q 14) = aI E 2076 g9 ∧ FOK g9 ∧ g9 = upd g_3754 (v_3762 : Int32).toNatClampNeg r_3765 := ⟨_, hf_3802, (ok_3756.up (by first | omega | (simp only [Int32.lt_iff_toInt_lt, Int32.le_iff_toInt_le, Int32.reduceToInt, ← Int32.toInt_inj, true_and, and_true, or_true, true_or, false_or, or_false, false_and, and_false, not_true_eq_false, not_false_eq_true] <;> omega)) (fun q1 q2 => (by first | omega | (simp only [Int32.lt_iff_toInt_lt, Int32.le_iff_toInt_le, Int32.reduceToInt, ← Int32.toInt_inj] at *; omega))) (fun k9 q1 q2 q3 => (by first | omega | (simp only [Int32.lt_iff_toInt_lt, Int32.le_iff_toInt_le, Int32.reduceToInt, ← Int32.toInt_inj] at *; omega)))), rfl⟩
              have hf_3808 := (hk_3803 a_0 (ne_kd e_3778 hf_3777 rfl)).trans e_3778
              have fr_3809 := FR.w hk_3803 hf_3777 (k := 2176) rfl
              have lk_3810 := lf_at (g0 := g_f) eg_3807 (by omega) (by omega)
              have ag_3811 := ag_3761.st eg_3807 (by omega) (by omega)
              try simp only [Int32.reduceToInt] at lk_3810
              refine v_aload_n hC dX12_readLoss_165 rfl ?_
              refine v_get hC fl_X12_34 m_1 hf_3808 rfl dX12_readLoss_166 ?_
              refine v_iload_n hC dX12_readLoss_169 rfl ?_
              refine v_iconst hC dX12_readLoss_170 (v := 2) (by decide) ?_
              obtain ⟨v_3812, h_3813⟩ : ∃ v9 : Int32, v_49 + 2 = v9 := ⟨_, rfl⟩
              refine v_iadd hC dX12_readLoss_171 h_3813 ?_
              have h_3814 := add_v h_3813 (by first | omega | (simp only [Int32.lt_iff_toInt_lt, Int32.le_iff_toInt_le, Int32.reduceToInt, ← Int32.toInt_inj, true_and, and_true, or_true, true_or, false_or, or_false, false_and, and_false, not_true_eq_false, not_false_eq_true] <;> omega)) (by first | omega | (simp only [Int32.lt_iff_toInt_lt, Int32.le_iff_toInt_le, Int32.reduceToInt, ← Int32.toInt_inj, true_and, and_true, or_true, true_or, false_or, or_false, false_and, and_false, not_true_eq_false, not_false_eq_true] <;> omega))
              try simp only [Int32.reduceToInt] at h_3814
              refine v_aload_n hC dX12_readLoss_172 rfl ?_
              refine v_ldcwS hC sr_X12_295 dX12_readLoss_173 ?_
              refine v_aload_n hC dX12_readLoss_176 rfl ?_
              refine v_get hC fl_X12_34 m_1 hf_3808 rfl dX12_readLoss_177 ?_
              refine v_iload_n hC dX12_readLoss_180 rfl ?_
              refine v_iconst hC dX12_readLoss_181 (v := 1) (by decide) ?_
              obtain ⟨v_3815, h_3816⟩ : ∃ v9 : Int32, v_49 + 1 = v9 := ⟨_, rfl⟩
              refine v_iadd hC dX12_readLoss_182 h_3816 ?_
              have h_3817 := add_v h_3816 (by first | omega | (simp only [Int32.lt_iff_toInt_lt, Int32.le_iff_toInt_le, Int32.reduceToInt, ← Int32.toInt_inj, true_and, and_true, or_true, true_or, false_or, or_false, false_and, and_false, not_true_eq_false, not_false_eq_true] <;> omega)) (by first | omega | (simp only [Int32.lt_iff_toInt_lt, Int32.le_iff_toInt_le, Int32.reduceToInt, ← Int32.toInt_inj, true_and, and_true, or_true, true_or, false_or, or_false, false_and, and_false, not_true_eq_false, not_false_eq_true] <;> omega))
              try simp only [Int32.reduceToInt] at h_3817
              obtain ⟨v_3818, h_3819⟩ : ∃ v9 : Int32, g_3804 (v_3815 : Int32).toNatClampNeg = v9 := ⟨_, rfl⟩
              refine v_iald hC m_22 hf_3802 (vp_in_iff.mpr (by first | omega | (simp only [Int32.lt_iff_toInt_lt, Int32.le_iff_toInt_le, Int32.reduceToInt, ← Int32.toInt_inj, true_and, and_true, or_true, true_or, false_or, or_false, false_and, and_false, not_true_eq_false, not_false_eq_true] <;> omega))) h_3819 dX12_readLoss_183 ?_
              refine v_bipush hC dX12_readLoss_184 (v := 15) (by decide) ?_
              refine v_vi hC (rest := [.int v_3812, .ref (q 14)]) m_1 hf_3808 rfl mi_X12_told ms_X12_told (p_X12_told hW_3805 k_0 (by decide)) mx_X12_told ml_X12_189 (by decide) rfl (cells1 := 0) (slots1 := 0) (by decide) (by decide) (Nat.le_of_ble_eq_true rfl) (Nat.le_of_ble_eq_true rfl) rfl (Nat.le_of_ble_eq_true rfl) dX12_readLoss_186 (fun r_3820 L_3821 f_3822 h_3823 => ?_)
              obtain ⟨rfl, hW_3827, hF_3828, x_3824, x_3825, x_3826, -, -⟩ := h_3823
              have fe_3829 : fld (f_3801 a_0) 8 = (v_3784 : Int32).toInt := by rw [hf_3808]; rfl
              have fe_3830 : fld (f_3801 a_0) 12 = (v_3791 : Int32).toInt := by rw [hf_3808]; rfl
              have hf_3831 := hF_3828.at hf_3802 rfl
              obtain ⟨v_3833, v_3834, v_3836, v_3838, v_3840, v_3842, v_3844, v_3845, v_3846, v_3847, v_3849, e_3832, b_3835, b_3837, b_3839, b_3841, b_3843, b_3848, b_3850⟩ := hW_3827.at m_1 t_2
              have fe_3851 : fld (f_3822 a_0) 8 = (v_3838 : Int32).toInt := by rw [e_3832]; rfl
              have fe_3852 : fld (f_3822 a_0) 9 = (v_3840 : Int32).toInt := by rw [e_3832]; rfl
              have fe_3853 : fld (f_3822 a_0) 10 = (v_3842 : Int32).toInt := by rw [e_3832]; rfl
              have fe_3854 : fld (f_3822 a_0) 12 = (v_3845 : Int32).toInt := by rw [e_3832]; rfl
              rw [fe_3854, fe_3830] at x_3824
              rw [fe_3854, fe_3829, fe_3852, fe_3851] at x_3825
              rw [fe_3854, fe_3853, fe_3852, fe_3851] at x_3826
              clear fe_3829 fe_3830 fe_3851 fe_3852 fe_3853 fe_3854
              try simp only [Int32.reduceToInt, Int64.reduceToInt] at x_3824
              try simp only [Int32.reduceToInt, Int64.reduceToInt] at x_3825
              try simp only [Int32.reduceToInt, Int64.reduceToInt] at x_3826
              refine v_iast hC m_22 hf_3831 (vp_in_iff.mpr (by first | omega | (simp only [Int32.lt_iff_toInt_lt, Int32.le_iff_toInt_le, Int32.reduceToInt, ← Int32.toInt_inj, true_and, and_true, or_true, true_or, false_or, or_false, false_and, and_false, not_true_eq_false, not_false_eq_true] <;> omega))) dX12_readLoss_189 (fun f_3855 hf_3856 hk_3857 => ?_)
              have hW_3859 := hW_3827.up hf_3856 hk_3857 t_23 ⟨_, rfl, (ok_3806.up (by first | omega | (simp only [Int32.lt_iff_toInt_lt, Int32.le_iff_toInt_le, Int32.reduceToInt, ← Int32.toInt_inj, true_and, and_true, or_true, true_or, false_or, or_false, false_and, and_false, not_true_eq_false, not_false_eq_true] <;> omega)) (fun q1 q2 => (by first | omega | (simp only [Int32.lt_iff_toInt_lt, Int32.le_iff_toInt_le, Int32.reduceToInt, ← Int32.toInt_inj] at *; omega))) (fun k9 q1 q2 q3 => (by first | omega | (simp only [Int32.lt_iff_toInt_lt, Int32.le_iff_toInt_le, Int32.reduceToInt, ← Int32.toInt_inj] at *; omega))))⟩
              obtain ⟨g_3858, hf_3856, ok_3860, eg_3861⟩ : ∃ g9, f_3855 (q 14) = aI E 2076 g9 ∧ FOK g9 ∧ g9 = upd g_3804 (v_3812 : Int32).toNatClampNeg r_3820 := ⟨_, hf_3856, (ok_3806.up (by first | omega | (simp only [Int32.lt_iff_toInt_lt, Int32.le_iff_toInt_le, Int32.reduceToInt, ← Int32.toInt_inj, true_and, and_true, or_true, true_or, false_or, or_false, false_and, and_false, not_true_eq_false, not_false_eq_true] <;> omega)) (fun q1 q2 => (by first | omega | (simp only [Int32.lt_iff_toInt_lt, Int32.le_iff_toInt_le, Int32.reduceToInt, ← Int32.toInt_inj] at *; omega))) (fun k9 q1 q2 q3 => (by first | omega | (simp only [Int32.lt_iff_toInt_lt, Int32.le_iff_toInt_le, Int32.reduceToInt, ← Int32.toInt_inj] at *; omega)))), rfl⟩
              have hf_3862 := (hk_3857 a_0 (ne_kd e_3832 hf_3831 rfl)).trans e_3832
              have fr_3863 := FR.w hk_3857 hf_3831 (k := 2176) rfl
              have lk_3864 := l2_at (g0 := g_f) eg_3861 (by omega) (by omega)
              have ag_3865 := ag_3811.st eg_3861 (by omega) (by omega)
              try simp only [Int32.reduceToInt] at lk_3864
              refine v_goto hC dX12_readLoss_190 (tgt := 258) (by decide) ?_
              refine v_aload_n hC dX12_readLoss_258 rfl ?_
              refine v_vv hC (rest := []) m_1 hf_3862 rfl mi_X12_ends ms_X12_ends (p_X12_ends hW_3859 k_0) mx_X12_ends ml_X12_178 (by decide) rfl (cells1 := 0) (slots1 := 0) (by decide) (by decide) (Nat.le_of_ble_eq_true rfl) (Nat.le_of_ble_eq_true rfl) rfl (Nat.le_of_ble_eq_true rfl) dX12_readLoss_259 (fun L_3867 f_3868 h_3869 => ?_)
              obtain ⟨rfl, hW_3872, hF_3873, x_3870, x_3871, -, -⟩ := h_3869
              have fe_3874 : fld (f_3855 a_0) 8 = (v_3838 : Int32).toInt := by rw [hf_3862]; rfl
              have fe_3875 : fld (f_3855 a_0) 10 = (v_3842 : Int32).toInt := by rw [hf_3862]; rfl
              have fe_3876 : fld (f_3855 a_0) 12 = (v_3845 : Int32).toInt := by rw [hf_3862]; rfl
              have hf_3877 := hF_3873.at hf_3856 rfl
              obtain ⟨v_3879, v_3880, v_3882, v_3884, v_3886, v_3888, v_3890, v_3891, v_3892, v_3893, v_3895, e_3878, b_3881, b_3883, b_3885, b_3887, b_3889, b_3894, b_3896⟩ := hW_3872.at m_1 t_2
              have fe_3897 : fld (f_3868 a_0) 8 = (v_3884 : Int32).toInt := by rw [e_3878]; rfl
              have fe_3898 : fld (f_3868 a_0) 9 = (v_3886 : Int32).toInt := by rw [e_3878]; rfl
              have fe_3899 : fld (f_3868 a_0) 12 = (v_3891 : Int32).toInt := by rw [e_3878]; rfl
              rw [fe_3899, fe_3876] at x_3870
              rw [fe_3899, fe_3875, fe_3874, fe_3898, fe_3897] at x_3871
              clear fe_3874 fe_3875 fe_3876 fe_3897 fe_3898 fe_3899
              refine v_aload_n hC dX12_readLoss_262 rfl ?_
              refine v_get hC fl_X12_34 m_1 e_3878 rfl dX12_readLoss_263 ?_
              refine v_bipush hC dX12_readLoss_266 (v := 6) (by decide) ?_
              refine v_dup2 hC dX12_readLoss_268 rfl rfl ?_
              have l6_3900 : (g_3858 6).toInt = (g_f 6).toInt := congrArg Int32.toInt ag_3865.2.1
              refine v_iald hC m_22 hf_3877 (vp_in_iff.mpr (by decide)) (v := g_3858 6) rfl dX12_readLoss_269 ?_
              refine v_iconst hC dX12_readLoss_270 (v := 1) (by decide) ?_
              obtain ⟨v_3901, h_3902⟩ : ∃ v9 : Int32, (g_3858 6) + 1 = v9 := ⟨_, rfl⟩
              refine v_iadd hC dX12_readLoss_271 h_3902 ?_
              have h_3903 := add_v h_3902 (by first | omega | (simp only [Int32.lt_iff_toInt_lt, Int32.le_iff_toInt_le, Int32.reduceToInt, ← Int32.toInt_inj, true_and, and_true, or_true, true_or, false_or, or_false, false_and, and_false, not_true_eq_false, not_false_eq_true] <;> omega)) (by first | omega | (simp only [Int32.lt_iff_toInt_lt, Int32.le_iff_toInt_le, Int32.reduceToInt, ← Int32.toInt_inj, true_and, and_true, or_true, true_or, false_or, or_false, false_and, and_false, not_true_eq_false, not_false_eq_true] <;> omega))
              try simp only [Int32.reduceToInt] at h_3903
              refine v_iast hC m_22 hf_3877 (vp_in_iff.mpr (by decide)) dX12_readLoss_272 (fun f_3904 hf_3905 hk_3906 => ?_)
              have hW_3908 := hW_3872.up hf_3905 hk_3906 t_23 ⟨_, rfl, (ok_3860.up (i := 6) (by decide) (fun q1 q2 => absurd (And.intro q1 q2) (by decide)) (fun k9 q1 q2 q3 => by simp only [Int32.reduceToInt] at q3; omega))⟩
              obtain ⟨g_3907, hf_3905, ok_3909, eg_3910⟩ : ∃ g9, f_3904 (q 14) = aI E 2076 g9 ∧ FOK g9 ∧ g9 = upd g_3858 (6 : Int32).toNatClampNeg v_3901 := ⟨_, hf_3905, (ok_3860.up (i := 6) (by decide) (fun q1 q2 => absurd (And.intro q1 q2) (by decide)) (fun k9 q1 q2 q3 => by simp only [Int32.reduceToInt] at q3; omega)), rfl⟩
              have hf_3911 := (hk_3906 a_0 (ne_kd e_3878 hf_3877 rfl)).trans e_3878
              have fr_3912 := FR.w hk_3906 hf_3877 (k := 2176) rfl
              have ln6_3913 := FOK.n6 ag_3865.1 eg_3910
              have ln6_3913_t : (g_3907 6).toInt = v_3901.toInt := congrArg Int32.toInt ln6_3913.2
              have fe_3914 : fld (f_3904 a_0) 12 = (v_3891 : Int32).toInt := by rw [hf_3911]; rfl
              have fe_3915 : fld (f_3904 a_0) 8 = (v_3884 : Int32).toInt := by rw [hf_3911]; rfl
              have fe_3916 : fld (f_3904 a_0) 12 = (v_3891 : Int32).toInt := by rw [hf_3911]; rfl
              have fe_3917 : fld (f_3904 a_0) 20 = (v_3895 : Int32).toInt := by rw [hf_3911]; rfl
              exact hR _ _ _ _ _ _ dX12_readLoss_273 (Nat.le_of_ble_eq_true rfl) (Nat.le_of_ble_eq_true rfl) ⟨rfl, hW_3908, ((((((((((hF_3168.tr hF_3209).tr hF_3724).tr fr_3759).tr hF_3773).tr fr_3809).tr hF_3828).tr fr_3863).tr hF_3873).tr fr_3912).mono rfl), ⟨_, hf_3905, ln6_3913.1, (by omega), (by rw [fe_3914]; by_cases q9 : v_3891.toInt = 0; exact .inr (LO.fin hLO ag_3865 eg_3910 (by omega) (by omega) (fun q8 => by omega)); exact .inl q9)⟩, (by simp only [fe_3915, fe_3916, mz_43, mz_44, true_and, and_true, or_true, true_or, false_or, or_false, false_and, and_false, not_true_eq_false, not_false_eq_true] <;> first | omega | (simp only [Int32.lt_iff_toInt_lt, Int32.le_iff_toInt_le, Int32.reduceToInt, ← Int32.toInt_inj, true_and, and_true, or_true, true_or, false_or, or_false, false_and, and_false, not_true_eq_false, not_false_eq_true] <;> omega)), (by simp only [fe_3917, mz_45, true_and, and_true, or_true, true_or, false_or, or_false, false_and, and_false, not_true_eq_false, not_false_eq_true] <;> first | omega | (simp only [Int32.lt_iff_toInt_lt, Int32.le_iff_toInt_le, Int32.reduceToInt, ← Int32.toInt_inj, true_and, and_true, or_true, true_or, false_or, or_false, false_and, and_false, not_true_eq_false, not_false_eq_true] <;> omega))⟩
          · simp only [Int32.lt_iff_toInt_lt, Int32.le_iff_toInt_le, Int32.reduceToInt, ← Int32.toInt_inj] at h_3538
            refine v_aload_n hC dX12_readLoss_110 rfl ?_
            refine v_ldcS hC sr_X12_193 dX12_readLoss_111 ?_
            refine v_vi hC (rest := []) m_1 e_3213 rfl mi_X12_is ms_X12_is (p_X12_is hW_3208 k_0 (by decide)) mx_X12_is ml_X12_152 (by decide) rfl (cells1 := 0) (slots1 := 0) (by decide) (by decide) (Nat.le_of_ble_eq_true rfl) (Nat.le_of_ble_eq_true rfl) rfl (Nat.le_of_ble_eq_true rfl) dX12_readLoss_113 (fun r_3918 L_3919 f_3920 h_3921 => ?_)
            obtain ⟨rfl, rfl, rfl⟩ := h_3921
            refine v_if_ne hC dX12_readLoss_116 (tgt := 124) (by decide) (fun h_3924 => ?_) (fun h_3924 => ?_)
            · simp only [Int32.lt_iff_toInt_lt, Int32.le_iff_toInt_le, Int32.reduceToInt, ← Int32.toInt_inj] at h_3924
              refine v_aload_n hC dX12_readLoss_124 rfl ?_
              refine v_vi hC (rest := []) m_1 e_3213 rfl mi_X12_good ms_X12_good (p_X12_good hW_3208 k_0) mx_X12_good ml_X12_139 (by decide) rfl (cells1 := 0) (slots1 := 0) (by decide) (by decide) (Nat.le_of_ble_eq_true rfl) (Nat.le_of_ble_eq_true rfl) rfl (Nat.le_of_ble_eq_true rfl) dX12_readLoss_125 (fun r_3925 L_3926 f_3927 h_3928 => ?_)
              obtain ⟨rfl, rfl, b_3929, x_3930⟩ := h_3928
              have fe_3933 : fld (f_3204 a_0) 12 = (v_3226 : Int32).toInt := by rw [e_3213]; rfl
              rw [fe_3933] at x_3930
              clear fe_3933
              try simp only [Int32.reduceToInt, Int64.reduceToInt] at x_3930
              refine v_if_eq hC dX12_readLoss_128 (tgt := 135) (by decide) (fun h_3934 => ?_) (fun h_3934 => ?_)
              · simp only [Int32.lt_iff_toInt_lt, Int32.le_iff_toInt_le, Int32.reduceToInt, ← Int32.toInt_inj] at h_3934
                refine v_aload_n hC dX12_readLoss_135 rfl ?_
                refine v_get hC fl_X12_34 m_1 e_3213 rfl dX12_readLoss_136 ?_
                refine v_iload_n hC dX12_readLoss_139 rfl ?_
                refine v_iload_n hC dX12_readLoss_140 rfl ?_
                refine v_if_eq_t hC dX12_readLoss_141 (tgt := 148) (by decide) (by first | omega | (simp only [Int32.lt_iff_toInt_lt, Int32.le_iff_toInt_le, Int32.reduceToInt, ← Int32.toInt_inj, true_and, and_true, or_true, true_or, false_or, or_false, false_and, and_false, not_true_eq_false, not_false_eq_true] <;> omega)) ?_
                refine v_iconst hC dX12_readLoss_148 (v := 0) (by decide) ?_
                refine v_iast hC m_22 hf_3212 (vp_in_iff.mpr (by first | omega | (simp only [Int32.lt_iff_toInt_lt, Int32.le_iff_toInt_le, Int32.reduceToInt, ← Int32.toInt_inj, true_and, and_true, or_true, true_or, false_or, or_false, false_and, and_false, not_true_eq_false, not_false_eq_true] <;> omega))) dX12_readLoss_149 (fun f_3935 hf_3936 hk_3937 => ?_)
                have hW_3939 := hW_3208.up hf_3936 hk_3937 t_23 ⟨_, rfl, (o_f.up (by first | omega | (simp only [Int32.lt_iff_toInt_lt, Int32.le_iff_toInt_le, Int32.reduceToInt, ← Int32.toInt_inj, true_and, and_true, or_true, true_or, false_or, or_false, false_and, and_false, not_true_eq_false, not_false_eq_true] <;> omega)) (fun q1 q2 => (by first | omega | (simp only [Int32.lt_iff_toInt_lt, Int32.le_iff_toInt_le, Int32.reduceToInt, ← Int32.toInt_inj] at *; omega))) (fun k9 q1 q2 q3 => (by first | omega | (simp only [Int32.lt_iff_toInt_lt, Int32.le_iff_toInt_le, Int32.reduceToInt, ← Int32.toInt_inj] at *; omega))))⟩
                obtain ⟨g_3938, hf_3936, ok_3940, eg_3941⟩ : ∃ g9, f_3935 (q 14) = aI E 2076 g9 ∧ FOK g9 ∧ g9 = upd g_f (v_49 : Int32).toNatClampNeg 0 := ⟨_, hf_3936, (o_f.up (by first | omega | (simp only [Int32.lt_iff_toInt_lt, Int32.le_iff_toInt_le, Int32.reduceToInt, ← Int32.toInt_inj, true_and, and_true, or_true, true_or, false_or, or_false, false_and, and_false, not_true_eq_false, not_false_eq_true] <;> omega)) (fun q1 q2 => (by first | omega | (simp only [Int32.lt_iff_toInt_lt, Int32.le_iff_toInt_le, Int32.reduceToInt, ← Int32.toInt_inj] at *; omega))) (fun k9 q1 q2 q3 => (by first | omega | (simp only [Int32.lt_iff_toInt_lt, Int32.le_iff_toInt_le, Int32.reduceToInt, ← Int32.toInt_inj] at *; omega)))), rfl⟩
                have hf_3942 := (hk_3937 a_0 (ne_kd e_3213 hf_3212 rfl)).trans e_3213
                have fr_3943 := FR.w hk_3937 hf_3212 (k := 2176) rfl
                have lk_3944 := lk_at (g0 := g_f) eg_3941 (by omega) (by omega)
                have ag_3945 := (AG.rf o_f).st eg_3941 (by omega) (by omega)
                try simp only [Int32.reduceToInt] at lk_3944
                refine v_aload_n hC dX12_readLoss_150 rfl ?_
                refine v_get hC fl_X12_34 m_1 hf_3942 rfl dX12_readLoss_151 ?_
                refine v_iload_n hC dX12_readLoss_154 rfl ?_
                refine v_iconst hC dX12_readLoss_155 (v := 1) (by decide) ?_
                obtain ⟨v_3946, h_3947⟩ : ∃ v9 : Int32, v_49 + 1 = v9 := ⟨_, rfl⟩
                refine v_iadd hC dX12_readLoss_156 h_3947 ?_
                have h_3948 := add_v h_3947 (by first | omega | (simp only [Int32.lt_iff_toInt_lt, Int32.le_iff_toInt_le, Int32.reduceToInt, ← Int32.toInt_inj, true_and, and_true, or_true, true_or, false_or, or_false, false_and, and_false, not_true_eq_false, not_false_eq_true] <;> omega)) (by first | omega | (simp only [Int32.lt_iff_toInt_lt, Int32.le_iff_toInt_le, Int32.reduceToInt, ← Int32.toInt_inj, true_and, and_true, or_true, true_or, false_or, or_false, false_and, and_false, not_true_eq_false, not_false_eq_true] <;> omega))
                try simp only [Int32.reduceToInt] at h_3948
                refine v_aload_n hC dX12_readLoss_157 rfl ?_
                refine v_iconst hC dX12_readLoss_158 (v := 0) (by decide) ?_
                refine v_bipush hC dX12_readLoss_159 (v := 15) (by decide) ?_
                refine v_vi hC (rest := [.int v_3946, .ref (q 14)]) m_1 hf_3942 rfl mi_X12_number ms_X12_number (p_X12_number hW_3939 k_0) mx_X12_number ml_X12_170 (by decide) rfl (cells1 := 0) (slots1 := 0) (by decide) (by decide) (Nat.le_of_ble_eq_true rfl) (Nat.le_of_ble_eq_true rfl) rfl (Nat.le_of_ble_eq_true rfl) dX12_readLoss_161 (fun r_3949 L_3950 f_3951 h_3952 => ?_)
                obtain ⟨rfl, hW_3956, hF_3957, x_3953, x_3954, x_3955, -, -⟩ := h_3952
                have fe_3958 : fld (f_3935 a_0) 8 = (v_3219 : Int32).toInt := by rw [hf_3942]; rfl
                have fe_3959 : fld (f_3935 a_0) 10 = (v_3223 : Int32).toInt := by rw [hf_3942]; rfl
                have fe_3960 : fld (f_3935 a_0) 12 = (v_3226 : Int32).toInt := by rw [hf_3942]; rfl
                have hf_3961 := hF_3957.at hf_3936 rfl
                obtain ⟨v_3963, v_3964, v_3966, v_3968, v_3970, v_3972, v_3974, v_3975, v_3976, v_3977, v_3979, e_3962, b_3965, b_3967, b_3969, b_3971, b_3973, b_3978, b_3980⟩ := hW_3956.at m_1 t_2
                have fe_3981 : fld (f_3951 a_0) 8 = (v_3968 : Int32).toInt := by rw [e_3962]; rfl
                have fe_3982 : fld (f_3951 a_0) 9 = (v_3970 : Int32).toInt := by rw [e_3962]; rfl
                have fe_3983 : fld (f_3951 a_0) 10 = (v_3972 : Int32).toInt := by rw [e_3962]; rfl
                have fe_3984 : fld (f_3951 a_0) 12 = (v_3975 : Int32).toInt := by rw [e_3962]; rfl
                rw [fe_3984, fe_3960] at x_3953
                rw [fe_3984, fe_3959, fe_3958, fe_3982, fe_3981] at x_3954
                rw [fe_3984, fe_3983, fe_3982, fe_3981] at x_3955
                clear fe_3958 fe_3959 fe_3960 fe_3981 fe_3982 fe_3983 fe_3984
                try simp only [Int32.reduceToInt, Int64.reduceToInt] at x_3953
                try simp only [Int32.reduceToInt, Int64.reduceToInt] at x_3954
                try simp only [Int32.reduceToInt, Int64.reduceToInt] at x_3955
                refine v_iast hC m_22 hf_3961 (vp_in_iff.mpr (by first | omega | (simp only [Int32.lt_iff_toInt_lt, Int32.le_iff_toInt_le, Int32.reduceToInt, ← Int32.toInt_inj, true_and, and_true, or_true, true_or, false_or, or_false, false_and, and_false, not_true_eq_false, not_false_eq_true] <;> omega))) dX12_readLoss_164 (fun f_3985 hf_3986 hk_3987 => ?_)
                have hW_3989 := hW_3956.up hf_3986 hk_3987 t_23 ⟨_, rfl, (ok_3940.up (by first | omega | (simp only [Int32.lt_iff_toInt_lt, Int32.le_iff_toInt_le, Int32.reduceToInt, ← Int32.toInt_inj, true_and, and_true, or_true, true_or, false_or, or_false, false_and, and_false, not_true_eq_false, not_false_eq_true] <;> omega)) (fun q1 q2 => (by first | omega | (simp only [Int32.lt_iff_toInt_lt, Int32.le_iff_toInt_le, Int32.reduceToInt, ← Int32.toInt_inj] at *; omega))) (fun k9 q1 q2 q3 => (by first | omega | (simp only [Int32.lt_iff_toInt_lt, Int32.le_iff_toInt_le, Int32.reduceToInt, ← Int32.toInt_inj] at *; omega))))⟩
                obtain ⟨g_3988, hf_3986, ok_3990, eg_3991⟩ : ∃ g9, f_3985 (q 14) = aI E 2076 g9 ∧ FOK g9 ∧ g9 = upd g_3938 (v_3946 : Int32).toNatClampNeg r_3949 := ⟨_, hf_3986, (ok_3940.up (by first | omega | (simp only [Int32.lt_iff_toInt_lt, Int32.le_iff_toInt_le, Int32.reduceToInt, ← Int32.toInt_inj, true_and, and_true, or_true, true_or, false_or, or_false, false_and, and_false, not_true_eq_false, not_false_eq_true] <;> omega)) (fun q1 q2 => (by first | omega | (simp only [Int32.lt_iff_toInt_lt, Int32.le_iff_toInt_le, Int32.reduceToInt, ← Int32.toInt_inj] at *; omega))) (fun k9 q1 q2 q3 => (by first | omega | (simp only [Int32.lt_iff_toInt_lt, Int32.le_iff_toInt_le, Int32.reduceToInt, ← Int32.toInt_inj] at *; omega)))), rfl⟩
                have hf_3992 := (hk_3987 a_0 (ne_kd e_3962 hf_3961 rfl)).trans e_3962
                have fr_3993 := FR.w hk_3987 hf_3961 (k := 2176) rfl
                have lk_3994 := lf_at (g0 := g_f) eg_3991 (by omega) (by omega)
                have ag_3995 := ag_3945.st eg_3991 (by omega) (by omega)
                try simp only [Int32.reduceToInt] at lk_3994
                refine v_aload_n hC dX12_readLoss_165 rfl ?_
                refine v_get hC fl_X12_34 m_1 hf_3992 rfl dX12_readLoss_166 ?_
                refine v_iload_n hC dX12_readLoss_169 rfl ?_
                refine v_iconst hC dX12_readLoss_170 (v := 2) (by decide) ?_
                obtain ⟨v_3996, h_3997⟩ : ∃ v9 : Int32, v_49 + 2 = v9 := ⟨_, rfl⟩
                refine v_iadd hC dX12_readLoss_171 h_3997 ?_
                have h_3998 := add_v h_3997 (by first | omega | (simp only [Int32.lt_iff_toInt_lt, Int32.le_iff_toInt_le, Int32.reduceToInt, ← Int32.toInt_inj, true_and, and_true, or_true, true_or, false_or, or_false, false_and, and_false, not_true_eq_false, not_false_eq_true] <;> omega)) (by first | omega | (simp only [Int32.lt_iff_toInt_lt, Int32.le_iff_toInt_le, Int32.reduceToInt, ← Int32.toInt_inj, true_and, and_true, or_true, true_or, false_or, or_false, false_and, and_false, not_true_eq_false, not_false_eq_true] <;> omega))
                try simp only [Int32.reduceToInt] at h_3998
                refine v_aload_n hC dX12_readLoss_172 rfl ?_
                refine v_ldcwS hC sr_X12_295 dX12_readLoss_173 ?_
                refine v_aload_n hC dX12_readLoss_176 rfl ?_
                refine v_get hC fl_X12_34 m_1 hf_3992 rfl dX12_readLoss_177 ?_
                refine v_iload_n hC dX12_readLoss_180 rfl ?_
                refine v_iconst hC dX12_readLoss_181 (v := 1) (by decide) ?_
                obtain ⟨v_3999, h_4000⟩ : ∃ v9 : Int32, v_49 + 1 = v9 := ⟨_, rfl⟩
                refine v_iadd hC dX12_readLoss_182 h_4000 ?_
                have h_4001 := add_v h_4000 (by first | omega | (simp only [Int32.lt_iff_toInt_lt, Int32.le_iff_toInt_le, Int32.reduceToInt, ← Int32.toInt_inj, true_and, and_true, or_true, true_or, false_or, or_false, false_and, and_false, not_true_eq_false, not_false_eq_true] <;> omega)) (by first | omega | (simp only [Int32.lt_iff_toInt_lt, Int32.le_iff_toInt_le, Int32.reduceToInt, ← Int32.toInt_inj, true_and, and_true, or_true, true_or, false_or, or_false, false_and, and_false, not_true_eq_false, not_false_eq_true] <;> omega))
                try simp only [Int32.reduceToInt] at h_4001
                obtain ⟨v_4002, h_4003⟩ : ∃ v9 : Int32, g_3988 (v_3999 : Int32).toNatClampNeg = v9 := ⟨_, rfl⟩
                refine v_iald hC m_22 hf_3986 (vp_in_iff.mpr (by first | omega | (simp only [Int32.lt_iff_toInt_lt, Int32.le_iff_toInt_le, Int32.reduceToInt, ← Int32.toInt_inj, true_and, and_true, or_true, true_or, false_or, or_false, false_and, and_false, not_true_eq_false, not_false_eq_true] <;> omega))) h_4003 dX12_readLoss_183 ?_
                refine v_bipush hC dX12_readLoss_184 (v := 15) (by decide) ?_
                refine v_vi hC (rest := [.int v_3996, .ref (q 14)]) m_1 hf_3992 rfl mi_X12_told ms_X12_told (p_X12_told hW_3989 k_0 (by decide)) mx_X12_told ml_X12_189 (by decide) rfl (cells1 := 0) (slots1 := 0) (by decide) (by decide) (Nat.le_of_ble_eq_true rfl) (Nat.le_of_ble_eq_true rfl) rfl (Nat.le_of_ble_eq_true rfl) dX12_readLoss_186 (fun r_4004 L_4005 f_4006 h_4007 => ?_)
                obtain ⟨rfl, hW_4011, hF_4012, x_4008, x_4009, x_4010, -, -⟩ := h_4007
                have fe_4013 : fld (f_3985 a_0) 8 = (v_3968 : Int32).toInt := by rw [hf_3992]; rfl
                have fe_4014 : fld (f_3985 a_0) 12 = (v_3975 : Int32).toInt := by rw [hf_3992]; rfl
                have hf_4015 := hF_4012.at hf_3986 rfl
                obtain ⟨v_4017, v_4018, v_4020, v_4022, v_4024, v_4026, v_4028, v_4029, v_4030, v_4031, v_4033, e_4016, b_4019, b_4021, b_4023, b_4025, b_4027, b_4032, b_4034⟩ := hW_4011.at m_1 t_2
                have fe_4035 : fld (f_4006 a_0) 8 = (v_4022 : Int32).toInt := by rw [e_4016]; rfl
                have fe_4036 : fld (f_4006 a_0) 9 = (v_4024 : Int32).toInt := by rw [e_4016]; rfl
                have fe_4037 : fld (f_4006 a_0) 10 = (v_4026 : Int32).toInt := by rw [e_4016]; rfl
                have fe_4038 : fld (f_4006 a_0) 12 = (v_4029 : Int32).toInt := by rw [e_4016]; rfl
                rw [fe_4038, fe_4014] at x_4008
                rw [fe_4038, fe_4013, fe_4036, fe_4035] at x_4009
                rw [fe_4038, fe_4037, fe_4036, fe_4035] at x_4010
                clear fe_4013 fe_4014 fe_4035 fe_4036 fe_4037 fe_4038
                try simp only [Int32.reduceToInt, Int64.reduceToInt] at x_4008
                try simp only [Int32.reduceToInt, Int64.reduceToInt] at x_4009
                try simp only [Int32.reduceToInt, Int64.reduceToInt] at x_4010
                refine v_iast hC m_22 hf_4015 (vp_in_iff.mpr (by first | omega | (simp only [Int32.lt_iff_toInt_lt, Int32.le_iff_toInt_le, Int32.reduceToInt, ← Int32.toInt_inj, true_and, and_true, or_true, true_or, false_or, or_false, false_and, and_false, not_true_eq_false, not_false_eq_true] <;> omega))) dX12_readLoss_189 (fun f_4039 hf_4040 hk_4041 => ?_)
                have hW_4043 := hW_4011.up hf_4040 hk_4041 t_23 ⟨_, rfl, (ok_3990.up (by first | omega | (simp only [Int32.lt_iff_toInt_lt, Int32.le_iff_toInt_le, Int32.reduceToInt, ← Int32.toInt_inj, true_and, and_true, or_true, true_or, false_or, or_false, false_and, and_false, not_true_eq_false, not_false_eq_true] <;> omega)) (fun q1 q2 => (by first | omega | (simp only [Int32.lt_iff_toInt_lt, Int32.le_iff_toInt_le, Int32.reduceToInt, ← Int32.toInt_inj] at *; omega))) (fun k9 q1 q2 q3 => (by first | omega | (simp only [Int32.lt_iff_toInt_lt, Int32.le_iff_toInt_le, Int32.reduceToInt, ← Int32.toInt_inj] at *; omega))))⟩
                obtain ⟨g_4042, hf_4040, ok_4044, eg_4045⟩ : ∃ g9, f_4039 (q 14) = aI E 2076 g9 ∧ FOK g9 ∧ g9 = upd g_3988 (v_3996 : Int32).toNatClampNeg r_4004 := ⟨_, hf_4040, (ok_3990.up (by first | omega | (simp only [Int32.lt_iff_toInt_lt, Int32.le_iff_toInt_le, Int32.reduceToInt, ← Int32.toInt_inj, true_and, and_true, or_true, true_or, false_or, or_false, false_and, and_false, not_true_eq_false, not_false_eq_true] <;> omega)) (fun q1 q2 => (by first | omega | (simp only [Int32.lt_iff_toInt_lt, Int32.le_iff_toInt_le, Int32.reduceToInt, ← Int32.toInt_inj] at *; omega))) (fun k9 q1 q2 q3 => (by first | omega | (simp only [Int32.lt_iff_toInt_lt, Int32.le_iff_toInt_le, Int32.reduceToInt, ← Int32.toInt_inj] at *; omega)))), rfl⟩
                have hf_4046 := (hk_4041 a_0 (ne_kd e_4016 hf_4015 rfl)).trans e_4016
                have fr_4047 := FR.w hk_4041 hf_4015 (k := 2176) rfl
                have lk_4048 := l2_at (g0 := g_f) eg_4045 (by omega) (by omega)
                have ag_4049 := ag_3995.st eg_4045 (by omega) (by omega)
                try simp only [Int32.reduceToInt] at lk_4048
                refine v_goto hC dX12_readLoss_190 (tgt := 258) (by decide) ?_
                refine v_aload_n hC dX12_readLoss_258 rfl ?_
                refine v_vv hC (rest := []) m_1 hf_4046 rfl mi_X12_ends ms_X12_ends (p_X12_ends hW_4043 k_0) mx_X12_ends ml_X12_178 (by decide) rfl (cells1 := 0) (slots1 := 0) (by decide) (by decide) (Nat.le_of_ble_eq_true rfl) (Nat.le_of_ble_eq_true rfl) rfl (Nat.le_of_ble_eq_true rfl) dX12_readLoss_259 (fun L_4051 f_4052 h_4053 => ?_)
                obtain ⟨rfl, hW_4056, hF_4057, x_4054, x_4055, -, -⟩ := h_4053
                have fe_4058 : fld (f_4039 a_0) 8 = (v_4022 : Int32).toInt := by rw [hf_4046]; rfl
                have fe_4059 : fld (f_4039 a_0) 10 = (v_4026 : Int32).toInt := by rw [hf_4046]; rfl
                have fe_4060 : fld (f_4039 a_0) 12 = (v_4029 : Int32).toInt := by rw [hf_4046]; rfl
                have hf_4061 := hF_4057.at hf_4040 rfl
                obtain ⟨v_4063, v_4064, v_4066, v_4068, v_4070, v_4072, v_4074, v_4075, v_4076, v_4077, v_4079, e_4062, b_4065, b_4067, b_4069, b_4071, b_4073, b_4078, b_4080⟩ := hW_4056.at m_1 t_2
                have fe_4081 : fld (f_4052 a_0) 8 = (v_4068 : Int32).toInt := by rw [e_4062]; rfl
                have fe_4082 : fld (f_4052 a_0) 9 = (v_4070 : Int32).toInt := by rw [e_4062]; rfl
                have fe_4083 : fld (f_4052 a_0) 12 = (v_4075 : Int32).toInt := by rw [e_4062]; rfl
                rw [fe_4083, fe_4060] at x_4054
                rw [fe_4083, fe_4059, fe_4058, fe_4082, fe_4081] at x_4055
                clear fe_4058 fe_4059 fe_4060 fe_4081 fe_4082 fe_4083
                refine v_aload_n hC dX12_readLoss_262 rfl ?_
                refine v_get hC fl_X12_34 m_1 e_4062 rfl dX12_readLoss_263 ?_
                refine v_bipush hC dX12_readLoss_266 (v := 6) (by decide) ?_
                refine v_dup2 hC dX12_readLoss_268 rfl rfl ?_
                have l6_4084 : (g_4042 6).toInt = (g_f 6).toInt := congrArg Int32.toInt ag_4049.2.1
                refine v_iald hC m_22 hf_4061 (vp_in_iff.mpr (by decide)) (v := g_4042 6) rfl dX12_readLoss_269 ?_
                refine v_iconst hC dX12_readLoss_270 (v := 1) (by decide) ?_
                obtain ⟨v_4085, h_4086⟩ : ∃ v9 : Int32, (g_4042 6) + 1 = v9 := ⟨_, rfl⟩
                refine v_iadd hC dX12_readLoss_271 h_4086 ?_
                have h_4087 := add_v h_4086 (by first | omega | (simp only [Int32.lt_iff_toInt_lt, Int32.le_iff_toInt_le, Int32.reduceToInt, ← Int32.toInt_inj, true_and, and_true, or_true, true_or, false_or, or_false, false_and, and_false, not_true_eq_false, not_false_eq_true] <;> omega)) (by first | omega | (simp only [Int32.lt_iff_toInt_lt, Int32.le_iff_toInt_le, Int32.reduceToInt, ← Int32.toInt_inj, true_and, and_true, or_true, true_or, false_or, or_false, false_and, and_false, not_true_eq_false, not_false_eq_true] <;> omega))
                try simp only [Int32.reduceToInt] at h_4087
                refine v_iast hC m_22 hf_4061 (vp_in_iff.mpr (by decide)) dX12_readLoss_272 (fun f_4088 hf_4089 hk_4090 => ?_)
                have hW_4092 := hW_4056.up hf_4089 hk_4090 t_23 ⟨_, rfl, (ok_4044.up (i := 6) (by decide) (fun q1 q2 => absurd (And.intro q1 q2) (by decide)) (fun k9 q1 q2 q3 => by simp only [Int32.reduceToInt] at q3; omega))⟩
                obtain ⟨g_4091, hf_4089, ok_4093, eg_4094⟩ : ∃ g9, f_4088 (q 14) = aI E 2076 g9 ∧ FOK g9 ∧ g9 = upd g_4042 (6 : Int32).toNatClampNeg v_4085 := ⟨_, hf_4089, (ok_4044.up (i := 6) (by decide) (fun q1 q2 => absurd (And.intro q1 q2) (by decide)) (fun k9 q1 q2 q3 => by simp only [Int32.reduceToInt] at q3; omega)), rfl⟩
                have hf_4095 := (hk_4090 a_0 (ne_kd e_4062 hf_4061 rfl)).trans e_4062
                have fr_4096 := FR.w hk_4090 hf_4061 (k := 2176) rfl
                have ln6_4097 := FOK.n6 ag_4049.1 eg_4094
                have ln6_4097_t : (g_4091 6).toInt = v_4085.toInt := congrArg Int32.toInt ln6_4097.2
                have fe_4098 : fld (f_4088 a_0) 12 = (v_4075 : Int32).toInt := by rw [hf_4095]; rfl
                have fe_4099 : fld (f_4088 a_0) 8 = (v_4068 : Int32).toInt := by rw [hf_4095]; rfl
                have fe_4100 : fld (f_4088 a_0) 12 = (v_4075 : Int32).toInt := by rw [hf_4095]; rfl
                have fe_4101 : fld (f_4088 a_0) 20 = (v_4079 : Int32).toInt := by rw [hf_4095]; rfl
                exact hR _ _ _ _ _ _ dX12_readLoss_273 (Nat.le_of_ble_eq_true rfl) (Nat.le_of_ble_eq_true rfl) ⟨rfl, hW_4092, (((((((((hF_3168.tr hF_3209).tr fr_3943).tr hF_3957).tr fr_3993).tr hF_4012).tr fr_4047).tr hF_4057).tr fr_4096).mono rfl), ⟨_, hf_4089, ln6_4097.1, (by omega), (by rw [fe_4098]; by_cases q9 : v_4075.toInt = 0; exact .inr (LO.fin hLO ag_4049 eg_4094 (by omega) (by omega) (fun q8 => by omega)); exact .inl q9)⟩, (by simp only [fe_4099, fe_4100, mz_43, mz_44, true_and, and_true, or_true, true_or, false_or, or_false, false_and, and_false, not_true_eq_false, not_false_eq_true] <;> first | omega | (simp only [Int32.lt_iff_toInt_lt, Int32.le_iff_toInt_le, Int32.reduceToInt, ← Int32.toInt_inj, true_and, and_true, or_true, true_or, false_or, or_false, false_and, and_false, not_true_eq_false, not_false_eq_true] <;> omega)), (by simp only [fe_4101, mz_45, true_and, and_true, or_true, true_or, false_or, or_false, false_and, and_false, not_true_eq_false, not_false_eq_true] <;> first | omega | (simp only [Int32.lt_iff_toInt_lt, Int32.le_iff_toInt_le, Int32.reduceToInt, ← Int32.toInt_inj, true_and, and_true, or_true, true_or, false_or, or_false, false_and, and_false, not_true_eq_false, not_false_eq_true] <;> omega))⟩
              · simp only [Int32.lt_iff_toInt_lt, Int32.le_iff_toInt_le, Int32.reduceToInt, ← Int32.toInt_inj] at h_3934
                refine v_aload_n hC dX12_readLoss_131 rfl ?_
                refine v_vv hC (rest := []) m_1 e_3213 rfl mi_X12_advance ms_X12_advance (p_X12_advance hW_3208 k_0) mx_X12_advance ml_X12_156 (by decide) rfl (cells1 := 0) (slots1 := 0) (by decide) (by decide) (Nat.le_of_ble_eq_true rfl) (Nat.le_of_ble_eq_true rfl) rfl (Nat.le_of_ble_eq_true rfl) dX12_readLoss_132 (fun L_4103 f_4104 h_4105 => ?_)
                obtain ⟨rfl, hW_4109, hF_4110, x_4106, x_4107, x_4108, -⟩ := h_4105
                have fe_4111 : fld (f_3204 a_0) 8 = (v_3219 : Int32).toInt := by rw [e_3213]; rfl
                have fe_4112 : fld (f_3204 a_0) 12 = (v_3226 : Int32).toInt := by rw [e_3213]; rfl
                have hf_4113 := hF_4110.at hf_3212 rfl
                obtain ⟨v_4115, v_4116, v_4118, v_4120, v_4122, v_4124, v_4126, v_4127, v_4128, v_4129, v_4131, e_4114, b_4117, b_4119, b_4121, b_4123, b_4125, b_4130, b_4132⟩ := hW_4109.at m_1 t_2
                have fe_4133 : fld (f_4104 a_0) 8 = (v_4120 : Int32).toInt := by rw [e_4114]; rfl
                have fe_4134 : fld (f_4104 a_0) 9 = (v_4122 : Int32).toInt := by rw [e_4114]; rfl
                have fe_4135 : fld (f_4104 a_0) 10 = (v_4124 : Int32).toInt := by rw [e_4114]; rfl
                have fe_4136 : fld (f_4104 a_0) 12 = (v_4127 : Int32).toInt := by rw [e_4114]; rfl
                rw [fe_4111, fe_4134, fe_4133] at x_4106
                rw [fe_4135, fe_4134, fe_4133] at x_4107
                rw [fe_4136, fe_4112] at x_4108
                clear fe_4111 fe_4112 fe_4133 fe_4134 fe_4135 fe_4136
                refine v_aload_n hC dX12_readLoss_135 rfl ?_
                refine v_get hC fl_X12_34 m_1 e_4114 rfl dX12_readLoss_136 ?_
                refine v_iload_n hC dX12_readLoss_139 rfl ?_
                refine v_iload_n hC dX12_readLoss_140 rfl ?_
                refine v_if_eq_t hC dX12_readLoss_141 (tgt := 148) (by decide) (by first | omega | (simp only [Int32.lt_iff_toInt_lt, Int32.le_iff_toInt_le, Int32.reduceToInt, ← Int32.toInt_inj, true_and, and_true, or_true, true_or, false_or, or_false, false_and, and_false, not_true_eq_false, not_false_eq_true] <;> omega)) ?_
                refine v_iconst hC dX12_readLoss_148 (v := 0) (by decide) ?_
                refine v_iast hC m_22 hf_4113 (vp_in_iff.mpr (by first | omega | (simp only [Int32.lt_iff_toInt_lt, Int32.le_iff_toInt_le, Int32.reduceToInt, ← Int32.toInt_inj, true_and, and_true, or_true, true_or, false_or, or_false, false_and, and_false, not_true_eq_false, not_false_eq_true] <;> omega))) dX12_readLoss_149 (fun f_4137 hf_4138 hk_4139 => ?_)
                have hW_4141 := hW_4109.up hf_4138 hk_4139 t_23 ⟨_, rfl, (o_f.up (by first | omega | (simp only [Int32.lt_iff_toInt_lt, Int32.le_iff_toInt_le, Int32.reduceToInt, ← Int32.toInt_inj, true_and, and_true, or_true, true_or, false_or, or_false, false_and, and_false, not_true_eq_false, not_false_eq_true] <;> omega)) (fun q1 q2 => (by first | omega | (simp only [Int32.lt_iff_toInt_lt, Int32.le_iff_toInt_le, Int32.reduceToInt, ← Int32.toInt_inj] at *; omega))) (fun k9 q1 q2 q3 => (by first | omega | (simp only [Int32.lt_iff_toInt_lt, Int32.le_iff_toInt_le, Int32.reduceToInt, ← Int32.toInt_inj] at *; omega))))⟩
                obtain ⟨g_4140, hf_4138, ok_4142, eg_4143⟩ : ∃ g9, f_4137 (q 14) = aI E 2076 g9 ∧ FOK g9 ∧ g9 = upd g_f (v_49 : Int32).toNatClampNeg 0 := ⟨_, hf_4138, (o_f.up (by first | omega | (simp only [Int32.lt_iff_toInt_lt, Int32.le_iff_toInt_le, Int32.reduceToInt, ← Int32.toInt_inj, true_and, and_true, or_true, true_or, false_or, or_false, false_and, and_false, not_true_eq_false, not_false_eq_true] <;> omega)) (fun q1 q2 => (by first | omega | (simp only [Int32.lt_iff_toInt_lt, Int32.le_iff_toInt_le, Int32.reduceToInt, ← Int32.toInt_inj] at *; omega))) (fun k9 q1 q2 q3 => (by first | omega | (simp only [Int32.lt_iff_toInt_lt, Int32.le_iff_toInt_le, Int32.reduceToInt, ← Int32.toInt_inj] at *; omega)))), rfl⟩
                have hf_4144 := (hk_4139 a_0 (ne_kd e_4114 hf_4113 rfl)).trans e_4114
                have fr_4145 := FR.w hk_4139 hf_4113 (k := 2176) rfl
                have lk_4146 := lk_at (g0 := g_f) eg_4143 (by omega) (by omega)
                have ag_4147 := (AG.rf o_f).st eg_4143 (by omega) (by omega)
                try simp only [Int32.reduceToInt] at lk_4146
                refine v_aload_n hC dX12_readLoss_150 rfl ?_
                refine v_get hC fl_X12_34 m_1 hf_4144 rfl dX12_readLoss_151 ?_
                refine v_iload_n hC dX12_readLoss_154 rfl ?_
                refine v_iconst hC dX12_readLoss_155 (v := 1) (by decide) ?_
                obtain ⟨v_4148, h_4149⟩ : ∃ v9 : Int32, v_49 + 1 = v9 := ⟨_, rfl⟩
                refine v_iadd hC dX12_readLoss_156 h_4149 ?_
                have h_4150 := add_v h_4149 (by first | omega | (simp only [Int32.lt_iff_toInt_lt, Int32.le_iff_toInt_le, Int32.reduceToInt, ← Int32.toInt_inj, true_and, and_true, or_true, true_or, false_or, or_false, false_and, and_false, not_true_eq_false, not_false_eq_true] <;> omega)) (by first | omega | (simp only [Int32.lt_iff_toInt_lt, Int32.le_iff_toInt_le, Int32.reduceToInt, ← Int32.toInt_inj, true_and, and_true, or_true, true_or, false_or, or_false, false_and, and_false, not_true_eq_false, not_false_eq_true] <;> omega))
                try simp only [Int32.reduceToInt] at h_4150
                refine v_aload_n hC dX12_readLoss_157 rfl ?_
                refine v_iconst hC dX12_readLoss_158 (v := 0) (by decide) ?_
                refine v_bipush hC dX12_readLoss_159 (v := 15) (by decide) ?_
                refine v_vi hC (rest := [.int v_4148, .ref (q 14)]) m_1 hf_4144 rfl mi_X12_number ms_X12_number (p_X12_number hW_4141 k_0) mx_X12_number ml_X12_170 (by decide) rfl (cells1 := 0) (slots1 := 0) (by decide) (by decide) (Nat.le_of_ble_eq_true rfl) (Nat.le_of_ble_eq_true rfl) rfl (Nat.le_of_ble_eq_true rfl) dX12_readLoss_161 (fun r_4151 L_4152 f_4153 h_4154 => ?_)
                obtain ⟨rfl, hW_4158, hF_4159, x_4155, x_4156, x_4157, -, -⟩ := h_4154
                have fe_4160 : fld (f_4137 a_0) 8 = (v_4120 : Int32).toInt := by rw [hf_4144]; rfl
                have fe_4161 : fld (f_4137 a_0) 10 = (v_4124 : Int32).toInt := by rw [hf_4144]; rfl
                have fe_4162 : fld (f_4137 a_0) 12 = (v_4127 : Int32).toInt := by rw [hf_4144]; rfl
                have hf_4163 := hF_4159.at hf_4138 rfl
                obtain ⟨v_4165, v_4166, v_4168, v_4170, v_4172, v_4174, v_4176, v_4177, v_4178, v_4179, v_4181, e_4164, b_4167, b_4169, b_4171, b_4173, b_4175, b_4180, b_4182⟩ := hW_4158.at m_1 t_2
                have fe_4183 : fld (f_4153 a_0) 8 = (v_4170 : Int32).toInt := by rw [e_4164]; rfl
                have fe_4184 : fld (f_4153 a_0) 9 = (v_4172 : Int32).toInt := by rw [e_4164]; rfl
                have fe_4185 : fld (f_4153 a_0) 10 = (v_4174 : Int32).toInt := by rw [e_4164]; rfl
                have fe_4186 : fld (f_4153 a_0) 12 = (v_4177 : Int32).toInt := by rw [e_4164]; rfl
                rw [fe_4186, fe_4162] at x_4155
                rw [fe_4186, fe_4161, fe_4160, fe_4184, fe_4183] at x_4156
                rw [fe_4186, fe_4185, fe_4184, fe_4183] at x_4157
                clear fe_4160 fe_4161 fe_4162 fe_4183 fe_4184 fe_4185 fe_4186
                try simp only [Int32.reduceToInt, Int64.reduceToInt] at x_4155
                try simp only [Int32.reduceToInt, Int64.reduceToInt] at x_4156
                try simp only [Int32.reduceToInt, Int64.reduceToInt] at x_4157
                refine v_iast hC m_22 hf_4163 (vp_in_iff.mpr (by first | omega | (simp only [Int32.lt_iff_toInt_lt, Int32.le_iff_toInt_le, Int32.reduceToInt, ← Int32.toInt_inj, true_and, and_true, or_true, true_or, false_or, or_false, false_and, and_false, not_true_eq_false, not_false_eq_true] <;> omega))) dX12_readLoss_164 (fun f_4187 hf_4188 hk_4189 => ?_)
                have hW_4191 := hW_4158.up hf_4188 hk_4189 t_23 ⟨_, rfl, (ok_4142.up (by first | omega | (simp only [Int32.lt_iff_toInt_lt, Int32.le_iff_toInt_le, Int32.reduceToInt, ← Int32.toInt_inj, true_and, and_true, or_true, true_or, false_or, or_false, false_and, and_false, not_true_eq_false, not_false_eq_true] <;> omega)) (fun q1 q2 => (by first | omega | (simp only [Int32.lt_iff_toInt_lt, Int32.le_iff_toInt_le, Int32.reduceToInt, ← Int32.toInt_inj] at *; omega))) (fun k9 q1 q2 q3 => (by first | omega | (simp only [Int32.lt_iff_toInt_lt, Int32.le_iff_toInt_le, Int32.reduceToInt, ← Int32.toInt_inj] at *; omega))))⟩
                obtain ⟨g_4190, hf_4188, ok_4192, eg_4193⟩ : ∃ g9, f_4187 (q 14) = aI E 2076 g9 ∧ FOK g9 ∧ g9 = upd g_4140 (v_4148 : Int32).toNatClampNeg r_4151 := ⟨_, hf_4188, (ok_4142.up (by first | omega | (simp only [Int32.lt_iff_toInt_lt, Int32.le_iff_toInt_le, Int32.reduceToInt, ← Int32.toInt_inj, true_and, and_true, or_true, true_or, false_or, or_false, false_and, and_false, not_true_eq_false, not_false_eq_true] <;> omega)) (fun q1 q2 => (by first | omega | (simp only [Int32.lt_iff_toInt_lt, Int32.le_iff_toInt_le, Int32.reduceToInt, ← Int32.toInt_inj] at *; omega))) (fun k9 q1 q2 q3 => (by first | omega | (simp only [Int32.lt_iff_toInt_lt, Int32.le_iff_toInt_le, Int32.reduceToInt, ← Int32.toInt_inj] at *; omega)))), rfl⟩
                have hf_4194 := (hk_4189 a_0 (ne_kd e_4164 hf_4163 rfl)).trans e_4164
                have fr_4195 := FR.w hk_4189 hf_4163 (k := 2176) rfl
                have lk_4196 := lf_at (g0 := g_f) eg_4193 (by omega) (by omega)
                have ag_4197 := ag_4147.st eg_4193 (by omega) (by omega)
                try simp only [Int32.reduceToInt] at lk_4196
                refine v_aload_n hC dX12_readLoss_165 rfl ?_
                refine v_get hC fl_X12_34 m_1 hf_4194 rfl dX12_readLoss_166 ?_
                refine v_iload_n hC dX12_readLoss_169 rfl ?_
                refine v_iconst hC dX12_readLoss_170 (v := 2) (by decide) ?_
                obtain ⟨v_4198, h_4199⟩ : ∃ v9 : Int32, v_49 + 2 = v9 := ⟨_, rfl⟩
                refine v_iadd hC dX12_readLoss_171 h_4199 ?_
                have h_4200 := add_v h_4199 (by first | omega | (simp only [Int32.lt_iff_toInt_lt, Int32.le_iff_toInt_le, Int32.reduceToInt, ← Int32.toInt_inj, true_and, and_true, or_true, true_or, false_or, or_false, false_and, and_false, not_true_eq_false, not_false_eq_true] <;> omega)) (by first | omega | (simp only [Int32.lt_iff_toInt_lt, Int32.le_iff_toInt_le, Int32.reduceToInt, ← Int32.toInt_inj, true_and, and_true, or_true, true_or, false_or, or_false, false_and, and_false, not_true_eq_false, not_false_eq_true] <;> omega))
                try simp only [Int32.reduceToInt] at h_4200
                refine v_aload_n hC dX12_readLoss_172 rfl ?_
                refine v_ldcwS hC sr_X12_295 dX12_readLoss_173 ?_
                refine v_aload_n hC dX12_readLoss_176 rfl ?_
                refine v_get hC fl_X12_34 m_1 hf_4194 rfl dX12_readLoss_177 ?_
                refine v_iload_n hC dX12_readLoss_180 rfl ?_
                refine v_iconst hC dX12_readLoss_181 (v := 1) (by decide) ?_
                obtain ⟨v_4201, h_4202⟩ : ∃ v9 : Int32, v_49 + 1 = v9 := ⟨_, rfl⟩
                refine v_iadd hC dX12_readLoss_182 h_4202 ?_
                have h_4203 := add_v h_4202 (by first | omega | (simp only [Int32.lt_iff_toInt_lt, Int32.le_iff_toInt_le, Int32.reduceToInt, ← Int32.toInt_inj, true_and, and_true, or_true, true_or, false_or, or_false, false_and, and_false, not_true_eq_false, not_false_eq_true] <;> omega)) (by first | omega | (simp only [Int32.lt_iff_toInt_lt, Int32.le_iff_toInt_le, Int32.reduceToInt, ← Int32.toInt_inj, true_and, and_true, or_true, true_or, false_or, or_false, false_and, and_false, not_true_eq_false, not_false_eq_true] <;> omega))
                try simp only [Int32.reduceToInt] at h_4203
                obtain ⟨v_4204, h_4205⟩ : ∃ v9 : Int32, g_4190 (v_4201 : Int32).toNatClampNeg = v9 := ⟨_, rfl⟩
                refine v_iald hC m_22 hf_4188 (vp_in_iff.mpr (by first | omega | (simp only [Int32.lt_iff_toInt_lt, Int32.le_iff_toInt_le, Int32.reduceToInt, ← Int32.toInt_inj, true_and, and_true, or_true, true_or, false_or, or_false, false_and, and_false, not_true_eq_false, not_false_eq_true] <;> omega))) h_4205 dX12_readLoss_183 ?_
                refine v_bipush hC dX12_readLoss_184 (v := 15) (by decide) ?_
                refine v_vi hC (rest := [.int v_4198, .ref (q 14)]) m_1 hf_4194 rfl mi_X12_told ms_X12_told (p_X12_told hW_4191 k_0 (by decide)) mx_X12_told ml_X12_189 (by decide) rfl (cells1 := 0) (slots1 := 0) (by decide) (by decide) (Nat.le_of_ble_eq_true rfl) (Nat.le_of_ble_eq_true rfl) rfl (Nat.le_of_ble_eq_true rfl) dX12_readLoss_186 (fun r_4206 L_4207 f_4208 h_4209 => ?_)
                obtain ⟨rfl, hW_4213, hF_4214, x_4210, x_4211, x_4212, -, -⟩ := h_4209
                have fe_4215 : fld (f_4187 a_0) 8 = (v_4170 : Int32).toInt := by rw [hf_4194]; rfl
                have fe_4216 : fld (f_4187 a_0) 12 = (v_4177 : Int32).toInt := by rw [hf_4194]; rfl
                have hf_4217 := hF_4214.at hf_4188 rfl
                obtain ⟨v_4219, v_4220, v_4222, v_4224, v_4226, v_4228, v_4230, v_4231, v_4232, v_4233, v_4235, e_4218, b_4221, b_4223, b_4225, b_4227, b_4229, b_4234, b_4236⟩ := hW_4213.at m_1 t_2
                have fe_4237 : fld (f_4208 a_0) 8 = (v_4224 : Int32).toInt := by rw [e_4218]; rfl
                have fe_4238 : fld (f_4208 a_0) 9 = (v_4226 : Int32).toInt := by rw [e_4218]; rfl
                have fe_4239 : fld (f_4208 a_0) 10 = (v_4228 : Int32).toInt := by rw [e_4218]; rfl
                have fe_4240 : fld (f_4208 a_0) 12 = (v_4231 : Int32).toInt := by rw [e_4218]; rfl
                rw [fe_4240, fe_4216] at x_4210
                rw [fe_4240, fe_4215, fe_4238, fe_4237] at x_4211
                rw [fe_4240, fe_4239, fe_4238, fe_4237] at x_4212
                clear fe_4215 fe_4216 fe_4237 fe_4238 fe_4239 fe_4240
                try simp only [Int32.reduceToInt, Int64.reduceToInt] at x_4210
                try simp only [Int32.reduceToInt, Int64.reduceToInt] at x_4211
                try simp only [Int32.reduceToInt, Int64.reduceToInt] at x_4212
                refine v_iast hC m_22 hf_4217 (vp_in_iff.mpr (by first | omega | (simp only [Int32.lt_iff_toInt_lt, Int32.le_iff_toInt_le, Int32.reduceToInt, ← Int32.toInt_inj, true_and, and_true, or_true, true_or, false_or, or_false, false_and, and_false, not_true_eq_false, not_false_eq_true] <;> omega))) dX12_readLoss_189 (fun f_4241 hf_4242 hk_4243 => ?_)
                have hW_4245 := hW_4213.up hf_4242 hk_4243 t_23 ⟨_, rfl, (ok_4192.up (by first | omega | (simp only [Int32.lt_iff_toInt_lt, Int32.le_iff_toInt_le, Int32.reduceToInt, ← Int32.toInt_inj, true_and, and_true, or_true, true_or, false_or, or_false, false_and, and_false, not_true_eq_false, not_false_eq_true] <;> omega)) (fun q1 q2 => (by first | omega | (simp only [Int32.lt_iff_toInt_lt, Int32.le_iff_toInt_le, Int32.reduceToInt, ← Int32.toInt_inj] at *; omega))) (fun k9 q1 q2 q3 => (by first | omega | (simp only [Int32.lt_iff_toInt_lt, Int32.le_iff_toInt_le, Int32.reduceToInt, ← Int32.toInt_inj] at *; omega))))⟩
                obtain ⟨g_4244, hf_4242, ok_4246, eg_4247⟩ : ∃ g9, f_4241 (q 14) = aI E 2076 g9 ∧ FOK g9 ∧ g9 = upd g_4190 (v_4198 : Int32).toNatClampNeg r_4206 := ⟨_, hf_4242, (ok_4192.up (by first | omega | (simp only [Int32.lt_iff_toInt_lt, Int32.le_iff_toInt_le, Int32.reduceToInt, ← Int32.toInt_inj, true_and, and_true, or_true, true_or, false_or, or_false, false_and, and_false, not_true_eq_false, not_false_eq_true] <;> omega)) (fun q1 q2 => (by first | omega | (simp only [Int32.lt_iff_toInt_lt, Int32.le_iff_toInt_le, Int32.reduceToInt, ← Int32.toInt_inj] at *; omega))) (fun k9 q1 q2 q3 => (by first | omega | (simp only [Int32.lt_iff_toInt_lt, Int32.le_iff_toInt_le, Int32.reduceToInt, ← Int32.toInt_inj] at *; omega)))), rfl⟩
                have hf_4248 := (hk_4243 a_0 (ne_kd e_4218 hf_4217 rfl)).trans e_4218
                have fr_4249 := FR.w hk_4243 hf_4217 (k := 2176) rfl
                have lk_4250 := l2_at (g0 := g_f) eg_4247 (by omega) (by omega)
                have ag_4251 := ag_4197.st eg_4247 (by omega) (by omega)
                try simp only [Int32.reduceToInt] at lk_4250
                refine v_goto hC dX12_readLoss_190 (tgt := 258) (by decide) ?_
                refine v_aload_n hC dX12_readLoss_258 rfl ?_
                refine v_vv hC (rest := []) m_1 hf_4248 rfl mi_X12_ends ms_X12_ends (p_X12_ends hW_4245 k_0) mx_X12_ends ml_X12_178 (by decide) rfl (cells1 := 0) (slots1 := 0) (by decide) (by decide) (Nat.le_of_ble_eq_true rfl) (Nat.le_of_ble_eq_true rfl) rfl (Nat.le_of_ble_eq_true rfl) dX12_readLoss_259 (fun L_4253 f_4254 h_4255 => ?_)
                obtain ⟨rfl, hW_4258, hF_4259, x_4256, x_4257, -, -⟩ := h_4255
                have fe_4260 : fld (f_4241 a_0) 8 = (v_4224 : Int32).toInt := by rw [hf_4248]; rfl
                have fe_4261 : fld (f_4241 a_0) 10 = (v_4228 : Int32).toInt := by rw [hf_4248]; rfl
                have fe_4262 : fld (f_4241 a_0) 12 = (v_4231 : Int32).toInt := by rw [hf_4248]; rfl
                have hf_4263 := hF_4259.at hf_4242 rfl
                obtain ⟨v_4265, v_4266, v_4268, v_4270, v_4272, v_4274, v_4276, v_4277, v_4278, v_4279, v_4281, e_4264, b_4267, b_4269, b_4271, b_4273, b_4275, b_4280, b_4282⟩ := hW_4258.at m_1 t_2
                have fe_4283 : fld (f_4254 a_0) 8 = (v_4270 : Int32).toInt := by rw [e_4264]; rfl
                have fe_4284 : fld (f_4254 a_0) 9 = (v_4272 : Int32).toInt := by rw [e_4264]; rfl
                have fe_4285 : fld (f_4254 a_0) 12 = (v_4277 : Int32).toInt := by rw [e_4264]; rfl
                rw [fe_4285, fe_4262] at x_4256
                rw [fe_4285, fe_4261, fe_4260, fe_4284, fe_4283] at x_4257
                clear fe_4260 fe_4261 fe_4262 fe_4283 fe_4284 fe_4285
                refine v_aload_n hC dX12_readLoss_262 rfl ?_
                refine v_get hC fl_X12_34 m_1 e_4264 rfl dX12_readLoss_263 ?_
                refine v_bipush hC dX12_readLoss_266 (v := 6) (by decide) ?_
                refine v_dup2 hC dX12_readLoss_268 rfl rfl ?_
                have l6_4286 : (g_4244 6).toInt = (g_f 6).toInt := congrArg Int32.toInt ag_4251.2.1
                refine v_iald hC m_22 hf_4263 (vp_in_iff.mpr (by decide)) (v := g_4244 6) rfl dX12_readLoss_269 ?_
                refine v_iconst hC dX12_readLoss_270 (v := 1) (by decide) ?_
                obtain ⟨v_4287, h_4288⟩ : ∃ v9 : Int32, (g_4244 6) + 1 = v9 := ⟨_, rfl⟩
                refine v_iadd hC dX12_readLoss_271 h_4288 ?_
                have h_4289 := add_v h_4288 (by first | omega | (simp only [Int32.lt_iff_toInt_lt, Int32.le_iff_toInt_le, Int32.reduceToInt, ← Int32.toInt_inj, true_and, and_true, or_true, true_or, false_or, or_false, false_and, and_false, not_true_eq_false, not_false_eq_true] <;> omega)) (by first | omega | (simp only [Int32.lt_iff_toInt_lt, Int32.le_iff_toInt_le, Int32.reduceToInt, ← Int32.toInt_inj, true_and, and_true, or_true, true_or, false_or, or_false, false_and, and_false, not_true_eq_false, not_false_eq_true] <;> omega))
                try simp only [Int32.reduceToInt] at h_4289
                refine v_iast hC m_22 hf_4263 (vp_in_iff.mpr (by decide)) dX12_readLoss_272 (fun f_4290 hf_4291 hk_4292 => ?_)
                have hW_4294 := hW_4258.up hf_4291 hk_4292 t_23 ⟨_, rfl, (ok_4246.up (i := 6) (by decide) (fun q1 q2 => absurd (And.intro q1 q2) (by decide)) (fun k9 q1 q2 q3 => by simp only [Int32.reduceToInt] at q3; omega))⟩
                obtain ⟨g_4293, hf_4291, ok_4295, eg_4296⟩ : ∃ g9, f_4290 (q 14) = aI E 2076 g9 ∧ FOK g9 ∧ g9 = upd g_4244 (6 : Int32).toNatClampNeg v_4287 := ⟨_, hf_4291, (ok_4246.up (i := 6) (by decide) (fun q1 q2 => absurd (And.intro q1 q2) (by decide)) (fun k9 q1 q2 q3 => by simp only [Int32.reduceToInt] at q3; omega)), rfl⟩
                have hf_4297 := (hk_4292 a_0 (ne_kd e_4264 hf_4263 rfl)).trans e_4264
                have fr_4298 := FR.w hk_4292 hf_4263 (k := 2176) rfl
                have ln6_4299 := FOK.n6 ag_4251.1 eg_4296
                have ln6_4299_t : (g_4293 6).toInt = v_4287.toInt := congrArg Int32.toInt ln6_4299.2
                have fe_4300 : fld (f_4290 a_0) 12 = (v_4277 : Int32).toInt := by rw [hf_4297]; rfl
                have fe_4301 : fld (f_4290 a_0) 8 = (v_4270 : Int32).toInt := by rw [hf_4297]; rfl
                have fe_4302 : fld (f_4290 a_0) 12 = (v_4277 : Int32).toInt := by rw [hf_4297]; rfl
                have fe_4303 : fld (f_4290 a_0) 20 = (v_4281 : Int32).toInt := by rw [hf_4297]; rfl
                exact hR _ _ _ _ _ _ dX12_readLoss_273 (Nat.le_of_ble_eq_true rfl) (Nat.le_of_ble_eq_true rfl) ⟨rfl, hW_4294, ((((((((((hF_3168.tr hF_3209).tr hF_4110).tr fr_4145).tr hF_4159).tr fr_4195).tr hF_4214).tr fr_4249).tr hF_4259).tr fr_4298).mono rfl), ⟨_, hf_4291, ln6_4299.1, (by omega), (by rw [fe_4300]; by_cases q9 : v_4277.toInt = 0; exact .inr (LO.fin hLO ag_4251 eg_4296 (by omega) (by omega) (fun q8 => by omega)); exact .inl q9)⟩, (by simp only [fe_4301, fe_4302, mz_43, mz_44, true_and, and_true, or_true, true_or, false_or, or_false, false_and, and_false, not_true_eq_false, not_false_eq_true] <;> first | omega | (simp only [Int32.lt_iff_toInt_lt, Int32.le_iff_toInt_le, Int32.reduceToInt, ← Int32.toInt_inj, true_and, and_true, or_true, true_or, false_or, or_false, false_and, and_false, not_true_eq_false, not_false_eq_true] <;> omega)), (by simp only [fe_4303, mz_45, true_and, and_true, or_true, true_or, false_or, or_false, false_and, and_false, not_true_eq_false, not_false_eq_true] <;> first | omega | (simp only [Int32.lt_iff_toInt_lt, Int32.le_iff_toInt_le, Int32.reduceToInt, ← Int32.toInt_inj, true_and, and_true, or_true, true_or, false_or, or_false, false_and, and_false, not_true_eq_false, not_false_eq_true] <;> omega))⟩
            · simp only [Int32.lt_iff_toInt_lt, Int32.le_iff_toInt_le, Int32.reduceToInt, ← Int32.toInt_inj] at h_3924
              refine v_aload_n hC dX12_readLoss_119 rfl ?_
              refine v_iconst hC dX12_readLoss_120 (v := 1) (by decide) ?_
              refine v_vv hC (rest := []) m_1 e_3213 rfl mi_X12_errs ms_X12_errs (p_X12_errs hW_3208 k_0 (by decide)) mx_X12_errs ml_X12_162 (by decide) rfl (cells1 := 0) (slots1 := 0) (by decide) (by decide) (Nat.le_of_ble_eq_true rfl) (Nat.le_of_ble_eq_true rfl) rfl (Nat.le_of_ble_eq_true rfl) dX12_readLoss_121 (fun L_4305 f_4306 h_4307 => ?_)
              obtain ⟨rfl, hW_4310, hF_4311, x_4308, x_4309, -, -, -⟩ := h_4307
              have fe_4312 : fld (f_3204 a_0) 8 = (v_3219 : Int32).toInt := by rw [e_3213]; rfl
              have hf_4313 := hF_4311.at hf_3212 rfl
              obtain ⟨v_4315, v_4316, v_4318, v_4320, v_4322, v_4324, v_4326, v_4327, v_4328, v_4329, v_4331, e_4314, b_4317, b_4319, b_4321, b_4323, b_4325, b_4330, b_4332⟩ := hW_4310.at m_1 t_2
              have fe_4333 : fld (f_4306 a_0) 8 = (v_4320 : Int32).toInt := by rw [e_4314]; rfl
              have fe_4334 : fld (f_4306 a_0) 12 = (v_4327 : Int32).toInt := by rw [e_4314]; rfl
              rw [fe_4334] at x_4308
              rw [fe_4333, fe_4312] at x_4309
              clear fe_4312 fe_4333 fe_4334
              refine v_aload_n hC dX12_readLoss_124 rfl ?_
              refine v_vi hC (rest := []) m_1 e_4314 rfl mi_X12_good ms_X12_good (p_X12_good hW_4310 k_0) mx_X12_good ml_X12_139 (by decide) rfl (cells1 := 0) (slots1 := 0) (by decide) (by decide) (Nat.le_of_ble_eq_true rfl) (Nat.le_of_ble_eq_true rfl) rfl (Nat.le_of_ble_eq_true rfl) dX12_readLoss_125 (fun r_4335 L_4336 f_4337 h_4338 => ?_)
              obtain ⟨rfl, rfl, b_4339, x_4340⟩ := h_4338
              have fe_4343 : fld (f_4306 a_0) 12 = (v_4327 : Int32).toInt := by rw [e_4314]; rfl
              rw [fe_4343] at x_4340
              clear fe_4343
              try simp only [Int32.reduceToInt, Int64.reduceToInt] at x_4340
              refine v_if_eq hC dX12_readLoss_128 (tgt := 135) (by decide) (fun h_4344 => ?_) (fun h_4344 => ?_)
              · simp only [Int32.lt_iff_toInt_lt, Int32.le_iff_toInt_le, Int32.reduceToInt, ← Int32.toInt_inj] at h_4344
                refine v_aload_n hC dX12_readLoss_135 rfl ?_
                refine v_get hC fl_X12_34 m_1 e_4314 rfl dX12_readLoss_136 ?_
                refine v_iload_n hC dX12_readLoss_139 rfl ?_
                refine v_iload_n hC dX12_readLoss_140 rfl ?_
                refine v_if_eq_t hC dX12_readLoss_141 (tgt := 148) (by decide) (by first | omega | (simp only [Int32.lt_iff_toInt_lt, Int32.le_iff_toInt_le, Int32.reduceToInt, ← Int32.toInt_inj, true_and, and_true, or_true, true_or, false_or, or_false, false_and, and_false, not_true_eq_false, not_false_eq_true] <;> omega)) ?_
                refine v_iconst hC dX12_readLoss_148 (v := 0) (by decide) ?_
                refine v_iast hC m_22 hf_4313 (vp_in_iff.mpr (by first | omega | (simp only [Int32.lt_iff_toInt_lt, Int32.le_iff_toInt_le, Int32.reduceToInt, ← Int32.toInt_inj, true_and, and_true, or_true, true_or, false_or, or_false, false_and, and_false, not_true_eq_false, not_false_eq_true] <;> omega))) dX12_readLoss_149 (fun f_4345 hf_4346 hk_4347 => ?_)
                have hW_4349 := hW_4310.up hf_4346 hk_4347 t_23 ⟨_, rfl, (o_f.up (by first | omega | (simp only [Int32.lt_iff_toInt_lt, Int32.le_iff_toInt_le, Int32.reduceToInt, ← Int32.toInt_inj, true_and, and_true, or_true, true_or, false_or, or_false, false_and, and_false, not_true_eq_false, not_false_eq_true] <;> omega)) (fun q1 q2 => (by first | omega | (simp only [Int32.lt_iff_toInt_lt, Int32.le_iff_toInt_le, Int32.reduceToInt, ← Int32.toInt_inj] at *; omega))) (fun k9 q1 q2 q3 => (by first | omega | (simp only [Int32.lt_iff_toInt_lt, Int32.le_iff_toInt_le, Int32.reduceToInt, ← Int32.toInt_inj] at *; omega))))⟩
                obtain ⟨g_4348, hf_4346, ok_4350, eg_4351⟩ : ∃ g9, f_4345 (q 14) = aI E 2076 g9 ∧ FOK g9 ∧ g9 = upd g_f (v_49 : Int32).toNatClampNeg 0 := ⟨_, hf_4346, (o_f.up (by first | omega | (simp only [Int32.lt_iff_toInt_lt, Int32.le_iff_toInt_le, Int32.reduceToInt, ← Int32.toInt_inj, true_and, and_true, or_true, true_or, false_or, or_false, false_and, and_false, not_true_eq_false, not_false_eq_true] <;> omega)) (fun q1 q2 => (by first | omega | (simp only [Int32.lt_iff_toInt_lt, Int32.le_iff_toInt_le, Int32.reduceToInt, ← Int32.toInt_inj] at *; omega))) (fun k9 q1 q2 q3 => (by first | omega | (simp only [Int32.lt_iff_toInt_lt, Int32.le_iff_toInt_le, Int32.reduceToInt, ← Int32.toInt_inj] at *; omega)))), rfl⟩
                have hf_4352 := (hk_4347 a_0 (ne_kd e_4314 hf_4313 rfl)).trans e_4314
                have fr_4353 := FR.w hk_4347 hf_4313 (k := 2176) rfl
                have lk_4354 := lk_at (g0 := g_f) eg_4351 (by omega) (by omega)
                have ag_4355 := (AG.rf o_f).st eg_4351 (by omega) (by omega)
                try simp only [Int32.reduceToInt] at lk_4354
                refine v_aload_n hC dX12_readLoss_150 rfl ?_
                refine v_get hC fl_X12_34 m_1 hf_4352 rfl dX12_readLoss_151 ?_
                refine v_iload_n hC dX12_readLoss_154 rfl ?_
                refine v_iconst hC dX12_readLoss_155 (v := 1) (by decide) ?_
                obtain ⟨v_4356, h_4357⟩ : ∃ v9 : Int32, v_49 + 1 = v9 := ⟨_, rfl⟩
                refine v_iadd hC dX12_readLoss_156 h_4357 ?_
                have h_4358 := add_v h_4357 (by first | omega | (simp only [Int32.lt_iff_toInt_lt, Int32.le_iff_toInt_le, Int32.reduceToInt, ← Int32.toInt_inj, true_and, and_true, or_true, true_or, false_or, or_false, false_and, and_false, not_true_eq_false, not_false_eq_true] <;> omega)) (by first | omega | (simp only [Int32.lt_iff_toInt_lt, Int32.le_iff_toInt_le, Int32.reduceToInt, ← Int32.toInt_inj, true_and, and_true, or_true, true_or, false_or, or_false, false_and, and_false, not_true_eq_false, not_false_eq_true] <;> omega))
                try simp only [Int32.reduceToInt] at h_4358
                refine v_aload_n hC dX12_readLoss_157 rfl ?_
                refine v_iconst hC dX12_readLoss_158 (v := 0) (by decide) ?_
                refine v_bipush hC dX12_readLoss_159 (v := 15) (by decide) ?_
                refine v_vi hC (rest := [.int v_4356, .ref (q 14)]) m_1 hf_4352 rfl mi_X12_number ms_X12_number (p_X12_number hW_4349 k_0) mx_X12_number ml_X12_170 (by decide) rfl (cells1 := 0) (slots1 := 0) (by decide) (by decide) (Nat.le_of_ble_eq_true rfl) (Nat.le_of_ble_eq_true rfl) rfl (Nat.le_of_ble_eq_true rfl) dX12_readLoss_161 (fun r_4359 L_4360 f_4361 h_4362 => ?_)
                obtain ⟨rfl, hW_4366, hF_4367, x_4363, x_4364, x_4365, -, -⟩ := h_4362
                have fe_4368 : fld (f_4345 a_0) 8 = (v_4320 : Int32).toInt := by rw [hf_4352]; rfl
                have fe_4369 : fld (f_4345 a_0) 10 = (v_4324 : Int32).toInt := by rw [hf_4352]; rfl
                have fe_4370 : fld (f_4345 a_0) 12 = (v_4327 : Int32).toInt := by rw [hf_4352]; rfl
                have hf_4371 := hF_4367.at hf_4346 rfl
                obtain ⟨v_4373, v_4374, v_4376, v_4378, v_4380, v_4382, v_4384, v_4385, v_4386, v_4387, v_4389, e_4372, b_4375, b_4377, b_4379, b_4381, b_4383, b_4388, b_4390⟩ := hW_4366.at m_1 t_2
                have fe_4391 : fld (f_4361 a_0) 8 = (v_4378 : Int32).toInt := by rw [e_4372]; rfl
                have fe_4392 : fld (f_4361 a_0) 9 = (v_4380 : Int32).toInt := by rw [e_4372]; rfl
                have fe_4393 : fld (f_4361 a_0) 10 = (v_4382 : Int32).toInt := by rw [e_4372]; rfl
                have fe_4394 : fld (f_4361 a_0) 12 = (v_4385 : Int32).toInt := by rw [e_4372]; rfl
                rw [fe_4394, fe_4370] at x_4363
                rw [fe_4394, fe_4369, fe_4368, fe_4392, fe_4391] at x_4364
                rw [fe_4394, fe_4393, fe_4392, fe_4391] at x_4365
                clear fe_4368 fe_4369 fe_4370 fe_4391 fe_4392 fe_4393 fe_4394
                try simp only [Int32.reduceToInt, Int64.reduceToInt] at x_4363
                try simp only [Int32.reduceToInt, Int64.reduceToInt] at x_4364
                try simp only [Int32.reduceToInt, Int64.reduceToInt] at x_4365
                refine v_iast hC m_22 hf_4371 (vp_in_iff.mpr (by first | omega | (simp only [Int32.lt_iff_toInt_lt, Int32.le_iff_toInt_le, Int32.reduceToInt, ← Int32.toInt_inj, true_and, and_true, or_true, true_or, false_or, or_false, false_and, and_false, not_true_eq_false, not_false_eq_true] <;> omega))) dX12_readLoss_164 (fun f_4395 hf_4396 hk_4397 => ?_)
                have hW_4399 := hW_4366.up hf_4396 hk_4397 t_23 ⟨_, rfl, (ok_4350.up (by first | omega | (simp only [Int32.lt_iff_toInt_lt, Int32.le_iff_toInt_le, Int32.reduceToInt, ← Int32.toInt_inj, true_and, and_true, or_true, true_or, false_or, or_false, false_and, and_false, not_true_eq_false, not_false_eq_true] <;> omega)) (fun q1 q2 => (by first | omega | (simp only [Int32.lt_iff_toInt_lt, Int32.le_iff_toInt_le, Int32.reduceToInt, ← Int32.toInt_inj] at *; omega))) (fun k9 q1 q2 q3 => (by first | omega | (simp only [Int32.lt_iff_toInt_lt, Int32.le_iff_toInt_le, Int32.reduceToInt, ← Int32.toInt_inj] at *; omega))))⟩
                obtain ⟨g_4398, hf_4396, ok_4400, eg_4401⟩ : ∃ g9, f_4395 (q 14) = aI E 2076 g9 ∧ FOK g9 ∧ g9 = upd g_4348 (v_4356 : Int32).toNatClampNeg r_4359 := ⟨_, hf_4396, (ok_4350.up (by first | omega | (simp only [Int32.lt_iff_toInt_lt, Int32.le_iff_toInt_le, Int32.reduceToInt, ← Int32.toInt_inj, true_and, and_true, or_true, true_or, false_or, or_false, false_and, and_false, not_true_eq_false, not_false_eq_true] <;> omega)) (fun q1 q2 => (by first | omega | (simp only [Int32.lt_iff_toInt_lt, Int32.le_iff_toInt_le, Int32.reduceToInt, ← Int32.toInt_inj] at *; omega))) (fun k9 q1 q2 q3 => (by first | omega | (simp only [Int32.lt_iff_toInt_lt, Int32.le_iff_toInt_le, Int32.reduceToInt, ← Int32.toInt_inj] at *; omega)))), rfl⟩
                have hf_4402 := (hk_4397 a_0 (ne_kd e_4372 hf_4371 rfl)).trans e_4372
                have fr_4403 := FR.w hk_4397 hf_4371 (k := 2176) rfl
                have lk_4404 := lf_at (g0 := g_f) eg_4401 (by omega) (by omega)
                have ag_4405 := ag_4355.st eg_4401 (by omega) (by omega)
                try simp only [Int32.reduceToInt] at lk_4404
                refine v_aload_n hC dX12_readLoss_165 rfl ?_
                refine v_get hC fl_X12_34 m_1 hf_4402 rfl dX12_readLoss_166 ?_
                refine v_iload_n hC dX12_readLoss_169 rfl ?_
                refine v_iconst hC dX12_readLoss_170 (v := 2) (by decide) ?_
                obtain ⟨v_4406, h_4407⟩ : ∃ v9 : Int32, v_49 + 2 = v9 := ⟨_, rfl⟩
                refine v_iadd hC dX12_readLoss_171 h_4407 ?_
                have h_4408 := add_v h_4407 (by first | omega | (simp only [Int32.lt_iff_toInt_lt, Int32.le_iff_toInt_le, Int32.reduceToInt, ← Int32.toInt_inj, true_and, and_true, or_true, true_or, false_or, or_false, false_and, and_false, not_true_eq_false, not_false_eq_true] <;> omega)) (by first | omega | (simp only [Int32.lt_iff_toInt_lt, Int32.le_iff_toInt_le, Int32.reduceToInt, ← Int32.toInt_inj, true_and, and_true, or_true, true_or, false_or, or_false, false_and, and_false, not_true_eq_false, not_false_eq_true] <;> omega))
                try simp only [Int32.reduceToInt] at h_4408
                refine v_aload_n hC dX12_readLoss_172 rfl ?_
                refine v_ldcwS hC sr_X12_295 dX12_readLoss_173 ?_
                refine v_aload_n hC dX12_readLoss_176 rfl ?_
                refine v_get hC fl_X12_34 m_1 hf_4402 rfl dX12_readLoss_177 ?_
                refine v_iload_n hC dX12_readLoss_180 rfl ?_
                refine v_iconst hC dX12_readLoss_181 (v := 1) (by decide) ?_
                obtain ⟨v_4409, h_4410⟩ : ∃ v9 : Int32, v_49 + 1 = v9 := ⟨_, rfl⟩
                refine v_iadd hC dX12_readLoss_182 h_4410 ?_
                have h_4411 := add_v h_4410 (by first | omega | (simp only [Int32.lt_iff_toInt_lt, Int32.le_iff_toInt_le, Int32.reduceToInt, ← Int32.toInt_inj, true_and, and_true, or_true, true_or, false_or, or_false, false_and, and_false, not_true_eq_false, not_false_eq_true] <;> omega)) (by first | omega | (simp only [Int32.lt_iff_toInt_lt, Int32.le_iff_toInt_le, Int32.reduceToInt, ← Int32.toInt_inj, true_and, and_true, or_true, true_or, false_or, or_false, false_and, and_false, not_true_eq_false, not_false_eq_true] <;> omega))
                try simp only [Int32.reduceToInt] at h_4411
                obtain ⟨v_4412, h_4413⟩ : ∃ v9 : Int32, g_4398 (v_4409 : Int32).toNatClampNeg = v9 := ⟨_, rfl⟩
                refine v_iald hC m_22 hf_4396 (vp_in_iff.mpr (by first | omega | (simp only [Int32.lt_iff_toInt_lt, Int32.le_iff_toInt_le, Int32.reduceToInt, ← Int32.toInt_inj, true_and, and_true, or_true, true_or, false_or, or_false, false_and, and_false, not_true_eq_false, not_false_eq_true] <;> omega))) h_4413 dX12_readLoss_183 ?_
                refine v_bipush hC dX12_readLoss_184 (v := 15) (by decide) ?_
                refine v_vi hC (rest := [.int v_4406, .ref (q 14)]) m_1 hf_4402 rfl mi_X12_told ms_X12_told (p_X12_told hW_4399 k_0 (by decide)) mx_X12_told ml_X12_189 (by decide) rfl (cells1 := 0) (slots1 := 0) (by decide) (by decide) (Nat.le_of_ble_eq_true rfl) (Nat.le_of_ble_eq_true rfl) rfl (Nat.le_of_ble_eq_true rfl) dX12_readLoss_186 (fun r_4414 L_4415 f_4416 h_4417 => ?_)
                obtain ⟨rfl, hW_4421, hF_4422, x_4418, x_4419, x_4420, -, -⟩ := h_4417
                have fe_4423 : fld (f_4395 a_0) 8 = (v_4378 : Int32).toInt := by rw [hf_4402]; rfl
                have fe_4424 : fld (f_4395 a_0) 12 = (v_4385 : Int32).toInt := by rw [hf_4402]; rfl
                have hf_4425 := hF_4422.at hf_4396 rfl
                obtain ⟨v_4427, v_4428, v_4430, v_4432, v_4434, v_4436, v_4438, v_4439, v_4440, v_4441, v_4443, e_4426, b_4429, b_4431, b_4433, b_4435, b_4437, b_4442, b_4444⟩ := hW_4421.at m_1 t_2
                have fe_4445 : fld (f_4416 a_0) 8 = (v_4432 : Int32).toInt := by rw [e_4426]; rfl
                have fe_4446 : fld (f_4416 a_0) 9 = (v_4434 : Int32).toInt := by rw [e_4426]; rfl
                have fe_4447 : fld (f_4416 a_0) 10 = (v_4436 : Int32).toInt := by rw [e_4426]; rfl
                have fe_4448 : fld (f_4416 a_0) 12 = (v_4439 : Int32).toInt := by rw [e_4426]; rfl
                rw [fe_4448, fe_4424] at x_4418
                rw [fe_4448, fe_4423, fe_4446, fe_4445] at x_4419
                rw [fe_4448, fe_4447, fe_4446, fe_4445] at x_4420
                clear fe_4423 fe_4424 fe_4445 fe_4446 fe_4447 fe_4448
                try simp only [Int32.reduceToInt, Int64.reduceToInt] at x_4418
                try simp only [Int32.reduceToInt, Int64.reduceToInt] at x_4419
                try simp only [Int32.reduceToInt, Int64.reduceToInt] at x_4420
                refine v_iast hC m_22 hf_4425 (vp_in_iff.mpr (by first | omega | (simp only [Int32.lt_iff_toInt_lt, Int32.le_iff_toInt_le, Int32.reduceToInt, ← Int32.toInt_inj, true_and, and_true, or_true, true_or, false_or, or_false, false_and, and_false, not_true_eq_false, not_false_eq_true] <;> omega))) dX12_readLoss_189 (fun f_4449 hf_4450 hk_4451 => ?_)
                have hW_4453 := hW_4421.up hf_4450 hk_4451 t_23 ⟨_, rfl, (ok_4400.up (by first | omega | (simp only [Int32.lt_iff_toInt_lt, Int32.le_iff_toInt_le, Int32.reduceToInt, ← Int32.toInt_inj, true_and, and_true, or_true, true_or, false_or, or_false, false_and, and_false, not_true_eq_false, not_false_eq_true] <;> omega)) (fun q1 q2 => (by first | omega | (simp only [Int32.lt_iff_toInt_lt, Int32.le_iff_toInt_le, Int32.reduceToInt, ← Int32.toInt_inj] at *; omega))) (fun k9 q1 q2 q3 => (by first | omega | (simp only [Int32.lt_iff_toInt_lt, Int32.le_iff_toInt_le, Int32.reduceToInt, ← Int32.toInt_inj] at *; omega))))⟩
                obtain ⟨g_4452, hf_4450, ok_4454, eg_4455⟩ : ∃ g9, f_4449 (q 14) = aI E 2076 g9 ∧ FOK g9 ∧ g9 = upd g_4398 (v_4406 : Int32).toNatClampNeg r_4414 := ⟨_, hf_4450, (ok_4400.up (by first | omega | (simp only [Int32.lt_iff_toInt_lt, Int32.le_iff_toInt_le, Int32.reduceToInt, ← Int32.toInt_inj, true_and, and_true, or_true, true_or, false_or, or_false, false_and, and_false, not_true_eq_false, not_false_eq_true] <;> omega)) (fun q1 q2 => (by first | omega | (simp only [Int32.lt_iff_toInt_lt, Int32.le_iff_toInt_le, Int32.reduceToInt, ← Int32.toInt_inj] at *; omega))) (fun k9 q1 q2 q3 => (by first | omega | (simp only [Int32.lt_iff_toInt_lt, Int32.le_iff_toInt_le, Int32.reduceToInt, ← Int32.toInt_inj] at *; omega)))), rfl⟩
                have hf_4456 := (hk_4451 a_0 (ne_kd e_4426 hf_4425 rfl)).trans e_4426
                have fr_4457 := FR.w hk_4451 hf_4425 (k := 2176) rfl
                have lk_4458 := l2_at (g0 := g_f) eg_4455 (by omega) (by omega)
                have ag_4459 := ag_4405.st eg_4455 (by omega) (by omega)
                try simp only [Int32.reduceToInt] at lk_4458
                refine v_goto hC dX12_readLoss_190 (tgt := 258) (by decide) ?_
                refine v_aload_n hC dX12_readLoss_258 rfl ?_
                refine v_vv hC (rest := []) m_1 hf_4456 rfl mi_X12_ends ms_X12_ends (p_X12_ends hW_4453 k_0) mx_X12_ends ml_X12_178 (by decide) rfl (cells1 := 0) (slots1 := 0) (by decide) (by decide) (Nat.le_of_ble_eq_true rfl) (Nat.le_of_ble_eq_true rfl) rfl (Nat.le_of_ble_eq_true rfl) dX12_readLoss_259 (fun L_4461 f_4462 h_4463 => ?_)
                obtain ⟨rfl, hW_4466, hF_4467, x_4464, x_4465, -, -⟩ := h_4463
                have fe_4468 : fld (f_4449 a_0) 8 = (v_4432 : Int32).toInt := by rw [hf_4456]; rfl
                have fe_4469 : fld (f_4449 a_0) 10 = (v_4436 : Int32).toInt := by rw [hf_4456]; rfl
                have fe_4470 : fld (f_4449 a_0) 12 = (v_4439 : Int32).toInt := by rw [hf_4456]; rfl
                have hf_4471 := hF_4467.at hf_4450 rfl
                obtain ⟨v_4473, v_4474, v_4476, v_4478, v_4480, v_4482, v_4484, v_4485, v_4486, v_4487, v_4489, e_4472, b_4475, b_4477, b_4479, b_4481, b_4483, b_4488, b_4490⟩ := hW_4466.at m_1 t_2
                have fe_4491 : fld (f_4462 a_0) 8 = (v_4478 : Int32).toInt := by rw [e_4472]; rfl
                have fe_4492 : fld (f_4462 a_0) 9 = (v_4480 : Int32).toInt := by rw [e_4472]; rfl
                have fe_4493 : fld (f_4462 a_0) 12 = (v_4485 : Int32).toInt := by rw [e_4472]; rfl
                rw [fe_4493, fe_4470] at x_4464
                rw [fe_4493, fe_4469, fe_4468, fe_4492, fe_4491] at x_4465
                clear fe_4468 fe_4469 fe_4470 fe_4491 fe_4492 fe_4493
                refine v_aload_n hC dX12_readLoss_262 rfl ?_
                refine v_get hC fl_X12_34 m_1 e_4472 rfl dX12_readLoss_263 ?_
                refine v_bipush hC dX12_readLoss_266 (v := 6) (by decide) ?_
                refine v_dup2 hC dX12_readLoss_268 rfl rfl ?_
                have l6_4494 : (g_4452 6).toInt = (g_f 6).toInt := congrArg Int32.toInt ag_4459.2.1
                refine v_iald hC m_22 hf_4471 (vp_in_iff.mpr (by decide)) (v := g_4452 6) rfl dX12_readLoss_269 ?_
                refine v_iconst hC dX12_readLoss_270 (v := 1) (by decide) ?_
                obtain ⟨v_4495, h_4496⟩ : ∃ v9 : Int32, (g_4452 6) + 1 = v9 := ⟨_, rfl⟩
                refine v_iadd hC dX12_readLoss_271 h_4496 ?_
                have h_4497 := add_v h_4496 (by first | omega | (simp only [Int32.lt_iff_toInt_lt, Int32.le_iff_toInt_le, Int32.reduceToInt, ← Int32.toInt_inj, true_and, and_true, or_true, true_or, false_or, or_false, false_and, and_false, not_true_eq_false, not_false_eq_true] <;> omega)) (by first | omega | (simp only [Int32.lt_iff_toInt_lt, Int32.le_iff_toInt_le, Int32.reduceToInt, ← Int32.toInt_inj, true_and, and_true, or_true, true_or, false_or, or_false, false_and, and_false, not_true_eq_false, not_false_eq_true] <;> omega))
                try simp only [Int32.reduceToInt] at h_4497
                refine v_iast hC m_22 hf_4471 (vp_in_iff.mpr (by decide)) dX12_readLoss_272 (fun f_4498 hf_4499 hk_4500 => ?_)
                have hW_4502 := hW_4466.up hf_4499 hk_4500 t_23 ⟨_, rfl, (ok_4454.up (i := 6) (by decide) (fun q1 q2 => absurd (And.intro q1 q2) (by decide)) (fun k9 q1 q2 q3 => by simp only [Int32.reduceToInt] at q3; omega))⟩
                obtain ⟨g_4501, hf_4499, ok_4503, eg_4504⟩ : ∃ g9, f_4498 (q 14) = aI E 2076 g9 ∧ FOK g9 ∧ g9 = upd g_4452 (6 : Int32).toNatClampNeg v_4495 := ⟨_, hf_4499, (ok_4454.up (i := 6) (by decide) (fun q1 q2 => absurd (And.intro q1 q2) (by decide)) (fun k9 q1 q2 q3 => by simp only [Int32.reduceToInt] at q3; omega)), rfl⟩
                have hf_4505 := (hk_4500 a_0 (ne_kd e_4472 hf_4471 rfl)).trans e_4472
                have fr_4506 := FR.w hk_4500 hf_4471 (k := 2176) rfl
                have ln6_4507 := FOK.n6 ag_4459.1 eg_4504
                have ln6_4507_t : (g_4501 6).toInt = v_4495.toInt := congrArg Int32.toInt ln6_4507.2
                have fe_4508 : fld (f_4498 a_0) 12 = (v_4485 : Int32).toInt := by rw [hf_4505]; rfl
                have fe_4509 : fld (f_4498 a_0) 8 = (v_4478 : Int32).toInt := by rw [hf_4505]; rfl
                have fe_4510 : fld (f_4498 a_0) 12 = (v_4485 : Int32).toInt := by rw [hf_4505]; rfl
                have fe_4511 : fld (f_4498 a_0) 20 = (v_4489 : Int32).toInt := by rw [hf_4505]; rfl
                exact hR _ _ _ _ _ _ dX12_readLoss_273 (Nat.le_of_ble_eq_true rfl) (Nat.le_of_ble_eq_true rfl) ⟨rfl, hW_4502, ((((((((((hF_3168.tr hF_3209).tr hF_4311).tr fr_4353).tr hF_4367).tr fr_4403).tr hF_4422).tr fr_4457).tr hF_4467).tr fr_4506).mono rfl), ⟨_, hf_4499, ln6_4507.1, (by omega), (by rw [fe_4508]; by_cases q9 : v_4485.toInt = 0; exact .inr (LO.fin hLO ag_4459 eg_4504 (by omega) (by omega) (fun q8 => by omega)); exact .inl q9)⟩, (by simp only [fe_4509, fe_4510, mz_43, mz_44, true_and, and_true, or_true, true_or, false_or, or_false, false_and, and_false, not_true_eq_false, not_false_eq_true] <;> first | omega | (simp only [Int32.lt_iff_toInt_lt, Int32.le_iff_toInt_le, Int32.reduceToInt, ← Int32.toInt_inj, true_and, and_true, or_true, true_or, false_or, or_false, false_and, and_false, not_true_eq_false, not_false_eq_true] <;> omega)), (by simp only [fe_4511, mz_45, true_and, and_true, or_true, true_or, false_or, or_false, false_and, and_false, not_true_eq_false, not_false_eq_true] <;> first | omega | (simp only [Int32.lt_iff_toInt_lt, Int32.le_iff_toInt_le, Int32.reduceToInt, ← Int32.toInt_inj, true_and, and_true, or_true, true_or, false_or, or_false, false_and, and_false, not_true_eq_false, not_false_eq_true] <;> omega))⟩
              · simp only [Int32.lt_iff_toInt_lt, Int32.le_iff_toInt_le, Int32.reduceToInt, ← Int32.toInt_inj] at h_4344
                refine v_aload_n hC dX12_readLoss_131 rfl ?_
                refine v_vv hC (rest := []) m_1 e_4314 rfl mi_X12_advance ms_X12_advance (p_X12_advance hW_4310 k_0) mx_X12_advance ml_X12_156 (by decide) rfl (cells1 := 0) (slots1 := 0) (by decide) (by decide) (Nat.le_of_ble_eq_true rfl) (Nat.le_of_ble_eq_true rfl) rfl (Nat.le_of_ble_eq_true rfl) dX12_readLoss_132 (fun L_4513 f_4514 h_4515 => ?_)
                obtain ⟨rfl, hW_4519, hF_4520, x_4516, x_4517, x_4518, -⟩ := h_4515
                have fe_4521 : fld (f_4306 a_0) 8 = (v_4320 : Int32).toInt := by rw [e_4314]; rfl
                have fe_4522 : fld (f_4306 a_0) 12 = (v_4327 : Int32).toInt := by rw [e_4314]; rfl
                have hf_4523 := hF_4520.at hf_4313 rfl
                obtain ⟨v_4525, v_4526, v_4528, v_4530, v_4532, v_4534, v_4536, v_4537, v_4538, v_4539, v_4541, e_4524, b_4527, b_4529, b_4531, b_4533, b_4535, b_4540, b_4542⟩ := hW_4519.at m_1 t_2
                have fe_4543 : fld (f_4514 a_0) 8 = (v_4530 : Int32).toInt := by rw [e_4524]; rfl
                have fe_4544 : fld (f_4514 a_0) 9 = (v_4532 : Int32).toInt := by rw [e_4524]; rfl
                have fe_4545 : fld (f_4514 a_0) 10 = (v_4534 : Int32).toInt := by rw [e_4524]; rfl
                have fe_4546 : fld (f_4514 a_0) 12 = (v_4537 : Int32).toInt := by rw [e_4524]; rfl
                rw [fe_4521, fe_4544, fe_4543] at x_4516
                rw [fe_4545, fe_4544, fe_4543] at x_4517
                rw [fe_4546, fe_4522] at x_4518
                clear fe_4521 fe_4522 fe_4543 fe_4544 fe_4545 fe_4546
                refine v_aload_n hC dX12_readLoss_135 rfl ?_
                refine v_get hC fl_X12_34 m_1 e_4524 rfl dX12_readLoss_136 ?_
                refine v_iload_n hC dX12_readLoss_139 rfl ?_
                refine v_iload_n hC dX12_readLoss_140 rfl ?_
                refine v_if_eq_t hC dX12_readLoss_141 (tgt := 148) (by decide) (by first | omega | (simp only [Int32.lt_iff_toInt_lt, Int32.le_iff_toInt_le, Int32.reduceToInt, ← Int32.toInt_inj, true_and, and_true, or_true, true_or, false_or, or_false, false_and, and_false, not_true_eq_false, not_false_eq_true] <;> omega)) ?_
                refine v_iconst hC dX12_readLoss_148 (v := 0) (by decide) ?_
                refine v_iast hC m_22 hf_4523 (vp_in_iff.mpr (by first | omega | (simp only [Int32.lt_iff_toInt_lt, Int32.le_iff_toInt_le, Int32.reduceToInt, ← Int32.toInt_inj, true_and, and_true, or_true, true_or, false_or, or_false, false_and, and_false, not_true_eq_false, not_false_eq_true] <;> omega))) dX12_readLoss_149 (fun f_4547 hf_4548 hk_4549 => ?_)
                have hW_4551 := hW_4519.up hf_4548 hk_4549 t_23 ⟨_, rfl, (o_f.up (by first | omega | (simp only [Int32.lt_iff_toInt_lt, Int32.le_iff_toInt_le, Int32.reduceToInt, ← Int32.toInt_inj, true_and, and_true, or_true, true_or, false_or, or_false, false_and, and_false, not_true_eq_false, not_false_eq_true] <;> omega)) (fun q1 q2 => (by first | omega | (simp only [Int32.lt_iff_toInt_lt, Int32.le_iff_toInt_le, Int32.reduceToInt, ← Int32.toInt_inj] at *; omega))) (fun k9 q1 q2 q3 => (by first | omega | (simp only [Int32.lt_iff_toInt_lt, Int32.le_iff_toInt_le, Int32.reduceToInt, ← Int32.toInt_inj] at *; omega))))⟩
                obtain ⟨g_4550, hf_4548, ok_4552, eg_4553⟩ : ∃ g9, f_4547 (q 14) = aI E 2076 g9 ∧ FOK g9 ∧ g9 = upd g_f (v_49 : Int32).toNatClampNeg 0 := ⟨_, hf_4548, (o_f.up (by first | omega | (simp only [Int32.lt_iff_toInt_lt, Int32.le_iff_toInt_le, Int32.reduceToInt, ← Int32.toInt_inj, true_and, and_true, or_true, true_or, false_or, or_false, false_and, and_false, not_true_eq_false, not_false_eq_true] <;> omega)) (fun q1 q2 => (by first | omega | (simp only [Int32.lt_iff_toInt_lt, Int32.le_iff_toInt_le, Int32.reduceToInt, ← Int32.toInt_inj] at *; omega))) (fun k9 q1 q2 q3 => (by first | omega | (simp only [Int32.lt_iff_toInt_lt, Int32.le_iff_toInt_le, Int32.reduceToInt, ← Int32.toInt_inj] at *; omega)))), rfl⟩
                have hf_4554 := (hk_4549 a_0 (ne_kd e_4524 hf_4523 rfl)).trans e_4524
                have fr_4555 := FR.w hk_4549 hf_4523 (k := 2176) rfl
                have lk_4556 := lk_at (g0 := g_f) eg_4553 (by omega) (by omega)
                have ag_4557 := (AG.rf o_f).st eg_4553 (by omega) (by omega)
                try simp only [Int32.reduceToInt] at lk_4556
                refine v_aload_n hC dX12_readLoss_150 rfl ?_
                refine v_get hC fl_X12_34 m_1 hf_4554 rfl dX12_readLoss_151 ?_
                refine v_iload_n hC dX12_readLoss_154 rfl ?_
                refine v_iconst hC dX12_readLoss_155 (v := 1) (by decide) ?_
                obtain ⟨v_4558, h_4559⟩ : ∃ v9 : Int32, v_49 + 1 = v9 := ⟨_, rfl⟩
                refine v_iadd hC dX12_readLoss_156 h_4559 ?_
                have h_4560 := add_v h_4559 (by first | omega | (simp only [Int32.lt_iff_toInt_lt, Int32.le_iff_toInt_le, Int32.reduceToInt, ← Int32.toInt_inj, true_and, and_true, or_true, true_or, false_or, or_false, false_and, and_false, not_true_eq_false, not_false_eq_true] <;> omega)) (by first | omega | (simp only [Int32.lt_iff_toInt_lt, Int32.le_iff_toInt_le, Int32.reduceToInt, ← Int32.toInt_inj, true_and, and_true, or_true, true_or, false_or, or_false, false_and, and_false, not_true_eq_false, not_false_eq_true] <;> omega))
                try simp only [Int32.reduceToInt] at h_4560
                refine v_aload_n hC dX12_readLoss_157 rfl ?_
                refine v_iconst hC dX12_readLoss_158 (v := 0) (by decide) ?_
                refine v_bipush hC dX12_readLoss_159 (v := 15) (by decide) ?_
                refine v_vi hC (rest := [.int v_4558, .ref (q 14)]) m_1 hf_4554 rfl mi_X12_number ms_X12_number (p_X12_number hW_4551 k_0) mx_X12_number ml_X12_170 (by decide) rfl (cells1 := 0) (slots1 := 0) (by decide) (by decide) (Nat.le_of_ble_eq_true rfl) (Nat.le_of_ble_eq_true rfl) rfl (Nat.le_of_ble_eq_true rfl) dX12_readLoss_161 (fun r_4561 L_4562 f_4563 h_4564 => ?_)
                obtain ⟨rfl, hW_4568, hF_4569, x_4565, x_4566, x_4567, -, -⟩ := h_4564
                have fe_4570 : fld (f_4547 a_0) 8 = (v_4530 : Int32).toInt := by rw [hf_4554]; rfl
                have fe_4571 : fld (f_4547 a_0) 10 = (v_4534 : Int32).toInt := by rw [hf_4554]; rfl
                have fe_4572 : fld (f_4547 a_0) 12 = (v_4537 : Int32).toInt := by rw [hf_4554]; rfl
                have hf_4573 := hF_4569.at hf_4548 rfl
                obtain ⟨v_4575, v_4576, v_4578, v_4580, v_4582, v_4584, v_4586, v_4587, v_4588, v_4589, v_4591, e_4574, b_4577, b_4579, b_4581, b_4583, b_4585, b_4590, b_4592⟩ := hW_4568.at m_1 t_2
                have fe_4593 : fld (f_4563 a_0) 8 = (v_4580 : Int32).toInt := by rw [e_4574]; rfl
                have fe_4594 : fld (f_4563 a_0) 9 = (v_4582 : Int32).toInt := by rw [e_4574]; rfl
                have fe_4595 : fld (f_4563 a_0) 10 = (v_4584 : Int32).toInt := by rw [e_4574]; rfl
                have fe_4596 : fld (f_4563 a_0) 12 = (v_4587 : Int32).toInt := by rw [e_4574]; rfl
                rw [fe_4596, fe_4572] at x_4565
                rw [fe_4596, fe_4571, fe_4570, fe_4594, fe_4593] at x_4566
                rw [fe_4596, fe_4595, fe_4594, fe_4593] at x_4567
                clear fe_4570 fe_4571 fe_4572 fe_4593 fe_4594 fe_4595 fe_4596
                try simp only [Int32.reduceToInt, Int64.reduceToInt] at x_4565
                try simp only [Int32.reduceToInt, Int64.reduceToInt] at x_4566
                try simp only [Int32.reduceToInt, Int64.reduceToInt] at x_4567
                refine v_iast hC m_22 hf_4573 (vp_in_iff.mpr (by first | omega | (simp only [Int32.lt_iff_toInt_lt, Int32.le_iff_toInt_le, Int32.reduceToInt, ← Int32.toInt_inj, true_and, and_true, or_true, true_or, false_or, or_false, false_and, and_false, not_true_eq_false, not_false_eq_true] <;> omega))) dX12_readLoss_164 (fun f_4597 hf_4598 hk_4599 => ?_)
                have hW_4601 := hW_4568.up hf_4598 hk_4599 t_23 ⟨_, rfl, (ok_4552.up (by first | omega | (simp only [Int32.lt_iff_toInt_lt, Int32.le_iff_toInt_le, Int32.reduceToInt, ← Int32.toInt_inj, true_and, and_true, or_true, true_or, false_or, or_false, false_and, and_false, not_true_eq_false, not_false_eq_true] <;> omega)) (fun q1 q2 => (by first | omega | (simp only [Int32.lt_iff_toInt_lt, Int32.le_iff_toInt_le, Int32.reduceToInt, ← Int32.toInt_inj] at *; omega))) (fun k9 q1 q2 q3 => (by first | omega | (simp only [Int32.lt_iff_toInt_lt, Int32.le_iff_toInt_le, Int32.reduceToInt, ← Int32.toInt_inj] at *; omega))))⟩
                obtain ⟨g_4600, hf_4598, ok_4602, eg_4603⟩ : ∃ g9, f_4597 (q 14) = aI E 2076 g9 ∧ FOK g9 ∧ g9 = upd g_4550 (v_4558 : Int32).toNatClampNeg r_4561 := ⟨_, hf_4598, (ok_4552.up (by first | omega | (simp only [Int32.lt_iff_toInt_lt, Int32.le_iff_toInt_le, Int32.reduceToInt, ← Int32.toInt_inj, true_and, and_true, or_true, true_or, false_or, or_false, false_and, and_false, not_true_eq_false, not_false_eq_true] <;> omega)) (fun q1 q2 => (by first | omega | (simp only [Int32.lt_iff_toInt_lt, Int32.le_iff_toInt_le, Int32.reduceToInt, ← Int32.toInt_inj] at *; omega))) (fun k9 q1 q2 q3 => (by first | omega | (simp only [Int32.lt_iff_toInt_lt, Int32.le_iff_toInt_le, Int32.reduceToInt, ← Int32.toInt_inj] at *; omega)))), rfl⟩
                have hf_4604 := (hk_4599 a_0 (ne_kd e_4574 hf_4573 rfl)).trans e_4574
                have fr_4605 := FR.w hk_4599 hf_4573 (k := 2176) rfl
                have lk_4606 := lf_at (g0 := g_f) eg_4603 (by omega) (by omega)
                have ag_4607 := ag_4557.st eg_4603 (by omega) (by omega)
                try simp only [Int32.reduceToInt] at lk_4606
                refine v_aload_n hC dX12_readLoss_165 rfl ?_
                refine v_get hC fl_X12_34 m_1 hf_4604 rfl dX12_readLoss_166 ?_
                refine v_iload_n hC dX12_readLoss_169 rfl ?_
                refine v_iconst hC dX12_readLoss_170 (v := 2) (by decide) ?_
                obtain ⟨v_4608, h_4609⟩ : ∃ v9 : Int32, v_49 + 2 = v9 := ⟨_, rfl⟩
                refine v_iadd hC dX12_readLoss_171 h_4609 ?_
                have h_4610 := add_v h_4609 (by first | omega | (simp only [Int32.lt_iff_toInt_lt, Int32.le_iff_toInt_le, Int32.reduceToInt, ← Int32.toInt_inj, true_and, and_true, or_true, true_or, false_or, or_false, false_and, and_false, not_true_eq_false, not_false_eq_true] <;> omega)) (by first | omega | (simp only [Int32.lt_iff_toInt_lt, Int32.le_iff_toInt_le, Int32.reduceToInt, ← Int32.toInt_inj, true_and, and_true, or_true, true_or, false_or, or_false, false_and, and_false, not_true_eq_false, not_false_eq_true] <;> omega))
                try simp only [Int32.reduceToInt] at h_4610
                refine v_aload_n hC dX12_readLoss_172 rfl ?_
                refine v_ldcwS hC sr_X12_295 dX12_readLoss_173 ?_
                refine v_aload_n hC dX12_readLoss_176 rfl ?_
                refine v_get hC fl_X12_34 m_1 hf_4604 rfl dX12_readLoss_177 ?_
                refine v_iload_n hC dX12_readLoss_180 rfl ?_
                refine v_iconst hC dX12_readLoss_181 (v := 1) (by decide) ?_
                obtain ⟨v_4611, h_4612⟩ : ∃ v9 : Int32, v_49 + 1 = v9 := ⟨_, rfl⟩
                refine v_iadd hC dX12_readLoss_182 h_4612 ?_
                have h_4613 := add_v h_4612 (by first | omega | (simp only [Int32.lt_iff_toInt_lt, Int32.le_iff_toInt_le, Int32.reduceToInt, ← Int32.toInt_inj, true_and, and_true, or_true, true_or, false_or, or_false, false_and, and_false, not_true_eq_false, not_false_eq_true] <;> omega)) (by first | omega | (simp only [Int32.lt_iff_toInt_lt, Int32.le_iff_toInt_le, Int32.reduceToInt, ← Int32.toInt_inj, true_and, and_true, or_true, true_or, false_or, or_false, false_and, and_false, not_true_eq_false, not_false_eq_true] <;> omega))
                try simp only [Int32.reduceToInt] at h_4613
                obtain ⟨v_4614, h_4615⟩ : ∃ v9 : Int32, g_4600 (v_4611 : Int32).toNatClampNeg = v9 := ⟨_, rfl⟩
                refine v_iald hC m_22 hf_4598 (vp_in_iff.mpr (by first | omega | (simp only [Int32.lt_iff_toInt_lt, Int32.le_iff_toInt_le, Int32.reduceToInt, ← Int32.toInt_inj, true_and, and_true, or_true, true_or, false_or, or_false, false_and, and_false, not_true_eq_false, not_false_eq_true] <;> omega))) h_4615 dX12_readLoss_183 ?_
                refine v_bipush hC dX12_readLoss_184 (v := 15) (by decide) ?_
                refine v_vi hC (rest := [.int v_4608, .ref (q 14)]) m_1 hf_4604 rfl mi_X12_told ms_X12_told (p_X12_told hW_4601 k_0 (by decide)) mx_X12_told ml_X12_189 (by decide) rfl (cells1 := 0) (slots1 := 0) (by decide) (by decide) (Nat.le_of_ble_eq_true rfl) (Nat.le_of_ble_eq_true rfl) rfl (Nat.le_of_ble_eq_true rfl) dX12_readLoss_186 (fun r_4616 L_4617 f_4618 h_4619 => ?_)
                obtain ⟨rfl, hW_4623, hF_4624, x_4620, x_4621, x_4622, -, -⟩ := h_4619
                have fe_4625 : fld (f_4597 a_0) 8 = (v_4580 : Int32).toInt := by rw [hf_4604]; rfl
                have fe_4626 : fld (f_4597 a_0) 12 = (v_4587 : Int32).toInt := by rw [hf_4604]; rfl
                have hf_4627 := hF_4624.at hf_4598 rfl
                obtain ⟨v_4629, v_4630, v_4632, v_4634, v_4636, v_4638, v_4640, v_4641, v_4642, v_4643, v_4645, e_4628, b_4631, b_4633, b_4635, b_4637, b_4639, b_4644, b_4646⟩ := hW_4623.at m_1 t_2
                have fe_4647 : fld (f_4618 a_0) 8 = (v_4634 : Int32).toInt := by rw [e_4628]; rfl
                have fe_4648 : fld (f_4618 a_0) 9 = (v_4636 : Int32).toInt := by rw [e_4628]; rfl
                have fe_4649 : fld (f_4618 a_0) 10 = (v_4638 : Int32).toInt := by rw [e_4628]; rfl
                have fe_4650 : fld (f_4618 a_0) 12 = (v_4641 : Int32).toInt := by rw [e_4628]; rfl
                rw [fe_4650, fe_4626] at x_4620
                rw [fe_4650, fe_4625, fe_4648, fe_4647] at x_4621
                rw [fe_4650, fe_4649, fe_4648, fe_4647] at x_4622
                clear fe_4625 fe_4626 fe_4647 fe_4648 fe_4649 fe_4650
                try simp only [Int32.reduceToInt, Int64.reduceToInt] at x_4620
                try simp only [Int32.reduceToInt, Int64.reduceToInt] at x_4621
                try simp only [Int32.reduceToInt, Int64.reduceToInt] at x_4622
                refine v_iast hC m_22 hf_4627 (vp_in_iff.mpr (by first | omega | (simp only [Int32.lt_iff_toInt_lt, Int32.le_iff_toInt_le, Int32.reduceToInt, ← Int32.toInt_inj, true_and, and_true, or_true, true_or, false_or, or_false, false_and, and_false, not_true_eq_false, not_false_eq_true] <;> omega))) dX12_readLoss_189 (fun f_4651 hf_4652 hk_4653 => ?_)
                have hW_4655 := hW_4623.up hf_4652 hk_4653 t_23 ⟨_, rfl, (ok_4602.up (by first | omega | (simp only [Int32.lt_iff_toInt_lt, Int32.le_iff_toInt_le, Int32.reduceToInt, ← Int32.toInt_inj, true_and, and_true, or_true, true_or, false_or, or_false, false_and, and_false, not_true_eq_false, not_false_eq_true] <;> omega)) (fun q1 q2 => (by first | omega | (simp only [Int32.lt_iff_toInt_lt, Int32.le_iff_toInt_le, Int32.reduceToInt, ← Int32.toInt_inj] at *; omega))) (fun k9 q1 q2 q3 => (by first | omega | (simp only [Int32.lt_iff_toInt_lt, Int32.le_iff_toInt_le, Int32.reduceToInt, ← Int32.toInt_inj] at *; omega))))⟩
                obtain ⟨g_4654, hf_4652, ok_4656, eg_4657⟩ : ∃ g9, f_4651 (q 14) = aI E 2076 g9 ∧ FOK g9 ∧ g9 = upd g_4600 (v_4608 : Int32).toNatClampNeg r_4616 := ⟨_, hf_4652, (ok_4602.up (by first | omega | (simp only [Int32.lt_iff_toInt_lt, Int32.le_iff_toInt_le, Int32.reduceToInt, ← Int32.toInt_inj, true_and, and_true, or_true, true_or, false_or, or_false, false_and, and_false, not_true_eq_false, not_false_eq_true] <;> omega)) (fun q1 q2 => (by first | omega | (simp only [Int32.lt_iff_toInt_lt, Int32.le_iff_toInt_le, Int32.reduceToInt, ← Int32.toInt_inj] at *; omega))) (fun k9 q1 q2 q3 => (by first | omega | (simp only [Int32.lt_iff_toInt_lt, Int32.le_iff_toInt_le, Int32.reduceToInt, ← Int32.toInt_inj] at *; omega)))), rfl⟩
                have hf_4658 := (hk_4653 a_0 (ne_kd e_4628 hf_4627 rfl)).trans e_4628
                have fr_4659 := FR.w hk_4653 hf_4627 (k := 2176) rfl
                have lk_4660 := l2_at (g0 := g_f) eg_4657 (by omega) (by omega)
                have ag_4661 := ag_4607.st eg_4657 (by omega) (by omega)
                try simp only [Int32.reduceToInt] at lk_4660
                refine v_goto hC dX12_readLoss_190 (tgt := 258) (by decide) ?_
                refine v_aload_n hC dX12_readLoss_258 rfl ?_
                refine v_vv hC (rest := []) m_1 hf_4658 rfl mi_X12_ends ms_X12_ends (p_X12_ends hW_4655 k_0) mx_X12_ends ml_X12_178 (by decide) rfl (cells1 := 0) (slots1 := 0) (by decide) (by decide) (Nat.le_of_ble_eq_true rfl) (Nat.le_of_ble_eq_true rfl) rfl (Nat.le_of_ble_eq_true rfl) dX12_readLoss_259 (fun L_4663 f_4664 h_4665 => ?_)
                obtain ⟨rfl, hW_4668, hF_4669, x_4666, x_4667, -, -⟩ := h_4665
                have fe_4670 : fld (f_4651 a_0) 8 = (v_4634 : Int32).toInt := by rw [hf_4658]; rfl
                have fe_4671 : fld (f_4651 a_0) 10 = (v_4638 : Int32).toInt := by rw [hf_4658]; rfl
                have fe_4672 : fld (f_4651 a_0) 12 = (v_4641 : Int32).toInt := by rw [hf_4658]; rfl
                have hf_4673 := hF_4669.at hf_4652 rfl
                obtain ⟨v_4675, v_4676, v_4678, v_4680, v_4682, v_4684, v_4686, v_4687, v_4688, v_4689, v_4691, e_4674, b_4677, b_4679, b_4681, b_4683, b_4685, b_4690, b_4692⟩ := hW_4668.at m_1 t_2
                have fe_4693 : fld (f_4664 a_0) 8 = (v_4680 : Int32).toInt := by rw [e_4674]; rfl
                have fe_4694 : fld (f_4664 a_0) 9 = (v_4682 : Int32).toInt := by rw [e_4674]; rfl
                have fe_4695 : fld (f_4664 a_0) 12 = (v_4687 : Int32).toInt := by rw [e_4674]; rfl
                rw [fe_4695, fe_4672] at x_4666
                rw [fe_4695, fe_4671, fe_4670, fe_4694, fe_4693] at x_4667
                clear fe_4670 fe_4671 fe_4672 fe_4693 fe_4694 fe_4695
                refine v_aload_n hC dX12_readLoss_262 rfl ?_
                refine v_get hC fl_X12_34 m_1 e_4674 rfl dX12_readLoss_263 ?_
                refine v_bipush hC dX12_readLoss_266 (v := 6) (by decide) ?_
                refine v_dup2 hC dX12_readLoss_268 rfl rfl ?_
                have l6_4696 : (g_4654 6).toInt = (g_f 6).toInt := congrArg Int32.toInt ag_4661.2.1
                refine v_iald hC m_22 hf_4673 (vp_in_iff.mpr (by decide)) (v := g_4654 6) rfl dX12_readLoss_269 ?_
                refine v_iconst hC dX12_readLoss_270 (v := 1) (by decide) ?_
                obtain ⟨v_4697, h_4698⟩ : ∃ v9 : Int32, (g_4654 6) + 1 = v9 := ⟨_, rfl⟩
                refine v_iadd hC dX12_readLoss_271 h_4698 ?_
                have h_4699 := add_v h_4698 (by first | omega | (simp only [Int32.lt_iff_toInt_lt, Int32.le_iff_toInt_le, Int32.reduceToInt, ← Int32.toInt_inj, true_and, and_true, or_true, true_or, false_or, or_false, false_and, and_false, not_true_eq_false, not_false_eq_true] <;> omega)) (by first | omega | (simp only [Int32.lt_iff_toInt_lt, Int32.le_iff_toInt_le, Int32.reduceToInt, ← Int32.toInt_inj, true_and, and_true, or_true, true_or, false_or, or_false, false_and, and_false, not_true_eq_false, not_false_eq_true] <;> omega))
                try simp only [Int32.reduceToInt] at h_4699
                refine v_iast hC m_22 hf_4673 (vp_in_iff.mpr (by decide)) dX12_readLoss_272 (fun f_4700 hf_4701 hk_4702 => ?_)
                have hW_4704 := hW_4668.up hf_4701 hk_4702 t_23 ⟨_, rfl, (ok_4656.up (i := 6) (by decide) (fun q1 q2 => absurd (And.intro q1 q2) (by decide)) (fun k9 q1 q2 q3 => by simp only [Int32.reduceToInt] at q3; omega))⟩
                obtain ⟨g_4703, hf_4701, ok_4705, eg_4706⟩ : ∃ g9, f_4700 (q 14) = aI E 2076 g9 ∧ FOK g9 ∧ g9 = upd g_4654 (6 : Int32).toNatClampNeg v_4697 := ⟨_, hf_4701, (ok_4656.up (i := 6) (by decide) (fun q1 q2 => absurd (And.intro q1 q2) (by decide)) (fun k9 q1 q2 q3 => by simp only [Int32.reduceToInt] at q3; omega)), rfl⟩
                have hf_4707 := (hk_4702 a_0 (ne_kd e_4674 hf_4673 rfl)).trans e_4674
                have fr_4708 := FR.w hk_4702 hf_4673 (k := 2176) rfl
                have ln6_4709 := FOK.n6 ag_4661.1 eg_4706
                have ln6_4709_t : (g_4703 6).toInt = v_4697.toInt := congrArg Int32.toInt ln6_4709.2
                have fe_4710 : fld (f_4700 a_0) 12 = (v_4687 : Int32).toInt := by rw [hf_4707]; rfl
                have fe_4711 : fld (f_4700 a_0) 8 = (v_4680 : Int32).toInt := by rw [hf_4707]; rfl
                have fe_4712 : fld (f_4700 a_0) 12 = (v_4687 : Int32).toInt := by rw [hf_4707]; rfl
                have fe_4713 : fld (f_4700 a_0) 20 = (v_4691 : Int32).toInt := by rw [hf_4707]; rfl
                exact hR _ _ _ _ _ _ dX12_readLoss_273 (Nat.le_of_ble_eq_true rfl) (Nat.le_of_ble_eq_true rfl) ⟨rfl, hW_4704, (((((((((((hF_3168.tr hF_3209).tr hF_4311).tr hF_4520).tr fr_4555).tr hF_4569).tr fr_4605).tr hF_4624).tr fr_4659).tr hF_4669).tr fr_4708).mono rfl), ⟨_, hf_4701, ln6_4709.1, (by omega), (by rw [fe_4710]; by_cases q9 : v_4687.toInt = 0; exact .inr (LO.fin hLO ag_4661 eg_4706 (by omega) (by omega) (fun q8 => by omega)); exact .inl q9)⟩, (by simp only [fe_4711, fe_4712, mz_43, mz_44, true_and, and_true, or_true, true_or, false_or, or_false, false_and, and_false, not_true_eq_false, not_false_eq_true] <;> first | omega | (simp only [Int32.lt_iff_toInt_lt, Int32.le_iff_toInt_le, Int32.reduceToInt, ← Int32.toInt_inj, true_and, and_true, or_true, true_or, false_or, or_false, false_and, and_false, not_true_eq_false, not_false_eq_true] <;> omega)), (by simp only [fe_4713, mz_45, true_and, and_true, or_true, true_or, false_or, or_false, false_and, and_false, not_true_eq_false, not_false_eq_true] <;> first | omega | (simp only [Int32.lt_iff_toInt_lt, Int32.le_iff_toInt_le, Int32.reduceToInt, ← Int32.toInt_inj, true_and, and_true, or_true, true_or, false_or, or_false, false_and, and_false, not_true_eq_false, not_false_eq_true] <;> omega))⟩
      · simp only [Int32.lt_iff_toInt_lt, Int32.le_iff_toInt_le, Int32.reduceToInt, ← Int32.toInt_inj] at h_3201
        have fe_4714 : fld (f_3163 a_0) 12 = (v_3184 : Int32).toInt := by rw [e_3171]; rfl
        have fe_4715 : fld (f_3163 a_0) 8 = (v_3177 : Int32).toInt := by rw [e_3171]; rfl
        have fe_4716 : fld (f_3163 a_0) 12 = (v_3184 : Int32).toInt := by rw [e_3171]; rfl
        have fe_4717 : fld (f_3163 a_0) 20 = (v_3188 : Int32).toInt := by rw [e_3171]; rfl
        exact hR _ _ _ _ _ _ dX12_readLoss_87 (Nat.le_of_ble_eq_true rfl) (Nat.le_of_ble_eq_true rfl) ⟨rfl, hW_3167, (hF_3168.mono rfl), ⟨_, hf_3170, (AG.rf o_f).1, (by omega), (by rw [fe_4714]; left; omega)⟩, (by simp only [fe_4715, fe_4716, mz_43, mz_44, true_and, and_true, or_true, true_or, false_or, or_false, false_and, and_false, not_true_eq_false, not_false_eq_true] <;> first | omega | (simp only [Int32.lt_iff_toInt_lt, Int32.le_iff_toInt_le, Int32.reduceToInt, ← Int32.toInt_inj, true_and, and_true, or_true, true_or, false_or, or_false, false_and, and_false, not_true_eq_false, not_false_eq_true] <;> omega)), (by simp only [fe_4717, mz_45, true_and, and_true, or_true, true_or, false_or, or_false, false_and, and_false, not_true_eq_false, not_false_eq_true] <;> first | omega | (simp only [Int32.lt_iff_toInt_lt, Int32.le_iff_toInt_le, Int32.reduceToInt, ← Int32.toInt_inj, true_and, and_true, or_true, true_or, false_or, or_false, false_and, and_false, not_true_eq_false, not_false_eq_true] <;> omega))⟩
  refine v_if_ne hC dX12_readLoss_21 (tgt := 44) (by decide) (fun h_58 => ?_) (fun h_58 => ?_)
  · simp only [Int32.lt_iff_toInt_lt, Int32.le_iff_toInt_le, Int32.reduceToInt, ← Int32.toInt_inj] at h_58
    refine v_iconst hC dX12_readLoss_44 (v := 1) (by decide) ?_
    refine v_goto hC dX12_readLoss_45 (tgt := 49) (by decide) ?_
    refine v_pick [0, 1] rfl ?_
    exact jn_73 1 (by decide)
  · simp only [Int32.lt_iff_toInt_lt, Int32.le_iff_toInt_le, Int32.reduceToInt, ← Int32.toInt_inj] at h_58
    refine v_aload_n hC dX12_readLoss_24 rfl ?_
    refine v_ldcwS hC sr_X12_289 dX12_readLoss_25 ?_
    refine v_vi hC (rest := []) m_1 e_24 rfl mi_X12_is ms_X12_is (p_X12_is hW k_0 (by decide)) mx_X12_is ml_X12_152 (by decide) rfl (cells1 := 0) (slots1 := 0) (by decide) (by decide) (Nat.le_of_ble_eq_true rfl) (Nat.le_of_ble_eq_true rfl) rfl (Nat.le_of_ble_eq_true rfl) dX12_readLoss_28 (fun r_4718 L_4719 f_4720 h_4721 => ?_)
    obtain ⟨rfl, rfl, rfl⟩ := h_4721
    refine v_if_ne hC dX12_readLoss_31 (tgt := 44) (by decide) (fun h_4724 => ?_) (fun h_4724 => ?_)
    · simp only [Int32.lt_iff_toInt_lt, Int32.le_iff_toInt_le, Int32.reduceToInt, ← Int32.toInt_inj] at h_4724
      refine v_iconst hC dX12_readLoss_44 (v := 1) (by decide) ?_
      refine v_goto hC dX12_readLoss_45 (tgt := 49) (by decide) ?_
      refine v_pick [0, 1] rfl ?_
      exact jn_73 1 (by decide)
    · simp only [Int32.lt_iff_toInt_lt, Int32.le_iff_toInt_le, Int32.reduceToInt, ← Int32.toInt_inj] at h_4724
      refine v_aload_n hC dX12_readLoss_34 rfl ?_
      refine v_ldcwS hC sr_X12_291 dX12_readLoss_35 ?_
      refine v_vi hC (rest := []) m_1 e_24 rfl mi_X12_is ms_X12_is (p_X12_is hW k_0 (by decide)) mx_X12_is ml_X12_152 (by decide) rfl (cells1 := 0) (slots1 := 0) (by decide) (by decide) (Nat.le_of_ble_eq_true rfl) (Nat.le_of_ble_eq_true rfl) rfl (Nat.le_of_ble_eq_true rfl) dX12_readLoss_38 (fun r_4725 L_4726 f_4727 h_4728 => ?_)
      obtain ⟨rfl, rfl, rfl⟩ := h_4728
      refine v_if_eq hC dX12_readLoss_41 (tgt := 48) (by decide) (fun h_4731 => ?_) (fun h_4731 => ?_)
      · simp only [Int32.lt_iff_toInt_lt, Int32.le_iff_toInt_le, Int32.reduceToInt, ← Int32.toInt_inj] at h_4731
        refine v_iconst hC dX12_readLoss_48 (v := 0) (by decide) ?_
        refine v_pick [0, 1] rfl ?_
        exact jn_73 0 (by decide)
      · simp only [Int32.lt_iff_toInt_lt, Int32.le_iff_toInt_le, Int32.reduceToInt, ← Int32.toInt_inj] at h_4731
        refine v_iconst hC dX12_readLoss_44 (v := 1) (by decide) ?_
        refine v_goto hC dX12_readLoss_45 (tgt := 49) (by decide) ?_
        refine v_pick [0, 1] rfl ?_
        exact jn_73 1 (by decide)
set_option maxRecDepth 100000 in
set_option maxHeartbeats 1500000 in
theorem p_X12_begin {l : Launch} {E : Ez} {L : List Nat} {f : Nat → va_E} {T : Nat → va_E → Prop} {a_0 : Nat} {q : Nat → Nat} (hW : WT T L f) (k_0 : isM T L E a_0 q) : CV l yX12_begin cX12_begin 1 0 0 0 E [.ref a_0] L f (fun L1 f1 => L = L1 ∧ WT T L f1 ∧ FR [12] f f1 ∧ fld (f1 a_0) 12 = 0 ∧ fld (f1 a_0) 8 = 0 ∧ fld (f1 a_0) 20 = fld (f a_0) 20) := by
  refine cv_of (by decide) (Nat.le_of_ble_eq_true rfl) (fun z hz hnm hC hR => ?_)
  have hC : Cx z E cX12_begin RX12 1 0 0 0 := hC
  subst hz
  show V z E 1 0 0 L f 0 [(0, .ref a_0)] []
  obtain ⟨m_1, t_2, nq_21, k_3, k_4, k_5, k_6, k_7, k_8, k_9, k_10, k_11, k_12, k_13, k_14, k_15, k_16, k_17, k_18, k_19, k_20⟩ := id k_0
  obtain ⟨v_23, v_24, v_26, v_28, v_30, v_32, v_34, v_35, v_36, v_37, v_39, e_22, b_25, b_27, b_29, b_31, b_33, b_38, b_40⟩ := hW.at m_1 t_2
  have mz_41 : fld (f a_0) 20 = v_39.toInt := by rw [e_22]; rfl
  refine v_aload_n hC dX12_begin_0 rfl ?_
  refine v_aload_n hC dX12_begin_1 rfl ?_
  refine v_get hC fl_X12_102 m_1 e_22 rfl dX12_begin_2 ?_
  refine v_put hC fl_X12_105 m_1 e_22 rfl rfl (Nat.le_of_ble_eq_true rfl) (fs' := [.int v_23, .ref (q 1), .ref (q 2), .ref (q 3), .ref (q 4), .int v_24, .ref (q 6), .int v_24, .int v_28, .int v_30, .int v_32, .int v_34, .int v_35, .int v_36, .ref (q 14), .ref (q 15), .ref (q 16), .int v_37, .ref (q 18), .ref (q 19), .int v_39, .ref (q 21), .ref (q 22), .ref (q 23), .ref (q 24), .ref (q 25), .ref (q 26), .ref (q 27), .ref (q 28)]) rfl dX12_begin_5 (fun f_42 hf_43 hk_44 => ?_)
  have hW_45 := hW.up hf_43 hk_44 t_2 ⟨v_23, v_24, v_24, v_28, v_30, v_32, v_34, v_35, v_36, v_37, v_39, rfl, (by first | omega | (simp only [Int32.lt_iff_toInt_lt, Int32.le_iff_toInt_le, Int32.reduceToInt, ← Int32.toInt_inj, true_and, and_true, or_true, true_or, false_or, or_false, false_and, and_false, not_true_eq_false, not_false_eq_true] <;> omega)), (by first | omega | (simp only [Int32.lt_iff_toInt_lt, Int32.le_iff_toInt_le, Int32.reduceToInt, ← Int32.toInt_inj, true_and, and_true, or_true, true_or, false_or, or_false, false_and, and_false, not_true_eq_false, not_false_eq_true] <;> omega)), (by first | omega | (simp only [Int32.lt_iff_toInt_lt, Int32.le_iff_toInt_le, Int32.reduceToInt, ← Int32.toInt_inj, true_and, and_true, or_true, true_or, false_or, or_false, false_and, and_false, not_true_eq_false, not_false_eq_true] <;> omega)), (by first | omega | (simp only [Int32.lt_iff_toInt_lt, Int32.le_iff_toInt_le, Int32.reduceToInt, ← Int32.toInt_inj, true_and, and_true, or_true, true_or, false_or, or_false, false_and, and_false, not_true_eq_false, not_false_eq_true] <;> omega)), (by first | omega | (simp only [Int32.lt_iff_toInt_lt, Int32.le_iff_toInt_le, Int32.reduceToInt, ← Int32.toInt_inj, true_and, and_true, or_true, true_or, false_or, or_false, false_and, and_false, not_true_eq_false, not_false_eq_true] <;> omega)), (by first | omega | (simp only [Int32.lt_iff_toInt_lt, Int32.le_iff_toInt_le, Int32.reduceToInt, ← Int32.toInt_inj, true_and, and_true, or_true, true_or, false_or, or_false, false_and, and_false, not_true_eq_false, not_false_eq_true] <;> omega)), (by first | omega | (simp only [Int32.lt_iff_toInt_lt, Int32.le_iff_toInt_le, Int32.reduceToInt, ← Int32.toInt_inj, true_and, and_true, or_true, true_or, false_or, or_false, false_and, and_false, not_true_eq_false, not_false_eq_true] <;> omega))⟩
  have fr_46 := FR.w hk_44 e_22 (k := 12) rfl
  refine v_aload_n hC dX12_begin_8 rfl ?_
  refine v_iconst hC dX12_begin_9 (v := 0) (by decide) ?_
  refine v_put hC fl_X12_102 m_1 hf_43 rfl rfl (Nat.le_of_ble_eq_true rfl) (fs' := [.int v_23, .ref (q 1), .ref (q 2), .ref (q 3), .ref (q 4), .int 0, .ref (q 6), .int v_24, .int v_28, .int v_30, .int v_32, .int v_34, .int v_35, .int v_36, .ref (q 14), .ref (q 15), .ref (q 16), .int v_37, .ref (q 18), .ref (q 19), .int v_39, .ref (q 21), .ref (q 22), .ref (q 23), .ref (q 24), .ref (q 25), .ref (q 26), .ref (q 27), .ref (q 28)]) rfl dX12_begin_10 (fun f_47 hf_48 hk_49 => ?_)
  have hW_50 := hW_45.up hf_48 hk_49 t_2 ⟨v_23, 0, v_24, v_28, v_30, v_32, v_34, v_35, v_36, v_37, v_39, rfl, (by decide), (by first | omega | (simp only [Int32.lt_iff_toInt_lt, Int32.le_iff_toInt_le, Int32.reduceToInt, ← Int32.toInt_inj, true_and, and_true, or_true, true_or, false_or, or_false, false_and, and_false, not_true_eq_false, not_false_eq_true] <;> omega)), (by first | omega | (simp only [Int32.lt_iff_toInt_lt, Int32.le_iff_toInt_le, Int32.reduceToInt, ← Int32.toInt_inj, true_and, and_true, or_true, true_or, false_or, or_false, false_and, and_false, not_true_eq_false, not_false_eq_true] <;> omega)), (by first | omega | (simp only [Int32.lt_iff_toInt_lt, Int32.le_iff_toInt_le, Int32.reduceToInt, ← Int32.toInt_inj, true_and, and_true, or_true, true_or, false_or, or_false, false_and, and_false, not_true_eq_false, not_false_eq_true] <;> omega)), (by first | omega | (simp only [Int32.lt_iff_toInt_lt, Int32.le_iff_toInt_le, Int32.reduceToInt, ← Int32.toInt_inj, true_and, and_true, or_true, true_or, false_or, or_false, false_and, and_false, not_true_eq_false, not_false_eq_true] <;> omega)), (by first | omega | (simp only [Int32.lt_iff_toInt_lt, Int32.le_iff_toInt_le, Int32.reduceToInt, ← Int32.toInt_inj, true_and, and_true, or_true, true_or, false_or, or_false, false_and, and_false, not_true_eq_false, not_false_eq_true] <;> omega)), (by first | omega | (simp only [Int32.lt_iff_toInt_lt, Int32.le_iff_toInt_le, Int32.reduceToInt, ← Int32.toInt_inj, true_and, and_true, or_true, true_or, false_or, or_false, false_and, and_false, not_true_eq_false, not_false_eq_true] <;> omega))⟩
  have fr_51 := FR.w hk_49 hf_43 (k := 12) rfl
  refine v_aload_n hC dX12_begin_13 rfl ?_
  refine v_iconst hC dX12_begin_14 (v := 0) (by decide) ?_
  refine v_put hC fl_X12_108 m_1 hf_48 rfl rfl (Nat.le_of_ble_eq_true rfl) (fs' := [.int v_23, .ref (q 1), .ref (q 2), .ref (q 3), .ref (q 4), .int 0, .ref (q 6), .int v_24, .int 0, .int v_30, .int v_32, .int v_34, .int v_35, .int v_36, .ref (q 14), .ref (q 15), .ref (q 16), .int v_37, .ref (q 18), .ref (q 19), .int v_39, .ref (q 21), .ref (q 22), .ref (q 23), .ref (q 24), .ref (q 25), .ref (q 26), .ref (q 27), .ref (q 28)]) rfl dX12_begin_15 (fun f_52 hf_53 hk_54 => ?_)
  have hW_55 := hW_50.up hf_53 hk_54 t_2 ⟨v_23, 0, v_24, 0, v_30, v_32, v_34, v_35, v_36, v_37, v_39, rfl, (by decide), (by first | omega | (simp only [Int32.lt_iff_toInt_lt, Int32.le_iff_toInt_le, Int32.reduceToInt, ← Int32.toInt_inj, true_and, and_true, or_true, true_or, false_or, or_false, false_and, and_false, not_true_eq_false, not_false_eq_true] <;> omega)), (by decide), (by first | omega | (simp only [Int32.lt_iff_toInt_lt, Int32.le_iff_toInt_le, Int32.reduceToInt, ← Int32.toInt_inj, true_and, and_true, or_true, true_or, false_or, or_false, false_and, and_false, not_true_eq_false, not_false_eq_true] <;> omega)), (by first | omega | (simp only [Int32.lt_iff_toInt_lt, Int32.le_iff_toInt_le, Int32.reduceToInt, ← Int32.toInt_inj, true_and, and_true, or_true, true_or, false_or, or_false, false_and, and_false, not_true_eq_false, not_false_eq_true] <;> omega)), (by first | omega | (simp only [Int32.lt_iff_toInt_lt, Int32.le_iff_toInt_le, Int32.reduceToInt, ← Int32.toInt_inj, true_and, and_true, or_true, true_or, false_or, or_false, false_and, and_false, not_true_eq_false, not_false_eq_true] <;> omega)), (by first | omega | (simp only [Int32.lt_iff_toInt_lt, Int32.le_iff_toInt_le, Int32.reduceToInt, ← Int32.toInt_inj, true_and, and_true, or_true, true_or, false_or, or_false, false_and, and_false, not_true_eq_false, not_false_eq_true] <;> omega))⟩
  have fr_56 := FR.w hk_54 hf_48 (k := 12) rfl
  refine v_aload_n hC dX12_begin_18 rfl ?_
  refine v_iconst hC dX12_begin_19 (v := 0) (by decide) ?_
  refine v_put hC fl_X12_111 m_1 hf_53 rfl rfl (Nat.le_of_ble_eq_true rfl) (fs' := [.int v_23, .ref (q 1), .ref (q 2), .ref (q 3), .ref (q 4), .int 0, .ref (q 6), .int v_24, .int 0, .int v_30, .int v_32, .int v_34, .int 0, .int v_36, .ref (q 14), .ref (q 15), .ref (q 16), .int v_37, .ref (q 18), .ref (q 19), .int v_39, .ref (q 21), .ref (q 22), .ref (q 23), .ref (q 24), .ref (q 25), .ref (q 26), .ref (q 27), .ref (q 28)]) rfl dX12_begin_20 (fun f_57 hf_58 hk_59 => ?_)
  have hW_60 := hW_55.up hf_58 hk_59 t_2 ⟨v_23, 0, v_24, 0, v_30, v_32, v_34, 0, v_36, v_37, v_39, rfl, (by decide), (by first | omega | (simp only [Int32.lt_iff_toInt_lt, Int32.le_iff_toInt_le, Int32.reduceToInt, ← Int32.toInt_inj, true_and, and_true, or_true, true_or, false_or, or_false, false_and, and_false, not_true_eq_false, not_false_eq_true] <;> omega)), (by decide), (by first | omega | (simp only [Int32.lt_iff_toInt_lt, Int32.le_iff_toInt_le, Int32.reduceToInt, ← Int32.toInt_inj, true_and, and_true, or_true, true_or, false_or, or_false, false_and, and_false, not_true_eq_false, not_false_eq_true] <;> omega)), (by first | omega | (simp only [Int32.lt_iff_toInt_lt, Int32.le_iff_toInt_le, Int32.reduceToInt, ← Int32.toInt_inj, true_and, and_true, or_true, true_or, false_or, or_false, false_and, and_false, not_true_eq_false, not_false_eq_true] <;> omega)), (by first | omega | (simp only [Int32.lt_iff_toInt_lt, Int32.le_iff_toInt_le, Int32.reduceToInt, ← Int32.toInt_inj, true_and, and_true, or_true, true_or, false_or, or_false, false_and, and_false, not_true_eq_false, not_false_eq_true] <;> omega)), (by first | omega | (simp only [Int32.lt_iff_toInt_lt, Int32.le_iff_toInt_le, Int32.reduceToInt, ← Int32.toInt_inj, true_and, and_true, or_true, true_or, false_or, or_false, false_and, and_false, not_true_eq_false, not_false_eq_true] <;> omega))⟩
  have fr_61 := FR.w hk_59 hf_53 (k := 12) rfl
  refine v_aload_n hC dX12_begin_23 rfl ?_
  refine v_iconst hC dX12_begin_24 (v := (-1)) (by decide) ?_
  refine v_put hC fl_X12_31 m_1 hf_58 rfl rfl (Nat.le_of_ble_eq_true rfl) (fs' := [.int v_23, .ref (q 1), .ref (q 2), .ref (q 3), .ref (q 4), .int 0, .ref (q 6), .int v_24, .int 0, .int v_30, .int v_32, .int v_34, .int 0, .int (-1), .ref (q 14), .ref (q 15), .ref (q 16), .int v_37, .ref (q 18), .ref (q 19), .int v_39, .ref (q 21), .ref (q 22), .ref (q 23), .ref (q 24), .ref (q 25), .ref (q 26), .ref (q 27), .ref (q 28)]) rfl dX12_begin_25 (fun f_62 hf_63 hk_64 => ?_)
  have hW_65 := hW_60.up hf_63 hk_64 t_2 ⟨v_23, 0, v_24, 0, v_30, v_32, v_34, 0, (-1), v_37, v_39, rfl, (by decide), (by first | omega | (simp only [Int32.lt_iff_toInt_lt, Int32.le_iff_toInt_le, Int32.reduceToInt, ← Int32.toInt_inj, true_and, and_true, or_true, true_or, false_or, or_false, false_and, and_false, not_true_eq_false, not_false_eq_true] <;> omega)), (by decide), (by first | omega | (simp only [Int32.lt_iff_toInt_lt, Int32.le_iff_toInt_le, Int32.reduceToInt, ← Int32.toInt_inj, true_and, and_true, or_true, true_or, false_or, or_false, false_and, and_false, not_true_eq_false, not_false_eq_true] <;> omega)), (by first | omega | (simp only [Int32.lt_iff_toInt_lt, Int32.le_iff_toInt_le, Int32.reduceToInt, ← Int32.toInt_inj, true_and, and_true, or_true, true_or, false_or, or_false, false_and, and_false, not_true_eq_false, not_false_eq_true] <;> omega)), (by first | omega | (simp only [Int32.lt_iff_toInt_lt, Int32.le_iff_toInt_le, Int32.reduceToInt, ← Int32.toInt_inj, true_and, and_true, or_true, true_or, false_or, or_false, false_and, and_false, not_true_eq_false, not_false_eq_true] <;> omega)), (by first | omega | (simp only [Int32.lt_iff_toInt_lt, Int32.le_iff_toInt_le, Int32.reduceToInt, ← Int32.toInt_inj, true_and, and_true, or_true, true_or, false_or, or_false, false_and, and_false, not_true_eq_false, not_false_eq_true] <;> omega))⟩
  have fr_66 := FR.w hk_64 hf_58 (k := 12) rfl
  have fe_67 : fld (f_62 a_0) 12 = (0 : Int32).toInt := by rw [hf_63]; rfl
  simp only [Int32.reduceToInt] at fe_67
  have fe_68 : fld (f_62 a_0) 8 = (0 : Int32).toInt := by rw [hf_63]; rfl
  simp only [Int32.reduceToInt] at fe_68
  have fe_69 : fld (f_62 a_0) 20 = (v_39 : Int32).toInt := by rw [hf_63]; rfl
  exact hR _ _ _ _ _ _ dX12_begin_28 (Nat.le_of_ble_eq_true rfl) (Nat.le_of_ble_eq_true rfl) ⟨rfl, hW_65, (((((fr_46.tr fr_51).tr fr_56).tr fr_61).tr fr_66).mono rfl), (by simp only [fe_67, true_and, and_true, or_true, true_or, false_or, or_false, false_and, and_false, not_true_eq_false, not_false_eq_true] <;> first | omega | (simp only [Int32.lt_iff_toInt_lt, Int32.le_iff_toInt_le, Int32.reduceToInt, ← Int32.toInt_inj, true_and, and_true, or_true, true_or, false_or, or_false, false_and, and_false, not_true_eq_false, not_false_eq_true] <;> omega)), (by simp only [fe_68, true_and, and_true, or_true, true_or, false_or, or_false, false_and, and_false, not_true_eq_false, not_false_eq_true] <;> first | omega | (simp only [Int32.lt_iff_toInt_lt, Int32.le_iff_toInt_le, Int32.reduceToInt, ← Int32.toInt_inj, true_and, and_true, or_true, true_or, false_or, or_false, false_and, and_false, not_true_eq_false, not_false_eq_true] <;> omega)), (by simp only [fe_69, mz_41, true_and, and_true, or_true, true_or, false_or, or_false, false_and, and_false, not_true_eq_false, not_false_eq_true] <;> first | omega | (simp only [Int32.lt_iff_toInt_lt, Int32.le_iff_toInt_le, Int32.reduceToInt, ← Int32.toInt_inj, true_and, and_true, or_true, true_or, false_or, or_false, false_and, and_false, not_true_eq_false, not_false_eq_true] <;> omega))⟩
set_option maxRecDepth 100000 in
set_option maxHeartbeats 1500000 in
theorem p_X12_losses {l : Launch} {E : Ez} {L : List Nat} {f : Nat → va_E} {T : Nat → va_E → Prop} {a_0 : Nat} {q : Nat → Nat} (hW : WT T L f) (k_0 : isM T L E a_0 q) : CI l yX12_losses cX12_losses 1 .int 9 0 0 E [.ref a_0] L f (fun r L1 f1 => L = L1 ∧ WT T L f1 ∧ FR [12, 2176] f f1) := by
  refine ci_of (by decide) (Nat.le_of_ble_eq_true rfl) (fun z hz hnm hC hR => ?_)
  have hC : Cx z E cX12_losses RX12 1 9 0 0 := hC
  subst hz
  show V z E 1 0 0 L f 0 [(0, .ref a_0)] []
  obtain ⟨m_1, t_2, nq_21, k_3, k_4, k_5, k_6, k_7, k_8, k_9, k_10, k_11, k_12, k_13, k_14, k_15, k_16, k_17, k_18, k_19, k_20⟩ := id k_0
  refine v_aload_n hC dX12_losses_0 rfl ?_
  obtain ⟨v_23, v_24, v_26, v_28, v_30, v_32, v_34, v_35, v_36, v_37, v_39, e_22, b_25, b_27, b_29, b_31, b_33, b_38, b_40⟩ := hW.at m_1 t_2
  refine v_vv hC (rest := []) m_1 e_22 rfl mi_X12_begin ms_X12_begin (p_X12_begin hW k_0) mx_X12_begin ml_X12_181 (by decide) rfl (cells1 := 0) (slots1 := 0) (by decide) (by decide) (Nat.le_of_ble_eq_true rfl) (Nat.le_of_ble_eq_true rfl) rfl (Nat.le_of_ble_eq_true rfl) dX12_losses_1 (fun L_42 f_43 h_44 => ?_)
  obtain ⟨rfl, hW_48, hF_49, x_45, x_46, x_47⟩ := h_44
  have fe_50 : fld (f a_0) 20 = (v_39 : Int32).toInt := by rw [e_22]; rfl
  obtain ⟨v_52, v_53, v_55, v_57, v_59, v_61, v_63, v_64, v_65, v_66, v_68, e_51, b_54, b_56, b_58, b_60, b_62, b_67, b_69⟩ := hW_48.at m_1 t_2
  have fe_70 : fld (f_43 a_0) 8 = (v_57 : Int32).toInt := by rw [e_51]; rfl
  have fe_71 : fld (f_43 a_0) 12 = (v_64 : Int32).toInt := by rw [e_51]; rfl
  have fe_72 : fld (f_43 a_0) 20 = (v_68 : Int32).toInt := by rw [e_51]; rfl
  rw [fe_71] at x_45
  rw [fe_70] at x_46
  rw [fe_72, fe_50] at x_47
  clear fe_50 fe_70 fe_71 fe_72
  refine v_aload_n hC dX12_losses_4 rfl ?_
  refine v_get hC fl_X12_34 m_1 e_51 rfl dX12_losses_5 ?_
  refine v_bipush hC dX12_losses_8 (v := 6) (by decide) ?_
  refine v_iconst hC dX12_losses_10 (v := 0) (by decide) ?_
  obtain ⟨m_73, t_74⟩ := id k_8
  obtain ⟨g_76, e_75, ok_77⟩ := hW_48.at m_73 t_74
  refine v_iast hC m_73 e_75 (vp_in_iff.mpr (by decide)) dX12_losses_11 (fun f_78 hf_79 hk_80 => ?_)
  have hW_82 := hW_48.up hf_79 hk_80 t_74 ⟨_, rfl, (ok_77.up (i := 6) (by decide) (fun q1 q2 => absurd (And.intro q1 q2) (by decide)) (fun k9 q1 q2 q3 => by simp only [Int32.reduceToInt] at q3; omega))⟩
  obtain ⟨g_81, hf_79, ok_83, eg_84⟩ : ∃ g9, f_78 (q 14) = aI E 2076 g9 ∧ FOK g9 ∧ g9 = upd g_76 (6 : Int32).toNatClampNeg 0 := ⟨_, hf_79, (ok_77.up (i := 6) (by decide) (fun q1 q2 => absurd (And.intro q1 q2) (by decide)) (fun k9 q1 q2 q3 => by simp only [Int32.reduceToInt] at q3; omega)), rfl⟩
  have hf_85 := (hk_80 a_0 (ne_kd e_51 e_75 rfl)).trans e_51
  have fr_86 := FR.w hk_80 e_75 (k := 2176) rfl
  have gz_87 : (g_81 6).toInt = 0 := by rw [eg_84]; rfl
  have lo_88 : LO g_81 := fun l9 h9 => absurd h9 (by omega)
  refine v_aload_n hC dX12_losses_12 rfl ?_
  refine v_vv hC (rest := []) m_1 hf_85 rfl mi_X12_advance ms_X12_advance (p_X12_advance hW_82 k_0) mx_X12_advance ml_X12_156 (by decide) rfl (cells1 := 0) (slots1 := 0) (by decide) (by decide) (Nat.le_of_ble_eq_true rfl) (Nat.le_of_ble_eq_true rfl) rfl (Nat.le_of_ble_eq_true rfl) dX12_losses_13 (fun L_90 f_91 h_92 => ?_)
  obtain ⟨rfl, hW_97, hF_98, x_93, x_94, x_95, x_96⟩ := h_92
  have fe_99 : fld (f_78 a_0) 8 = (v_57 : Int32).toInt := by rw [hf_85]; rfl
  have fe_100 : fld (f_78 a_0) 12 = (v_64 : Int32).toInt := by rw [hf_85]; rfl
  have fe_101 : fld (f_78 a_0) 20 = (v_68 : Int32).toInt := by rw [hf_85]; rfl
  have hf_102 := hF_98.at hf_79 rfl
  obtain ⟨v_104, v_105, v_107, v_109, v_111, v_113, v_115, v_116, v_117, v_118, v_120, e_103, b_106, b_108, b_110, b_112, b_114, b_119, b_121⟩ := hW_97.at m_1 t_2
  have fe_122 : fld (f_91 a_0) 8 = (v_109 : Int32).toInt := by rw [e_103]; rfl
  have fe_123 : fld (f_91 a_0) 9 = (v_111 : Int32).toInt := by rw [e_103]; rfl
  have fe_124 : fld (f_91 a_0) 10 = (v_113 : Int32).toInt := by rw [e_103]; rfl
  have fe_125 : fld (f_91 a_0) 12 = (v_116 : Int32).toInt := by rw [e_103]; rfl
  have fe_126 : fld (f_91 a_0) 20 = (v_120 : Int32).toInt := by rw [e_103]; rfl
  rw [fe_99, fe_123, fe_122] at x_93
  rw [fe_124, fe_123, fe_122] at x_94
  rw [fe_125, fe_100] at x_95
  rw [fe_126, fe_101] at x_96
  clear fe_99 fe_100 fe_101 fe_122 fe_123 fe_124 fe_125 fe_126
  have lp_588 : ∀ (n_589 : Nat) (f_584 : Nat → va_E) (hW_585 : WT T L f_584) (hF_586 : FR [12, 2176] f_91 f_584)  (cv_587 : ∃ g9 : Nat → Int32, (f_584 (q 14)) = aI E 2076 g9 ∧ FOK g9 ∧ (0 ≤ (g9 6).toInt ∧ (g9 6).toInt ≤ 12) ∧ (¬ fld (f_584 a_0) 12 = 0 ∨ LO g9)) (hm_591 : 600 - fld (f_584 a_0) 8 < (n_589 : Int)), V z E 1 0 0 L f_584 16 [(0, .ref a_0)] [] := by
    intro n_589
    induction n_589 with
    | zero =>
      intro f_584 hW_585 hF_586 cv_587 hm_591
      obtain ⟨g_592, e_593, ok_594, bl_595, lo_596⟩ := cv_587
      obtain ⟨v_598, v_599, v_601, v_603, v_605, v_607, v_609, v_610, v_611, v_612, v_614, e_597, b_600, b_602, b_604, b_606, b_608, b_613, b_615⟩ := hW_585.at m_1 t_2
      have fe_616 : fld (f_584 a_0) 12 = (v_610 : Int32).toInt := by rw [e_597]; rfl
      rw [fe_616] at lo_596
      have h_617 : fld (f_584 a_0) 8 = (v_603 : Int32).toInt := by rw [e_597]; rfl
      rw [h_617] at hm_591
      exfalso; omega
    | succ n_589 ih_590 =>
      intro f_584 hW_585 hF_586 cv_587 hm_591
      obtain ⟨g_592, e_593, ok_594, bl_595, lo_596⟩ := cv_587
      obtain ⟨v_598, v_599, v_601, v_603, v_605, v_607, v_609, v_610, v_611, v_612, v_614, e_597, b_600, b_602, b_604, b_606, b_608, b_613, b_615⟩ := hW_585.at m_1 t_2
      have fe_616 : fld (f_584 a_0) 12 = (v_610 : Int32).toInt := by rw [e_597]; rfl
      rw [fe_616] at lo_596
      have h_617 : fld (f_584 a_0) 8 = (v_603 : Int32).toInt := by rw [e_597]; rfl
      rw [h_617] at hm_591
      refine v_aload_n hC dX12_losses_16 rfl ?_
      refine v_vi hC (rest := []) m_1 e_597 rfl mi_X12_good ms_X12_good (p_X12_good hW_585 k_0) mx_X12_good ml_X12_139 (by decide) rfl (cells1 := 0) (slots1 := 0) (by decide) (by decide) (Nat.le_of_ble_eq_true rfl) (Nat.le_of_ble_eq_true rfl) rfl (Nat.le_of_ble_eq_true rfl) dX12_losses_17 (fun r_618 L_619 f_620 h_621 => ?_)
      obtain ⟨rfl, rfl, b_622, x_623⟩ := h_621
      have fe_626 : fld (f_584 a_0) 12 = (v_610 : Int32).toInt := by rw [e_597]; rfl
      rw [fe_626] at x_623
      clear fe_626
      try simp only [Int32.reduceToInt, Int64.reduceToInt] at x_623
      refine v_if_eq hC dX12_losses_20 (tgt := 37) (by decide) (fun h_627 => ?_) (fun h_627 => ?_)
      · simp only [Int32.lt_iff_toInt_lt, Int32.le_iff_toInt_le, Int32.reduceToInt, ← Int32.toInt_inj] at h_627
        refine v_aload_n hC dX12_losses_37 rfl ?_
        refine v_vi hC (rest := []) m_1 e_597 rfl mi_X12_good ms_X12_good (p_X12_good hW_585 k_0) mx_X12_good ml_X12_139 (by decide) rfl (cells1 := 0) (slots1 := 0) (by decide) (by decide) (Nat.le_of_ble_eq_true rfl) (Nat.le_of_ble_eq_true rfl) rfl (Nat.le_of_ble_eq_true rfl) dX12_losses_38 (fun r_628 L_629 f_630 h_631 => ?_)
        obtain ⟨rfl, rfl, b_632, x_633⟩ := h_631
        have fe_636 : fld (f_584 a_0) 12 = (v_610 : Int32).toInt := by rw [e_597]; rfl
        rw [fe_636] at x_633
        clear fe_636
        try simp only [Int32.reduceToInt, Int64.reduceToInt] at x_633
        refine v_if_ne hC dX12_losses_41 (tgt := 47) (by decide) (fun h_637 => ?_) (fun h_637 => ?_)
        · simp only [Int32.lt_iff_toInt_lt, Int32.le_iff_toInt_le, Int32.reduceToInt, ← Int32.toInt_inj] at h_637
          obtain ⟨m_638, t_639⟩ := id k_3
          obtain ⟨g_641, e_640, ok_642⟩ := hW_585.at m_638 t_639
          have b_643 := ok_642.r0
          have b_644 := ok_642.w0
          refine v_aload_n hC dX12_losses_47 rfl ?_
          refine v_get hC fl_X12_13 m_1 e_597 rfl dX12_losses_48 ?_
          refine v_bipush hC dX12_losses_51 (v := 6) (by decide) ?_
          refine v_aload_n hC dX12_losses_53 rfl ?_
          refine v_get hC fl_X12_34 m_1 e_597 rfl dX12_losses_54 ?_
          refine v_bipush hC dX12_losses_57 (v := 6) (by decide) ?_
          refine v_iald hC m_73 e_593 (vp_in_iff.mpr (by decide)) (v := g_592 6) rfl dX12_losses_59 ?_
          refine v_iast hC m_638 e_640 (vp_in_iff.mpr (by decide)) dX12_losses_60 (fun f_645 hf_646 hk_647 => ?_)
          have hf_648 := (hk_647 a_0 (ne_kd e_597 e_640 rfl)).trans e_597
          have hf_649 := (hk_647 (q 14) nq_21.symm).trans e_593
          refine v_aload_n hC dX12_losses_61 rfl ?_
          refine v_sipush hC dX12_losses_62 (v := 1012) (by decide) ?_
          refine v_sipush hC dX12_losses_65 (v := 1048) (by decide) ?_
          refine v_vv hC (rest := []) m_1 hf_648 rfl mi_X12_keeps ms_X12_keeps (p_X12_keeps k_0 hf_648 hf_646 hf_649 (by decide)) mx_X12_keeps ml_X12_197 (by decide) rfl (cells1 := 0) (slots1 := 0) (by decide) (by decide) (Nat.le_of_ble_eq_true rfl) (Nat.le_of_ble_eq_true rfl) rfl (Nat.le_of_ble_eq_true rfl) dX12_losses_68 (fun L_651 f_652 h_653 => ?_)
          obtain ⟨rfl, hf_654, hk_655⟩ := h_653
          have hf_656 := (hk_655 a_0 (ne_kd hf_648 hf_646 rfl)).trans hf_648
          have hf_657 := (hk_655 (q 14) nq_21.symm).trans hf_649
          have kr_658 : ∀ x9, x9 ≠ (q 1) → f_652 x9 = f_584 x9 := fun x9 hx9 => (hk_655 x9 hx9).trans (hk_647 x9 hx9)
          obtain ⟨g_661, e_662, ok_660, eg_663⟩ : ∃ g9, f_652 (q 1) = aI E 2076 g9 ∧ WOK g9 ∧ g9 = (va_cpy g_592 (upd g_641 6 (g_592 6)) (1012 : Int32).toNatClampNeg (1012 : Int32).toNatClampNeg ((1048 : Int32).toNatClampNeg - (1012 : Int32).toNatClampNeg)) := ⟨_, hf_654, (ok_642.losx (by omega) (lo_596.resolve_left (by omega))), rfl⟩
          have hW_659 := hW_585.up e_662 kr_658 t_639 ⟨_, rfl, ok_660⟩
          have fr_664 := FR.w kr_658 e_640 (k := 2176) rfl
          have b_665 := ok_660.r0
          have b_666 := ok_660.w0
          refine v_aload_n hC dX12_losses_71 rfl ?_
          refine v_get hC fl_X12_13 m_1 hf_656 rfl dX12_losses_72 ?_
          refine v_bipush hC dX12_losses_75 (v := 6) (by decide) ?_
          refine v_iald hC m_638 e_662 (vp_in_iff.mpr (by decide)) (v := g_661 6) rfl dX12_losses_77 ?_
          exact hR _ _ _ _ _ _ _ dX12_losses_78 rfl (Nat.le_of_ble_eq_true rfl) (Nat.le_of_ble_eq_true rfl) ⟨rfl, hW_659, (((((hF_49.tr fr_86).tr hF_98).tr hF_586).tr fr_664).mono rfl)⟩
        · simp only [Int32.lt_iff_toInt_lt, Int32.le_iff_toInt_le, Int32.reduceToInt, ← Int32.toInt_inj] at h_637
          refine v_bipush hC dX12_losses_44 (v := (-4)) (by decide) ?_
          exact hR _ _ _ _ _ _ _ dX12_losses_46 rfl (Nat.le_of_ble_eq_true rfl) (Nat.le_of_ble_eq_true rfl) ⟨rfl, hW_585, ((((hF_49.tr fr_86).tr hF_98).tr hF_586).mono rfl)⟩
      · simp only [Int32.lt_iff_toInt_lt, Int32.le_iff_toInt_le, Int32.reduceToInt, ← Int32.toInt_inj] at h_627
        refine v_aload_n hC dX12_losses_23 rfl ?_
        refine v_get hC fl_X12_120 m_1 e_597 rfl dX12_losses_24 ?_
        refine v_if_eq hC dX12_losses_27 (tgt := 37) (by decide) (fun h_667 => ?_) (fun h_667 => ?_)
        · simp only [Int32.lt_iff_toInt_lt, Int32.le_iff_toInt_le, Int32.reduceToInt, ← Int32.toInt_inj] at h_667
          refine v_aload_n hC dX12_losses_37 rfl ?_
          refine v_vi hC (rest := []) m_1 e_597 rfl mi_X12_good ms_X12_good (p_X12_good hW_585 k_0) mx_X12_good ml_X12_139 (by decide) rfl (cells1 := 0) (slots1 := 0) (by decide) (by decide) (Nat.le_of_ble_eq_true rfl) (Nat.le_of_ble_eq_true rfl) rfl (Nat.le_of_ble_eq_true rfl) dX12_losses_38 (fun r_668 L_669 f_670 h_671 => ?_)
          obtain ⟨rfl, rfl, b_672, x_673⟩ := h_671
          have fe_676 : fld (f_584 a_0) 12 = (v_610 : Int32).toInt := by rw [e_597]; rfl
          rw [fe_676] at x_673
          clear fe_676
          try simp only [Int32.reduceToInt, Int64.reduceToInt] at x_673
          refine v_if_ne hC dX12_losses_41 (tgt := 47) (by decide) (fun h_677 => ?_) (fun h_677 => ?_)
          · simp only [Int32.lt_iff_toInt_lt, Int32.le_iff_toInt_le, Int32.reduceToInt, ← Int32.toInt_inj] at h_677
            obtain ⟨m_678, t_679⟩ := id k_3
            obtain ⟨g_681, e_680, ok_682⟩ := hW_585.at m_678 t_679
            have b_683 := ok_682.r0
            have b_684 := ok_682.w0
            refine v_aload_n hC dX12_losses_47 rfl ?_
            refine v_get hC fl_X12_13 m_1 e_597 rfl dX12_losses_48 ?_
            refine v_bipush hC dX12_losses_51 (v := 6) (by decide) ?_
            refine v_aload_n hC dX12_losses_53 rfl ?_
            refine v_get hC fl_X12_34 m_1 e_597 rfl dX12_losses_54 ?_
            refine v_bipush hC dX12_losses_57 (v := 6) (by decide) ?_
            refine v_iald hC m_73 e_593 (vp_in_iff.mpr (by decide)) (v := g_592 6) rfl dX12_losses_59 ?_
            refine v_iast hC m_678 e_680 (vp_in_iff.mpr (by decide)) dX12_losses_60 (fun f_685 hf_686 hk_687 => ?_)
            have hf_688 := (hk_687 a_0 (ne_kd e_597 e_680 rfl)).trans e_597
            have hf_689 := (hk_687 (q 14) nq_21.symm).trans e_593
            refine v_aload_n hC dX12_losses_61 rfl ?_
            refine v_sipush hC dX12_losses_62 (v := 1012) (by decide) ?_
            refine v_sipush hC dX12_losses_65 (v := 1048) (by decide) ?_
            refine v_vv hC (rest := []) m_1 hf_688 rfl mi_X12_keeps ms_X12_keeps (p_X12_keeps k_0 hf_688 hf_686 hf_689 (by decide)) mx_X12_keeps ml_X12_197 (by decide) rfl (cells1 := 0) (slots1 := 0) (by decide) (by decide) (Nat.le_of_ble_eq_true rfl) (Nat.le_of_ble_eq_true rfl) rfl (Nat.le_of_ble_eq_true rfl) dX12_losses_68 (fun L_691 f_692 h_693 => ?_)
            obtain ⟨rfl, hf_694, hk_695⟩ := h_693
            have hf_696 := (hk_695 a_0 (ne_kd hf_688 hf_686 rfl)).trans hf_688
            have hf_697 := (hk_695 (q 14) nq_21.symm).trans hf_689
            have kr_698 : ∀ x9, x9 ≠ (q 1) → f_692 x9 = f_584 x9 := fun x9 hx9 => (hk_695 x9 hx9).trans (hk_687 x9 hx9)
            obtain ⟨g_701, e_702, ok_700, eg_703⟩ : ∃ g9, f_692 (q 1) = aI E 2076 g9 ∧ WOK g9 ∧ g9 = (va_cpy g_592 (upd g_681 6 (g_592 6)) (1012 : Int32).toNatClampNeg (1012 : Int32).toNatClampNeg ((1048 : Int32).toNatClampNeg - (1012 : Int32).toNatClampNeg)) := ⟨_, hf_694, (ok_682.losx (by omega) (lo_596.resolve_left (by omega))), rfl⟩
            have hW_699 := hW_585.up e_702 kr_698 t_679 ⟨_, rfl, ok_700⟩
            have fr_704 := FR.w kr_698 e_680 (k := 2176) rfl
            have b_705 := ok_700.r0
            have b_706 := ok_700.w0
            refine v_aload_n hC dX12_losses_71 rfl ?_
            refine v_get hC fl_X12_13 m_1 hf_696 rfl dX12_losses_72 ?_
            refine v_bipush hC dX12_losses_75 (v := 6) (by decide) ?_
            refine v_iald hC m_678 e_702 (vp_in_iff.mpr (by decide)) (v := g_701 6) rfl dX12_losses_77 ?_
            exact hR _ _ _ _ _ _ _ dX12_losses_78 rfl (Nat.le_of_ble_eq_true rfl) (Nat.le_of_ble_eq_true rfl) ⟨rfl, hW_699, (((((hF_49.tr fr_86).tr hF_98).tr hF_586).tr fr_704).mono rfl)⟩
          · simp only [Int32.lt_iff_toInt_lt, Int32.le_iff_toInt_le, Int32.reduceToInt, ← Int32.toInt_inj] at h_677
            refine v_bipush hC dX12_losses_44 (v := (-4)) (by decide) ?_
            exact hR _ _ _ _ _ _ _ dX12_losses_46 rfl (Nat.le_of_ble_eq_true rfl) (Nat.le_of_ble_eq_true rfl) ⟨rfl, hW_585, ((((hF_49.tr fr_86).tr hF_98).tr hF_586).mono rfl)⟩
        · simp only [Int32.lt_iff_toInt_lt, Int32.le_iff_toInt_le, Int32.reduceToInt, ← Int32.toInt_inj] at h_667
          refine v_aload_n hC dX12_losses_30 rfl ?_
          refine v_vv hC (rest := []) m_1 e_597 rfl mi_X12_readLoss ms_X12_readLoss (p_X12_readLoss hW_585 k_0 e_593 ok_594 (by first | omega | (simp only [Int32.lt_iff_toInt_lt, Int32.le_iff_toInt_le, Int32.reduceToInt, ← Int32.toInt_inj, true_and, and_true, or_true, true_or, false_or, or_false, false_and, and_false, not_true_eq_false, not_false_eq_true] <;> omega)) (lo_596.resolve_left (by omega))) mx_X12_readLoss ml_X12_298 (by decide) rfl (cells1 := 0) (slots1 := 0) (by decide) (by decide) (Nat.le_of_ble_eq_true rfl) (Nat.le_of_ble_eq_true rfl) rfl (Nat.le_of_ble_eq_true rfl) dX12_losses_31 (fun L_708 f_709 h_710 => ?_)
          obtain ⟨rfl, hW_714, hF_715, x_711, x_712, x_713⟩ := h_710
          have fe_716 : fld (f_584 a_0) 8 = (v_603 : Int32).toInt := by rw [e_597]; rfl
          have fe_717 : fld (f_584 a_0) 12 = (v_610 : Int32).toInt := by rw [e_597]; rfl
          have fe_718 : fld (f_584 a_0) 20 = (v_614 : Int32).toInt := by rw [e_597]; rfl
          obtain ⟨v_720, v_721, v_723, v_725, v_727, v_729, v_731, v_732, v_733, v_734, v_736, e_719, b_722, b_724, b_726, b_728, b_730, b_735, b_737⟩ := hW_714.at m_1 t_2
          have fe_738 : fld (f_709 a_0) 8 = (v_725 : Int32).toInt := by rw [e_719]; rfl
          have fe_739 : fld (f_709 a_0) 12 = (v_732 : Int32).toInt := by rw [e_719]; rfl
          have fe_740 : fld (f_709 a_0) 20 = (v_736 : Int32).toInt := by rw [e_719]; rfl
          rw [fe_739] at x_711
          rw [fe_739, fe_717, fe_716, fe_738] at x_712
          rw [fe_740, fe_718] at x_713
          clear fe_716 fe_717 fe_718 fe_738 fe_739 fe_740
          obtain ⟨g_741, e_742, ok_743, bl_744, lo_745⟩ := x_711
          have fe_746 : fld (f_709 a_0) 12 = (v_732 : Int32).toInt := by rw [e_719]; rfl
          rw [fe_746] at lo_745
          refine v_goto hC dX12_losses_34 (tgt := 16) (by decide) ?_
          refine v_pick [0] rfl ?_
          have fe_747 : fld (f_709 a_0) 12 = (v_732 : Int32).toInt := by rw [e_719]; rfl
          have h_748 : fld (f_709 a_0) 8 = (v_725 : Int32).toInt := by rw [e_719]; rfl
          exact ih_590 f_709 hW_714 ((hF_586.tr hF_715).mono rfl) ⟨_, e_742, ok_743, (by omega), (by rw [fe_747]; exact lo_745)⟩ (by rw [h_748]; omega)
  refine v_pick [0] rfl ?_
  have fe_749 : fld (f_91 a_0) 12 = (v_116 : Int32).toInt := by rw [e_103]; rfl
  have h_750 : fld (f_91 a_0) 8 = (v_109 : Int32).toInt := by rw [e_103]; rfl
  exact lp_588 602 f_91 hW_97 FR.rf ⟨_, hf_102, ok_83, (by omega), .inr lo_88⟩ (by rw [h_750]; omega)
