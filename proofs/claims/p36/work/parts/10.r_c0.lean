set_option maxRecDepth 100000 in
set_option maxHeartbeats 1500000 in
theorem p_X12_keeps {l : Launch} {E : Ez} {L : List Nat} {f : Nat → va_E} {T : Nat → va_E → Prop} {a_0 : Nat} {a_1 a_2 : Int32} {q : Nat → Nat} {g_w g_f : Nat → Int32} {u_0 u_5 u_7 u_8 u_9 u_10 u_11 u_12 u_13 u_17 u_20 : Int32} (k_0 : isM T L E a_0 q) (e_m : f a_0 = ob 12 [.int u_0, .ref (q 1), .ref (q 2), .ref (q 3), .ref (q 4), .int u_5, .ref (q 6), .int u_7, .int u_8, .int u_9, .int u_10, .int u_11, .int u_12, .int u_13, .ref (q 14), .ref (q 15), .ref (q 16), .int u_17, .ref (q 18), .ref (q 19), .int u_20, .ref (q 21), .ref (q 22), .ref (q 23), .ref (q 24), .ref (q 25), .ref (q 26), .ref (q 27), .ref (q 28)]) (e_w : f (q 1) = aI E 2076 g_w) (e_f : f (q 14) = aI E 2076 g_f) (g_1 : 0 ≤ a_1.toInt ∧ a_1.toInt ≤ a_2.toInt ∧ a_2.toInt ≤ 2076) : CV l yX12_keeps cX12_keeps 4 0 0 0 E [.ref a_0, .int a_1, .int a_2] L f (fun L1 f1 => L = L1 ∧ f1 (q 1) = aI E 2076 (va_cpy g_f g_w a_1.toNatClampNeg a_1.toNatClampNeg (a_2.toNatClampNeg - a_1.toNatClampNeg)) ∧ ∀ x9, x9 ≠ (q 1) → f1 x9 = f x9) := by
  refine cv_of (by decide) (Nat.le_of_ble_eq_true rfl) (fun z hz hnm hC hR => ?_)
  have hC : Cx z E cX12_keeps RX12 4 0 0 0 := hC
  subst hz
  show V z E 4 0 0 L f 0 [(0, .ref a_0), (1, .int a_1), (2, .int a_2)] []
  obtain ⟨m_1, t_2, nq_21, k_3, k_4, k_5, k_6, k_7, k_8, k_9, k_10, k_11, k_12, k_13, k_14, k_15, k_16, k_17, k_18, k_19, k_20⟩ := id k_0
  obtain ⟨m_22, t_23⟩ := id k_3
  obtain ⟨m_24, t_25⟩ := id k_8
  refine v_iload_n hC dX12_keeps_0 rfl ?_
  refine v_istore_n hC dX12_keeps_1 (by decide) (lv' := [(3, .int a_1), (0, .ref a_0), (1, .int a_1), (2, .int a_2)]) rfl ?_
  have lp_34 : ∀ (n_27 : Nat) (f_30 : Nat → va_E) (i_26 : Int32) (b_33 : (a_1 : Int32).toInt ≤ i_26.toInt ∧ i_26.toInt ≤ a_2.toInt) (eR_31 : f_30 (q 1) = aI E 2076 (va_cpy g_f g_w a_1.toNatClampNeg a_1.toNatClampNeg (i_26.toNatClampNeg - a_1.toNatClampNeg))) (kR_32 : ∀ x9, x9 ≠ (q 1) → f_30 x9 = f x9) (hm_29 : a_2.toInt - i_26.toInt < (n_27 : Int)), V z E 4 0 0 L f_30 2 [(3, .int i_26), (0, .ref a_0), (2, .int a_2)] [] := by
    intro n_27
    induction n_27 with
    | zero =>
      intro f_30 i_26 b_33 eR_31 kR_32 hm_29
      exfalso; omega
    | succ n_27 ih_28 =>
      intro f_30 i_26 b_33 eR_31 kR_32 hm_29
      have hf_35 := (kR_32 a_0 (ne_kd e_m e_w rfl)).trans e_m
      have hf_36 := (kR_32 (q 14) nq_21.symm).trans e_f
      refine v_iload_n hC dX12_keeps_2 rfl ?_
      refine v_iload_n hC dX12_keeps_3 rfl ?_
      refine v_icmp_ge hC dX12_keeps_4 (tgt := 25) (by decide) (fun h_37 => ?_) (fun h_37 => ?_)
      · simp only [Int32.lt_iff_toInt_lt, Int32.le_iff_toInt_le, Int32.reduceToInt, ← Int32.toInt_inj] at h_37
        exact hR _ _ _ _ _ _ dX12_keeps_25 (Nat.le_of_ble_eq_true rfl) (Nat.le_of_ble_eq_true rfl) ⟨rfl, eR_31.trans (congrArg (aI E 2076) (by rw [show (i_26 : Int32).toNatClampNeg = a_2.toNatClampNeg from by rw [clamp_t, clamp_t]; omega])), kR_32⟩
      · simp only [Int32.lt_iff_toInt_lt, Int32.le_iff_toInt_le, Int32.reduceToInt, ← Int32.toInt_inj] at h_37
        refine v_aload_n hC dX12_keeps_7 rfl ?_
        refine v_get hC fl_X12_13 m_1 hf_35 rfl dX12_keeps_8 ?_
        refine v_iload_n hC dX12_keeps_11 rfl ?_
        refine v_aload_n hC dX12_keeps_12 rfl ?_
        refine v_get hC fl_X12_34 m_1 hf_35 rfl dX12_keeps_13 ?_
        refine v_iload_n hC dX12_keeps_16 rfl ?_
        obtain ⟨v_38, h_39⟩ : ∃ v9 : Int32, g_f (i_26 : Int32).toNatClampNeg = v9 := ⟨_, rfl⟩
        refine v_iald hC m_24 hf_36 (vp_in_iff.mpr (by first | omega | (simp only [Int32.lt_iff_toInt_lt, Int32.le_iff_toInt_le, Int32.reduceToInt, ← Int32.toInt_inj, true_and, and_true, or_true, true_or, false_or, or_false, false_and, and_false, not_true_eq_false, not_false_eq_true] <;> omega))) h_39 dX12_keeps_17 ?_
        refine v_iast hC m_22 eR_31 (vp_in_iff.mpr (by first | omega | (simp only [Int32.lt_iff_toInt_lt, Int32.le_iff_toInt_le, Int32.reduceToInt, ← Int32.toInt_inj, true_and, and_true, or_true, true_or, false_or, or_false, false_and, and_false, not_true_eq_false, not_false_eq_true] <;> omega))) dX12_keeps_18 (fun f_40 hf_41 hk_42 => ?_)
        have hf_43 := (hk_42 a_0 (ne_kd hf_35 eR_31 rfl)).trans hf_35
        have hf_44 := (hk_42 (q 14) nq_21.symm).trans hf_36
        have kr_45 : ∀ x9, x9 ≠ (q 1) → f_40 x9 = f x9 := fun x9 hx9 => (hk_42 x9 hx9).trans (kR_32 x9 hx9)
        obtain ⟨v_46, h_47⟩ : ∃ v9 : Int32, i_26 + Int32.ofInt 1 = v9 := ⟨_, rfl⟩
        have h_48 := add_v (b := 1) h_47 (by first | omega | (simp only [Int32.lt_iff_toInt_lt, Int32.le_iff_toInt_le, Int32.reduceToInt, ← Int32.toInt_inj, true_and, and_true, or_true, true_or, false_or, or_false, false_and, and_false, not_true_eq_false, not_false_eq_true] <;> omega)) (by first | omega | (simp only [Int32.lt_iff_toInt_lt, Int32.le_iff_toInt_le, Int32.reduceToInt, ← Int32.toInt_inj, true_and, and_true, or_true, true_or, false_or, or_false, false_and, and_false, not_true_eq_false, not_false_eq_true] <;> omega))
        simp only [Int32.reduceToInt] at h_48
        refine v_iinc hC dX12_keeps_19 (k := 0) rfl (v := v_46) h_47 (by decide) (lv' := [(3, .int v_46), (0, .ref a_0), (2, .int a_2)]) rfl ?_
        refine v_goto hC dX12_keeps_22 (tgt := 2) (by decide) ?_
        refine v_pick [0, 1, 2] rfl ?_
        have kx_49 : ∀ x9, x9 ≠ (q 1) → f_40 x9 = f x9 := fun x9 hx9 => (hk_42 x9 hx9).trans (kR_32 x9 hx9)
        exact ih_28 f_40 v_46 (by omega) (hf_41.trans (congrArg (aI E 2076) ((cpy_step (by rw [clamp_t, clamp_t]; omega) (by rw [← h_39, show a_1.toNatClampNeg + (i_26.toNatClampNeg - a_1.toNatClampNeg) = i_26.toNatClampNeg from by rw [clamp_t, clamp_t]; omega])).trans (by rw [show i_26.toNatClampNeg - a_1.toNatClampNeg + 1 = v_46.toNatClampNeg - a_1.toNatClampNeg from by rw [clamp_t, clamp_t, clamp_t]; omega])))) kx_49 (by omega)
  refine v_pick [0, 1, 3] rfl ?_
  exact lp_34 7000 f a_1 (by first | omega | decide) (e_w.trans (congrArg (aI E 2076) (by simp only [Nat.sub_self, cpy_nil, clamp_0]))) (fun _ _ => rfl) (by first | omega | (simp only [Int32.reduceToInt]; omega))
set_option maxRecDepth 100000 in
set_option maxHeartbeats 1500000 in
theorem p_X12_clears {l : Launch} {E : Ez} {L : List Nat} {f : Nat → va_E} {T : Nat → va_E → Prop} {a_0 : Nat} {a_1 a_2 : Int32} {q : Nat → Nat} {g_f : Nat → Int32} {u_0 u_5 u_7 u_8 u_9 u_10 u_11 u_12 u_13 u_17 u_20 : Int32} (k_0 : isM T L E a_0 q) (e_m : f a_0 = ob 12 [.int u_0, .ref (q 1), .ref (q 2), .ref (q 3), .ref (q 4), .int u_5, .ref (q 6), .int u_7, .int u_8, .int u_9, .int u_10, .int u_11, .int u_12, .int u_13, .ref (q 14), .ref (q 15), .ref (q 16), .int u_17, .ref (q 18), .ref (q 19), .int u_20, .ref (q 21), .ref (q 22), .ref (q 23), .ref (q 24), .ref (q 25), .ref (q 26), .ref (q 27), .ref (q 28)]) (e_f : f (q 14) = aI E 2076 g_f) (g_1 : 0 ≤ a_1.toInt ∧ a_1.toInt ≤ a_2.toInt ∧ a_2.toInt ≤ 2076) : CV l yX12_clears cX12_clears 4 0 0 0 E [.ref a_0, .int a_1, .int a_2] L f (fun L1 f1 => L = L1 ∧ f1 (q 14) = aI E 2076 (va_cpy (fun _ => 0) g_f a_1.toNatClampNeg a_1.toNatClampNeg (a_2.toNatClampNeg - a_1.toNatClampNeg)) ∧ ∀ x9, x9 ≠ (q 14) → f1 x9 = f x9) := by
  refine cv_of (by decide) (Nat.le_of_ble_eq_true rfl) (fun z hz hnm hC hR => ?_)
  have hC : Cx z E cX12_clears RX12 4 0 0 0 := hC
  subst hz
  show V z E 4 0 0 L f 0 [(0, .ref a_0), (1, .int a_1), (2, .int a_2)] []
  obtain ⟨m_1, t_2, nq_21, k_3, k_4, k_5, k_6, k_7, k_8, k_9, k_10, k_11, k_12, k_13, k_14, k_15, k_16, k_17, k_18, k_19, k_20⟩ := id k_0
  obtain ⟨m_22, t_23⟩ := id k_3
  obtain ⟨m_24, t_25⟩ := id k_8
  refine v_iload_n hC dX12_clears_0 rfl ?_
  refine v_istore_n hC dX12_clears_1 (by decide) (lv' := [(3, .int a_1), (0, .ref a_0), (1, .int a_1), (2, .int a_2)]) rfl ?_
  have lp_34 : ∀ (n_27 : Nat) (f_30 : Nat → va_E) (i_26 : Int32) (b_33 : (a_1 : Int32).toInt ≤ i_26.toInt ∧ i_26.toInt ≤ a_2.toInt) (eR_31 : f_30 (q 14) = aI E 2076 (va_cpy (fun _ => 0) g_f a_1.toNatClampNeg a_1.toNatClampNeg (i_26.toNatClampNeg - a_1.toNatClampNeg))) (kR_32 : ∀ x9, x9 ≠ (q 14) → f_30 x9 = f x9) (hm_29 : a_2.toInt - i_26.toInt < (n_27 : Int)), V z E 4 0 0 L f_30 2 [(3, .int i_26), (0, .ref a_0), (2, .int a_2)] [] := by
    intro n_27
    induction n_27 with
    | zero =>
      intro f_30 i_26 b_33 eR_31 kR_32 hm_29
      exfalso; omega
    | succ n_27 ih_28 =>
      intro f_30 i_26 b_33 eR_31 kR_32 hm_29
      have hf_35 := (kR_32 a_0 (ne_kd e_m e_f rfl)).trans e_m
      refine v_iload_n hC dX12_clears_2 rfl ?_
      refine v_iload_n hC dX12_clears_3 rfl ?_
      refine v_icmp_ge hC dX12_clears_4 (tgt := 20) (by decide) (fun h_36 => ?_) (fun h_36 => ?_)
      · simp only [Int32.lt_iff_toInt_lt, Int32.le_iff_toInt_le, Int32.reduceToInt, ← Int32.toInt_inj] at h_36
        exact hR _ _ _ _ _ _ dX12_clears_20 (Nat.le_of_ble_eq_true rfl) (Nat.le_of_ble_eq_true rfl) ⟨rfl, eR_31.trans (congrArg (aI E 2076) (by rw [show (i_26 : Int32).toNatClampNeg = a_2.toNatClampNeg from by rw [clamp_t, clamp_t]; omega])), kR_32⟩
      · simp only [Int32.lt_iff_toInt_lt, Int32.le_iff_toInt_le, Int32.reduceToInt, ← Int32.toInt_inj] at h_36
        refine v_aload_n hC dX12_clears_7 rfl ?_
        refine v_get hC fl_X12_34 m_1 hf_35 rfl dX12_clears_8 ?_
        refine v_iload_n hC dX12_clears_11 rfl ?_
        refine v_iconst hC dX12_clears_12 (v := 0) (by decide) ?_
        refine v_iast hC m_24 eR_31 (vp_in_iff.mpr (by first | omega | (simp only [Int32.lt_iff_toInt_lt, Int32.le_iff_toInt_le, Int32.reduceToInt, ← Int32.toInt_inj, true_and, and_true, or_true, true_or, false_or, or_false, false_and, and_false, not_true_eq_false, not_false_eq_true] <;> omega))) dX12_clears_13 (fun f_37 hf_38 hk_39 => ?_)
        have hf_40 := (hk_39 a_0 (ne_kd hf_35 eR_31 rfl)).trans hf_35
        have kr_41 : ∀ x9, x9 ≠ (q 14) → f_37 x9 = f x9 := fun x9 hx9 => (hk_39 x9 hx9).trans (kR_32 x9 hx9)
        obtain ⟨v_42, h_43⟩ : ∃ v9 : Int32, i_26 + Int32.ofInt 1 = v9 := ⟨_, rfl⟩
        have h_44 := add_v (b := 1) h_43 (by first | omega | (simp only [Int32.lt_iff_toInt_lt, Int32.le_iff_toInt_le, Int32.reduceToInt, ← Int32.toInt_inj, true_and, and_true, or_true, true_or, false_or, or_false, false_and, and_false, not_true_eq_false, not_false_eq_true] <;> omega)) (by first | omega | (simp only [Int32.lt_iff_toInt_lt, Int32.le_iff_toInt_le, Int32.reduceToInt, ← Int32.toInt_inj, true_and, and_true, or_true, true_or, false_or, or_false, false_and, and_false, not_true_eq_false, not_false_eq_true] <;> omega))
        simp only [Int32.reduceToInt] at h_44
        refine v_iinc hC dX12_clears_14 (k := 0) rfl (v := v_42) h_43 (by decide) (lv' := [(3, .int v_42), (0, .ref a_0), (2, .int a_2)]) rfl ?_
        refine v_goto hC dX12_clears_17 (tgt := 2) (by decide) ?_
        refine v_pick [0, 1, 2] rfl ?_
        have kx_45 : ∀ x9, x9 ≠ (q 14) → f_37 x9 = f x9 := fun x9 hx9 => (hk_39 x9 hx9).trans (kR_32 x9 hx9)
        exact ih_28 f_37 v_42 (by omega) (hf_38.trans (congrArg (aI E 2076) ((cpy_step (by rw [clamp_t, clamp_t]; omega) rfl).trans (by rw [show i_26.toNatClampNeg - a_1.toNatClampNeg + 1 = v_42.toNatClampNeg - a_1.toNatClampNeg from by rw [clamp_t, clamp_t, clamp_t]; omega])))) kx_45 (by omega)
  refine v_pick [0, 1, 3] rfl ?_
  exact lp_34 7000 f a_1 (by first | omega | decide) (e_f.trans (congrArg (aI E 2076) (by simp only [Nat.sub_self, cpy_nil, clamp_0]))) (fun _ _ => rfl) (by first | omega | (simp only [Int32.reduceToInt]; omega))
set_option maxRecDepth 100000 in
set_option maxHeartbeats 1500000 in
theorem p_X12_good {l : Launch} {E : Ez} {L : List Nat} {f : Nat → va_E} {T : Nat → va_E → Prop} {a_0 : Nat} {q : Nat → Nat} (hW : WT T L f) (k_0 : isM T L E a_0 q) : CI l yX12_good cX12_good 1 .boolean 0 0 0 E [.ref a_0] L f (fun r L1 f1 => L = L1 ∧ f = f1 ∧ (0 ≤ r.toInt ∧ r.toInt ≤ 1) ∧ ((r.toInt = 1 ∧ fld (f a_0) 12 = 0) ∨ (r.toInt = 0 ∧ ¬ fld (f a_0) 12 = 0))) := by
  refine ci_of (by decide) (Nat.le_of_ble_eq_true rfl) (fun z hz hnm hC hR => ?_)
  have hC : Cx z E cX12_good RX12 1 0 0 0 := hC
  subst hz
  show V z E 1 0 0 L f 0 [(0, .ref a_0)] []
  obtain ⟨m_1, t_2, nq_21, k_3, k_4, k_5, k_6, k_7, k_8, k_9, k_10, k_11, k_12, k_13, k_14, k_15, k_16, k_17, k_18, k_19, k_20⟩ := id k_0
  obtain ⟨v_23, v_24, v_26, v_28, v_30, v_32, v_34, v_35, v_36, v_37, v_39, e_22, b_25, b_27, b_29, b_31, b_33, b_38, b_40⟩ := hW.at m_1 t_2
  have mz_41 : fld (f a_0) 12 = v_35.toInt := by rw [e_22]; rfl
  refine v_aload_n hC dX12_good_0 rfl ?_
  refine v_get hC fl_X12_111 m_1 e_22 rfl dX12_good_1 ?_
  refine v_if_ne hC dX12_good_4 (tgt := 11) (by decide) (fun h_42 => ?_) (fun h_42 => ?_)
  · simp only [Int32.lt_iff_toInt_lt, Int32.le_iff_toInt_le, Int32.reduceToInt, ← Int32.toInt_inj] at h_42
    refine v_iconst hC dX12_good_11 (v := 0) (by decide) ?_
    exact hR _ _ _ _ _ _ _ dX12_good_12 rfl (Nat.le_of_ble_eq_true rfl) (Nat.le_of_ble_eq_true rfl) ⟨rfl, rfl, (by decide), (by simp only [mz_41, true_and, and_true, or_true, true_or, false_or, or_false, false_and, and_false, not_true_eq_false, not_false_eq_true] <;> first | omega | (simp only [Int32.lt_iff_toInt_lt, Int32.le_iff_toInt_le, Int32.reduceToInt, ← Int32.toInt_inj, true_and, and_true, or_true, true_or, false_or, or_false, false_and, and_false, not_true_eq_false, not_false_eq_true] <;> omega))⟩
  · simp only [Int32.lt_iff_toInt_lt, Int32.le_iff_toInt_le, Int32.reduceToInt, ← Int32.toInt_inj] at h_42
    refine v_iconst hC dX12_good_7 (v := 1) (by decide) ?_
    refine v_goto hC dX12_good_8 (tgt := 12) (by decide) ?_
    exact hR _ _ _ _ _ _ _ dX12_good_12 rfl (Nat.le_of_ble_eq_true rfl) (Nat.le_of_ble_eq_true rfl) ⟨rfl, rfl, (by decide), (by simp only [mz_41, true_and, and_true, or_true, true_or, false_or, or_false, false_and, and_false, not_true_eq_false, not_false_eq_true] <;> first | omega | (simp only [Int32.lt_iff_toInt_lt, Int32.le_iff_toInt_le, Int32.reduceToInt, ← Int32.toInt_inj, true_and, and_true, or_true, true_or, false_or, or_false, false_and, and_false, not_true_eq_false, not_false_eq_true] <;> omega))⟩
set_option maxRecDepth 100000 in
set_option maxHeartbeats 1500000 in
theorem p_J0_coder_7d493 {l : Launch} {E : Ez} {L : List Nat} {f : Nat → va_E} {T : Nat → va_E → Prop} {a_0 : Nat} (hW : WT T L f) (ha_0 : a_0 < 77) : CI l yJ0_coder_7d493 cJ0_coder_7d493 1 .byte 0 0 0 E [.ref (eK E a_0)] L f (fun r L1 f1 => L = L1 ∧ f = f1 ∧ (0 ≤ r.toInt ∧ r.toInt ≤ 0) ∧ narrow .byte (.int r) = .int r) := by
  refine ci_of (by decide) (Nat.le_of_ble_eq_true rfl) (fun z hz hnm hC hR => ?_)
  have hC : Cx z E cJ0_coder_7d493 RJ0 1 0 0 0 := hC
  subst hz
  show V z E 1 0 0 L f 0 [(0, .ref (eK E a_0))] []
  refine v_getCS hC sf_J0_38 dJ0_coder_7d493_0 ?_
  refine v_if_eq_f hC dJ0_coder_7d493_3 (tgt := 13) (by decide) (by decide) ?_
  refine v_aload_n hC dJ0_coder_7d493_6 rfl ?_
  refine v_getSc hC ha_0 sf_J0_15 dJ0_coder_7d493_7 ?_
  refine v_goto hC dJ0_coder_7d493_10 (tgt := 14) (by decide) ?_
  exact hR _ _ _ _ _ _ _ dJ0_coder_7d493_14 rfl (Nat.le_of_ble_eq_true rfl) (Nat.le_of_ble_eq_true rfl) ⟨rfl, rfl, (by decide), rfl⟩
set_option maxRecDepth 100000 in
set_option maxHeartbeats 1500000 in
theorem p_J0_length_8abf5 {l : Launch} {E : Ez} {L : List Nat} {f : Nat → va_E} {T : Nat → va_E → Prop} {a_0 : Nat} (hW : WT T L f) (ha_0 : a_0 < 77) : CI l yJ0_length_8abf5 cJ0_length_8abf5 1 .int 1 0 0 E [.ref (eK E a_0)] L f (fun r L1 f1 => L = L1 ∧ f = f1 ∧ (0 ≤ r.toInt ∧ r.toInt ≤ 40) ∧ r.toInt = ((bytStr.getD a_0 []).length : Int)) := by
  refine ci_of (by decide) (Nat.le_of_ble_eq_true rfl) (fun z hz hnm hC hR => ?_)
  have hC : Cx z E cJ0_length_8abf5 RJ0 1 1 0 0 := hC
  subst hz
  show V z E 1 0 0 L f 0 [(0, .ref (eK E a_0))] []
  refine v_aload_n hC dJ0_length_8abf5_0 rfl ?_
  refine v_getSv hC ha_0 sf_J0_9 dJ0_length_8abf5_1 ?_
  obtain ⟨v_1, h_2⟩ : ∃ v9 : Int32, nI (bytStr.getD a_0 []).length = v9 := ⟨_, rfl⟩
  refine v_alenS hC ha_0 dJ0_length_8abf5_4 ?_
  have b_3 := len_v ha_0
  rw [h_2] at b_3 ⊢
  refine v_aload_n hC dJ0_length_8abf5_5 rfl ?_
  refine v_viS hC (rest := [.int v_1]) ha_0 rfl mi_J0_coder_7d493 ms_J0_coder_7d493 (p_J0_coder_7d493 hW ha_0) mx_J0_coder_7d493 ml_J0_335 (by decide) rfl (cells1 := 0) (slots1 := 0) (by decide) (by decide) (Nat.le_of_ble_eq_true rfl) (Nat.le_of_ble_eq_true rfl) rfl (Nat.le_of_ble_eq_true rfl) dJ0_length_8abf5_6 (fun r_4 L_5 f_6 h_7 => ?_)
  obtain ⟨rfl, rfl, b_8, nr_9⟩ := h_7
  obtain rfl : r_4 = 0 := Int32.toInt_inj.mp (by simp only [Int32.reduceToInt]; omega)
  refine v_ishr hC dJ0_length_8abf5_9 (sb_shr0 _) ?_
  exact hR _ _ _ _ _ _ _ dJ0_length_8abf5_10 rfl (Nat.le_of_ble_eq_true rfl) (Nat.le_of_ble_eq_true rfl) ⟨rfl, rfl, (by first | omega | (simp only [Int32.lt_iff_toInt_lt, Int32.le_iff_toInt_le, Int32.reduceToInt, ← Int32.toInt_inj, true_and, and_true, or_true, true_or, false_or, or_false, false_and, and_false, not_true_eq_false, not_false_eq_true] <;> omega)), (by first | omega | (simp only [Int32.lt_iff_toInt_lt, Int32.le_iff_toInt_le, Int32.reduceToInt, ← Int32.toInt_inj, true_and, and_true, or_true, true_or, false_or, or_false, false_and, and_false, not_true_eq_false, not_false_eq_true] <;> omega))⟩
set_option maxRecDepth 100000 in
set_option maxHeartbeats 1500000 in
theorem p_J0_isLatin1_aae02 {l : Launch} {E : Ez} {L : List Nat} {f : Nat → va_E} {T : Nat → va_E → Prop} {a_0 : Nat} (hW : WT T L f) (ha_0 : a_0 < 77) : CI l yJ0_isLatin1_aae02 cJ0_isLatin1_aae02 1 .boolean 0 0 0 E [.ref (eK E a_0)] L f (fun r L1 f1 => L = L1 ∧ f = f1 ∧ (1 ≤ r.toInt ∧ r.toInt ≤ 1)) := by
  refine ci_of (by decide) (Nat.le_of_ble_eq_true rfl) (fun z hz hnm hC hR => ?_)
  have hC : Cx z E cJ0_isLatin1_aae02 RJ0 1 0 0 0 := hC
  subst hz
  show V z E 1 0 0 L f 0 [(0, .ref (eK E a_0))] []
  refine v_getCS hC sf_J0_38 dJ0_isLatin1_aae02_0 ?_
  refine v_if_eq_f hC dJ0_isLatin1_aae02_3 (tgt := 17) (by decide) (by decide) ?_
  refine v_aload_n hC dJ0_isLatin1_aae02_6 rfl ?_
  refine v_getSc hC ha_0 sf_J0_15 dJ0_isLatin1_aae02_7 ?_
  refine v_if_ne_f hC dJ0_isLatin1_aae02_10 (tgt := 17) (by decide) (by decide) ?_
  refine v_iconst hC dJ0_isLatin1_aae02_13 (v := 1) (by decide) ?_
  refine v_goto hC dJ0_isLatin1_aae02_14 (tgt := 18) (by decide) ?_
  exact hR _ _ _ _ _ _ _ dJ0_isLatin1_aae02_18 rfl (Nat.le_of_ble_eq_true rfl) (Nat.le_of_ble_eq_true rfl) ⟨rfl, rfl, (by decide)⟩
set_option maxRecDepth 100000 in
set_option maxHeartbeats 1500000 in
theorem p_J3_checkIndex_8e157 {l : Launch} {E : Ez} {L : List Nat} {f : Nat → va_E} {T : Nat → va_E → Prop} {a_0 : Int32} {a_1 : Int32} (hW : WT T L f) (hlen : 0 ≤ a_0.toInt ∧ a_0.toInt < a_1.toInt) : CI l yJ3_checkIndex_8e157 cJ3_checkIndex_8e157 3 .int 0 0 0 E [.int a_0, .int a_1, .null] L f (fun r L1 f1 => L = L1 ∧ f = f1) := by
  refine ci_of (by decide) (Nat.le_of_ble_eq_true rfl) (fun z hz hnm hC hR => ?_)
  have hC : Cx z E cJ3_checkIndex_8e157 RJ3 3 0 0 0 := hC
  subst hz
  show V z E 3 0 0 L f 0 [(0, .int a_0), (1, .int a_1), (2, .null)] []
  refine v_iload_n hC dJ3_checkIndex_8e157_0 rfl ?_
  refine v_if_lt_f hC dJ3_checkIndex_8e157_1 (tgt := 9) (by decide) (by first | omega | (simp only [Int32.lt_iff_toInt_lt, Int32.le_iff_toInt_le, Int32.reduceToInt, ← Int32.toInt_inj, true_and, and_true, or_true, true_or, false_or, or_false, false_and, and_false, not_true_eq_false, not_false_eq_true] <;> omega)) ?_
  refine v_iload_n hC dJ3_checkIndex_8e157_4 rfl ?_
  refine v_iload_n hC dJ3_checkIndex_8e157_5 rfl ?_
  refine v_icmp_lt_t hC dJ3_checkIndex_8e157_6 (tgt := 16) (by decide) (by first | omega | (simp only [Int32.lt_iff_toInt_lt, Int32.le_iff_toInt_le, Int32.reduceToInt, ← Int32.toInt_inj, true_and, and_true, or_true, true_or, false_or, or_false, false_and, and_false, not_true_eq_false, not_false_eq_true] <;> omega)) ?_
  refine v_iload_n hC dJ3_checkIndex_8e157_16 rfl ?_
  exact hR _ _ _ _ _ _ _ dJ3_checkIndex_8e157_17 rfl (Nat.le_of_ble_eq_true rfl) (Nat.le_of_ble_eq_true rfl) ⟨rfl, rfl⟩
set_option maxRecDepth 100000 in
set_option maxHeartbeats 1500000 in
theorem p_J3_checkIndex_8e157_7 {l : Launch} {E : Ez} {L : List Nat} {f : Nat → va_E} {T : Nat → va_E → Prop} {a_0 : Int32} {a_1 : Int32} {a_2 : Nat} (hW : WT T L f) (hlen : 0 ≤ a_0.toInt ∧ a_0.toInt < a_1.toInt) : CI l yJ3_checkIndex_8e157 cJ3_checkIndex_8e157 3 .int 0 0 0 E [.int a_0, .int a_1, .ref a_2] L f (fun r L1 f1 => L = L1 ∧ f = f1) := by
  refine ci_of (by decide) (Nat.le_of_ble_eq_true rfl) (fun z hz hnm hC hR => ?_)
  have hC : Cx z E cJ3_checkIndex_8e157 RJ3 3 0 0 0 := hC
  subst hz
  show V z E 3 0 0 L f 0 [(0, .int a_0), (1, .int a_1), (2, .ref a_2)] []
  refine v_iload_n hC dJ3_checkIndex_8e157_0 rfl ?_
  refine v_if_lt_f hC dJ3_checkIndex_8e157_1 (tgt := 9) (by decide) (by first | omega | (simp only [Int32.lt_iff_toInt_lt, Int32.le_iff_toInt_le, Int32.reduceToInt, ← Int32.toInt_inj, true_and, and_true, or_true, true_or, false_or, or_false, false_and, and_false, not_true_eq_false, not_false_eq_true] <;> omega)) ?_
  refine v_iload_n hC dJ3_checkIndex_8e157_4 rfl ?_
  refine v_iload_n hC dJ3_checkIndex_8e157_5 rfl ?_
  refine v_icmp_lt_t hC dJ3_checkIndex_8e157_6 (tgt := 16) (by decide) (by first | omega | (simp only [Int32.lt_iff_toInt_lt, Int32.le_iff_toInt_le, Int32.reduceToInt, ← Int32.toInt_inj, true_and, and_true, or_true, true_or, false_or, or_false, false_and, and_false, not_true_eq_false, not_false_eq_true] <;> omega)) ?_
  refine v_iload_n hC dJ3_checkIndex_8e157_16 rfl ?_
  exact hR _ _ _ _ _ _ _ dJ3_checkIndex_8e157_17 rfl (Nat.le_of_ble_eq_true rfl) (Nat.le_of_ble_eq_true rfl) ⟨rfl, rfl⟩
set_option maxRecDepth 100000 in
set_option maxHeartbeats 1500000 in
theorem p_J0_checkIndex_df160 {l : Launch} {E : Ez} {L : List Nat} {f : Nat → va_E} {T : Nat → va_E → Prop} {a_0 : Int32} {a_1 : Int32} (hW : WT T L f) (hlen : 0 ≤ a_0.toInt ∧ a_0.toInt < a_1.toInt) : CV l yJ0_checkIndex_df160 cJ0_checkIndex_df160 2 1 0 0 E [.int a_0, .int a_1] L f (fun L1 f1 => L = L1 ∧ f = f1) := by
  refine cv_of (by decide) (Nat.le_of_ble_eq_true rfl) (fun z hz hnm hC hR => ?_)
  have hC : Cx z E cJ0_checkIndex_df160 RJ0 2 1 0 0 := hC
  subst hz
  show V z E 2 0 0 L f 0 [(0, .int a_0), (1, .int a_1)] []
  refine v_iload_n hC dJ0_checkIndex_df160_0 rfl ?_
  refine v_iload_n hC dJ0_checkIndex_df160_1 rfl ?_
  refine v_getSF hC sf_J0_1053 dJ0_checkIndex_df160_2 ?_ (fun o_1 => ?_)
  · refine v_si hC (rest := []) mt_J3_checkIndex_8e157 (p_J3_checkIndex_8e157 hW (by first | omega | (simp only [Int32.lt_iff_toInt_lt, Int32.le_iff_toInt_le, Int32.reduceToInt, ← Int32.toInt_inj, true_and, and_true, or_true, true_or, false_or, or_false, false_and, and_false, not_true_eq_false, not_false_eq_true] <;> omega))) mx_J3_checkIndex_8e157 ml_J0_1059 (by decide) rfl (cells1 := 0) (slots1 := 0) (by decide) (by decide) (Nat.le_of_ble_eq_true rfl) (Nat.le_of_ble_eq_true rfl) rfl (Nat.le_of_ble_eq_true rfl) dJ0_checkIndex_df160_5 (fun r_2 L_3 f_4 h_5 => ?_)
    obtain ⟨rfl, rfl⟩ := h_5
    refine v_pop hC dJ0_checkIndex_df160_8 rfl ?_
    exact hR _ _ _ _ _ _ dJ0_checkIndex_df160_9 (Nat.le_of_ble_eq_true rfl) (Nat.le_of_ble_eq_true rfl) ⟨rfl, rfl⟩
  · refine v_si hC (rest := []) mt_J3_checkIndex_8e157 (p_J3_checkIndex_8e157_7 hW (by first | omega | (simp only [Int32.lt_iff_toInt_lt, Int32.le_iff_toInt_le, Int32.reduceToInt, ← Int32.toInt_inj, true_and, and_true, or_true, true_or, false_or, or_false, false_and, and_false, not_true_eq_false, not_false_eq_true] <;> omega))) mx_J3_checkIndex_8e157 ml_J0_1059 (by decide) rfl (cells1 := 0) (slots1 := 0) (by decide) (by decide) (Nat.le_of_ble_eq_true rfl) (Nat.le_of_ble_eq_true rfl) rfl (Nat.le_of_ble_eq_true rfl) dJ0_checkIndex_df160_5 (fun r_8 L_9 f_10 h_11 => ?_)
    obtain ⟨rfl, rfl⟩ := h_11
    refine v_pop hC dJ0_checkIndex_df160_8 rfl ?_
    exact hR _ _ _ _ _ _ dJ0_checkIndex_df160_9 (Nat.le_of_ble_eq_true rfl) (Nat.le_of_ble_eq_true rfl) ⟨rfl, rfl⟩
set_option maxRecDepth 100000 in
set_option maxHeartbeats 1500000 in
theorem p_J1_charAt_3b067 {l : Launch} {E : Ez} {L : List Nat} {f : Nat → va_E} {T : Nat → va_E → Prop} {a_0 : Nat} {a_1 : Int32} (hW : WT T L f) (ha_0 : a_0 < 77) (hlen : 0 ≤ a_1.toInt ∧ a_1.toInt < ((bytStr.getD a_0 []).length : Int)) : CI l yJ1_charAt_3b067 cJ1_charAt_3b067 2 .char 2 0 0 E [.ref (eV E a_0), .int a_1] L f (fun r L1 f1 => L = L1 ∧ f = f1 ∧ r = (chv a_0 a_1) ∧ narrow .char (.int r) = .int r) := by
  refine ci_of (by decide) (Nat.le_of_ble_eq_true rfl) (fun z hz hnm hC hR => ?_)
  have hC : Cx z E cJ1_charAt_3b067 RJ1 2 2 0 0 := hC
  subst hz
  show V z E 2 0 0 L f 0 [(0, .ref (eV E a_0)), (1, .int a_1)] []
  refine v_iload_n hC dJ1_charAt_3b067_0 rfl ?_
  refine v_aload_n hC dJ1_charAt_3b067_1 rfl ?_
  obtain ⟨v_1, h_2⟩ : ∃ v9 : Int32, nI (bytStr.getD a_0 []).length = v9 := ⟨_, rfl⟩
  refine v_alenS hC ha_0 dJ1_charAt_3b067_2 ?_
  have b_3 := len_v ha_0
  rw [h_2] at b_3 ⊢
  refine v_sv hC (rest := []) mt_J0_checkIndex_df160 (p_J0_checkIndex_df160 hW (by first | omega | (simp only [Int32.lt_iff_toInt_lt, Int32.le_iff_toInt_le, Int32.reduceToInt, ← Int32.toInt_inj, true_and, and_true, or_true, true_or, false_or, or_false, false_and, and_false, not_true_eq_false, not_false_eq_true] <;> omega))) mx_J0_checkIndex_df160 ml_J1_9 (by decide) rfl (cells1 := 0) (slots1 := 0) (by decide) (by decide) (Nat.le_of_ble_eq_true rfl) (Nat.le_of_ble_eq_true rfl) rfl (Nat.le_of_ble_eq_true rfl) dJ1_charAt_3b067_3 (fun L_5 f_6 h_7 => ?_)
  obtain ⟨rfl, rfl⟩ := h_7
  refine v_aload_n hC dJ1_charAt_3b067_6 rfl ?_
  refine v_iload_n hC dJ1_charAt_3b067_7 rfl ?_
  obtain ⟨v_10, h_11⟩ : ∃ v9 : Int32, (bytStr.getD a_0 []).getD (a_1 : Int32).toNatClampNeg 0 = v9 := ⟨_, rfl⟩
  refine v_baldS hC ha_0 (vp_in_iff.mpr (by first | omega | (simp only [Int32.lt_iff_toInt_lt, Int32.le_iff_toInt_le, Int32.reduceToInt, ← Int32.toInt_inj, true_and, and_true, or_true, true_or, false_or, or_false, false_and, and_false, not_true_eq_false, not_false_eq_true] <;> omega))) h_11 dJ1_charAt_3b067_8 ?_
  refine v_sipush hC dJ1_charAt_3b067_9 (v := 255) (by decide) ?_
  obtain ⟨v_12, h_13⟩ : ∃ v9 : Int32, v_10 &&& 255 = v9 := ⟨_, rfl⟩
  refine v_iand hC dJ1_charAt_3b067_12 h_13 ?_
  have h_14 := and_v h_13 (by decide)
  try simp only [Int32.reduceToInt] at h_14
  obtain ⟨v_15, h_16⟩ : ∃ v9 : Int32, (v_12.toUInt32 % 65536).toInt32 = v9 := ⟨_, rfl⟩
  refine v_i2c hC dJ1_charAt_3b067_13 h_16 ?_
  exact hR _ _ _ _ _ _ _ dJ1_charAt_3b067_14 (by rw [← h_16]; exact pk_nc _) (Nat.le_of_ble_eq_true rfl) (Nat.le_of_ble_eq_true rfl) ⟨rfl, rfl, (by rw [← h_16, ← h_13, ← h_11]; rfl), (by rw [← h_16]; exact pk_nc _)⟩
set_option maxRecDepth 100000 in
set_option maxHeartbeats 1500000 in
theorem p_J0_charAt_5068e {l : Launch} {E : Ez} {L : List Nat} {f : Nat → va_E} {T : Nat → va_E → Prop} {a_0 : Nat} {a_1 : Int32} (hW : WT T L f) (ha_0 : a_0 < 77) (hlen : 0 ≤ a_1.toInt ∧ a_1.toInt < ((bytStr.getD a_0 []).length : Int)) : CI l yJ0_charAt_5068e cJ0_charAt_5068e 2 .char 3 0 0 E [.ref (eK E a_0), .int a_1] L f (fun r L1 f1 => L = L1 ∧ f = f1 ∧ r = (chv a_0 a_1) ∧ narrow .char (.int r) = .int r) := by
  refine ci_of (by decide) (Nat.le_of_ble_eq_true rfl) (fun z hz hnm hC hR => ?_)
  have hC : Cx z E cJ0_charAt_5068e RJ0 2 3 0 0 := hC
  subst hz
  show V z E 2 0 0 L f 0 [(0, .ref (eK E a_0)), (1, .int a_1)] []
  refine v_aload_n hC dJ0_charAt_5068e_0 rfl ?_
  refine v_viS hC (rest := []) ha_0 rfl mi_J0_isLatin1_aae02 ms_J0_isLatin1_aae02 (p_J0_isLatin1_aae02 hW ha_0) mx_J0_isLatin1_aae02 ml_J0_492 (by decide) rfl (cells1 := 0) (slots1 := 0) (by decide) (by decide) (Nat.le_of_ble_eq_true rfl) (Nat.le_of_ble_eq_true rfl) rfl (Nat.le_of_ble_eq_true rfl) dJ0_charAt_5068e_1 (fun r_1 L_2 f_3 h_4 => ?_)
  obtain ⟨rfl, rfl, b_5⟩ := h_4
  obtain rfl : r_1 = 1 := Int32.toInt_inj.mp (by simp only [Int32.reduceToInt]; omega)
  refine v_if_eq_f hC dJ0_charAt_5068e_4 (tgt := 16) (by decide) (by decide) ?_
  refine v_aload_n hC dJ0_charAt_5068e_7 rfl ?_
  refine v_getSv hC ha_0 sf_J0_9 dJ0_charAt_5068e_8 ?_
  refine v_iload_n hC dJ0_charAt_5068e_11 rfl ?_
  refine v_si hC (rest := []) mt_J1_charAt_3b067 (p_J1_charAt_3b067 hW ha_0 (by first | omega | (simp only [Int32.lt_iff_toInt_lt, Int32.le_iff_toInt_le, Int32.reduceToInt, ← Int32.toInt_inj, true_and, and_true, or_true, true_or, false_or, or_false, false_and, and_false, not_true_eq_false, not_false_eq_true] <;> omega))) mx_J1_charAt_3b067 ml_J0_495 (by decide) rfl (cells1 := 0) (slots1 := 0) (by decide) (by decide) (Nat.le_of_ble_eq_true rfl) (Nat.le_of_ble_eq_true rfl) rfl (Nat.le_of_ble_eq_true rfl) dJ0_charAt_5068e_12 (fun r_8 L_9 f_10 h_11 => ?_)
  obtain ⟨rfl, rfl, rfl, nr_12⟩ := h_11
  exact hR _ _ _ _ _ _ _ dJ0_charAt_5068e_15 nr_12 (Nat.le_of_ble_eq_true rfl) (Nat.le_of_ble_eq_true rfl) ⟨rfl, rfl, rfl, nr_12⟩
set_option maxRecDepth 100000 in
set_option maxHeartbeats 1500000 in
theorem p_X12_is {l : Launch} {E : Ez} {L : List Nat} {f : Nat → va_E} {T : Nat → va_E → Prop} {a_0 : Nat} {a_1 : Nat} {q : Nat → Nat} (hW : WT T L f) (k_0 : isM T L E a_0 q) (ha_1 : a_1 < 77) : CI l yX12_is cX12_is 4 .boolean 4 0 0 E [.ref a_0, .ref (eK E a_1)] L f (fun r L1 f1 => L = L1 ∧ f = f1 ∧ r = (iw (f a_0) (f (q 4)) a_1)) := by
  refine ci_of (by decide) (Nat.le_of_ble_eq_true rfl) (fun z hz hnm hC hR => ?_)
  have hC : Cx z E cX12_is RX12 4 4 0 0 := hC
  subst hz
  show V z E 4 0 0 L f 0 [(0, .ref a_0), (1, .ref (eK E a_1))] []
  obtain ⟨m_1, t_2, nq_21, k_3, k_4, k_5, k_6, k_7, k_8, k_9, k_10, k_11, k_12, k_13, k_14, k_15, k_16, k_17, k_18, k_19, k_20⟩ := id k_0
  refine v_aload_n hC dX12_is_0 rfl ?_
  obtain ⟨v_23, v_24, v_26, v_28, v_30, v_32, v_34, v_35, v_36, v_37, v_39, e_22, b_25, b_27, b_29, b_31, b_33, b_38, b_40⟩ := hW.at m_1 t_2
  refine v_vi hC (rest := []) m_1 e_22 rfl mi_X12_good ms_X12_good (p_X12_good hW k_0) mx_X12_good ml_X12_139 (by decide) rfl (cells1 := 0) (slots1 := 0) (by decide) (by decide) (Nat.le_of_ble_eq_true rfl) (Nat.le_of_ble_eq_true rfl) rfl (Nat.le_of_ble_eq_true rfl) dX12_is_1 (fun r_41 L_42 f_43 h_44 => ?_)
  obtain ⟨rfl, rfl, b_45, x_46⟩ := h_44
  have fe_49 : fld (f a_0) 12 = (v_35 : Int32).toInt := by rw [e_22]; rfl
  rw [fe_49] at x_46
  clear fe_49
  try simp only [Int32.reduceToInt, Int64.reduceToInt] at x_46
  refine v_if_eq hC dX12_is_4 (tgt := 35) (by decide) (fun h_50 => ?_) (fun h_50 => ?_)
  · simp only [Int32.lt_iff_toInt_lt, Int32.le_iff_toInt_le, Int32.reduceToInt, ← Int32.toInt_inj] at h_50
    refine v_iconst hC dX12_is_35 (v := 0) (by decide) ?_
    refine v_istore_n hC dX12_is_36 (by decide) (lv' := [(2, .int 0), (0, .ref a_0), (1, .ref (eK E a_1))]) rfl ?_
    refine v_iconst hC dX12_is_37 (v := 0) (by decide) ?_
    refine v_istore_n hC dX12_is_38 (by decide) (lv' := [(3, .int 0), (2, .int 0), (0, .ref a_0), (1, .ref (eK E a_1))]) rfl ?_
    have lp_193 : ∀ (n_194 : Nat) (i_188 : Int32) (b_190 : (0 ≤ i_188.toInt ∧ i_188.toInt ≤ 40)) (i_189 : Int32) (b_191 : (0 ≤ i_189.toInt ∧ i_189.toInt ≤ 1)) (cv_192 : IWI (f a_0) (f (q 4)) a_1 i_189 i_188) (hm_196 : 40 - i_188.toInt < (n_194 : Int)), V z E 4 0 0 L f 39 [(3, .int i_188), (2, .int i_189), (0, .ref a_0), (1, .ref (eK E a_1))] [] := by
      intro n_194
      induction n_194 with
      | zero =>
        intro i_188 b_190 i_189 b_191 cv_192 hm_196
        have bs_197 := cv_192.bs
        have fe_198 : fld (f a_0) 8 = (v_28 : Int32).toInt := by rw [e_22]; rfl
        have fe_199 : fld (f a_0) 9 = (v_30 : Int32).toInt := by rw [e_22]; rfl
        have fe_200 : fld (f a_0) 10 = (v_32 : Int32).toInt := by rw [e_22]; rfl
        have fe_201 : fld (f a_0) 12 = (v_35 : Int32).toInt := by rw [e_22]; rfl
        rw [fe_198, fe_199, fe_200, fe_201] at bs_197
        exfalso; omega
      | succ n_194 ih_195 =>
        intro i_188 b_190 i_189 b_191 cv_192 hm_196
        have bs_197 := cv_192.bs
        have fe_198 : fld (f a_0) 8 = (v_28 : Int32).toInt := by rw [e_22]; rfl
        have fe_199 : fld (f a_0) 9 = (v_30 : Int32).toInt := by rw [e_22]; rfl
        have fe_200 : fld (f a_0) 10 = (v_32 : Int32).toInt := by rw [e_22]; rfl
        have fe_201 : fld (f a_0) 12 = (v_35 : Int32).toInt := by rw [e_22]; rfl
        rw [fe_198, fe_199, fe_200, fe_201] at bs_197
        refine v_iload_n hC dX12_is_39 rfl ?_
        refine v_aload_n hC dX12_is_40 rfl ?_
        refine v_viS hC (rest := [.int i_188]) ha_1 rfl mi_J0_length_8abf5 ms_J0_length_8abf5 (p_J0_length_8abf5 hW ha_1) mx_J0_length_8abf5 ml_X12_143 (by decide) rfl (cells1 := 0) (slots1 := 0) (by decide) (by decide) (Nat.le_of_ble_eq_true rfl) (Nat.le_of_ble_eq_true rfl) rfl (Nat.le_of_ble_eq_true rfl) dX12_is_41 (fun r_202 L_203 f_204 h_205 => ?_)
        obtain ⟨rfl, rfl, b_206, x_207⟩ := h_205
        try simp only [Int32.reduceToInt, Int64.reduceToInt] at x_207
        refine v_icmp_ge hC dX12_is_44 (tgt := 82) (by decide) (fun h_210 => ?_) (fun h_210 => ?_)
        · simp only [Int32.lt_iff_toInt_lt, Int32.le_iff_toInt_le, Int32.reduceToInt, ← Int32.toInt_inj] at h_210
          refine v_iload_n hC dX12_is_82 rfl ?_
          exact hR _ _ _ _ _ _ _ dX12_is_83 (nar01 (by first | omega | (simp only [Int32.lt_iff_toInt_lt, Int32.le_iff_toInt_le, Int32.reduceToInt, ← Int32.toInt_inj, true_and, and_true, or_true, true_or, false_or, or_false, false_and, and_false, not_true_eq_false, not_false_eq_true] <;> omega))) (Nat.le_of_ble_eq_true rfl) (Nat.le_of_ble_eq_true rfl) ⟨rfl, rfl, (cv_192.fin (by first | (left; omega) | (right; omega)))⟩
        · simp only [Int32.lt_iff_toInt_lt, Int32.le_iff_toInt_le, Int32.reduceToInt, ← Int32.toInt_inj] at h_210
          refine v_iload_n hC dX12_is_47 rfl ?_
          refine v_if_eq hC dX12_is_48 (tgt := 82) (by decide) (fun h_211 => ?_) (fun h_211 => ?_)
          · simp only [Int32.lt_iff_toInt_lt, Int32.le_iff_toInt_le, Int32.reduceToInt, ← Int32.toInt_inj] at h_211
            refine v_iload_n hC dX12_is_82 rfl ?_
            exact hR _ _ _ _ _ _ _ dX12_is_83 (nar01 (by first | omega | (simp only [Int32.lt_iff_toInt_lt, Int32.le_iff_toInt_le, Int32.reduceToInt, ← Int32.toInt_inj, true_and, and_true, or_true, true_or, false_or, or_false, false_and, and_false, not_true_eq_false, not_false_eq_true] <;> omega))) (Nat.le_of_ble_eq_true rfl) (Nat.le_of_ble_eq_true rfl) ⟨rfl, rfl, (cv_192.fin (by first | (left; omega) | (right; omega)))⟩
          · simp only [Int32.lt_iff_toInt_lt, Int32.le_iff_toInt_le, Int32.reduceToInt, ← Int32.toInt_inj] at h_211
            refine v_aload_n hC dX12_is_51 rfl ?_
            refine v_get hC fl_X12_24 m_1 e_22 rfl dX12_is_52 ?_
            refine v_aload_n hC dX12_is_55 rfl ?_
            refine v_get hC fl_X12_117 m_1 e_22 rfl dX12_is_56 ?_
            refine v_iload_n hC dX12_is_59 rfl ?_
            obtain ⟨v_212, h_213⟩ : ∃ v9 : Int32, v_30 + i_188 = v9 := ⟨_, rfl⟩
            refine v_iadd hC dX12_is_60 h_213 ?_
            have h_214 := add_v h_213 (by first | omega | (simp only [Int32.lt_iff_toInt_lt, Int32.le_iff_toInt_le, Int32.reduceToInt, ← Int32.toInt_inj, true_and, and_true, or_true, true_or, false_or, or_false, false_and, and_false, not_true_eq_false, not_false_eq_true] <;> omega)) (by first | omega | (simp only [Int32.lt_iff_toInt_lt, Int32.le_iff_toInt_le, Int32.reduceToInt, ← Int32.toInt_inj, true_and, and_true, or_true, true_or, false_or, or_false, false_and, and_false, not_true_eq_false, not_false_eq_true] <;> omega))
            obtain ⟨m_215, t_216⟩ := id k_6
            obtain ⟨g_218, e_217, fit_219⟩ := hW.at m_215 t_216
            obtain ⟨v_220, h_221⟩ : ∃ v9 : Int32, g_218 (v_212 : Int32).toNatClampNeg = v9 := ⟨_, rfl⟩
            refine v_bald hC m_215 e_217 (vp_in_iff.mpr (by first | omega | (simp only [Int32.lt_iff_toInt_lt, Int32.le_iff_toInt_le, Int32.reduceToInt, ← Int32.toInt_inj, true_and, and_true, or_true, true_or, false_or, or_false, false_and, and_false, not_true_eq_false, not_false_eq_true] <;> omega))) h_221 dX12_is_61 ?_
            refine v_aload_n hC dX12_is_62 rfl ?_
            refine v_iload_n hC dX12_is_63 rfl ?_
            refine v_viS hC (rest := [.int v_220]) ha_1 rfl mi_J0_charAt_5068e ms_J0_charAt_5068e (p_J0_charAt_5068e hW ha_1 (by first | omega | (simp only [Int32.lt_iff_toInt_lt, Int32.le_iff_toInt_le, Int32.reduceToInt, ← Int32.toInt_inj, true_and, and_true, or_true, true_or, false_or, or_false, false_and, and_false, not_true_eq_false, not_false_eq_true] <;> omega))) mx_J0_charAt_5068e ml_X12_148 (by decide) rfl (cells1 := 0) (slots1 := 0) (by decide) (by decide) (Nat.le_of_ble_eq_true rfl) (Nat.le_of_ble_eq_true rfl) rfl (Nat.le_of_ble_eq_true rfl) dX12_is_64 (fun r_222 L_223 f_224 h_225 => ?_)
            obtain ⟨rfl, rfl, rfl, nr_226⟩ := h_225
            refine v_icmp_ne hC dX12_is_67 (tgt := 74) (by decide) (fun h_229 => ?_) (fun h_229 => ?_)
            · simp only [Int32.lt_iff_toInt_lt, Int32.le_iff_toInt_le, Int32.reduceToInt, ← Int32.toInt_inj] at h_229
              refine v_iconst hC dX12_is_74 (v := 0) (by decide) ?_
              refine v_istore_n hC dX12_is_75 (by decide) (lv' := [(2, .int 0), (3, .int i_188), (0, .ref a_0), (1, .ref (eK E a_1))]) rfl ?_
              obtain ⟨v_230, h_231⟩ : ∃ v9 : Int32, i_188 + Int32.ofInt 1 = v9 := ⟨_, rfl⟩
              have h_232 := add_v (b := 1) h_231 (by first | omega | (simp only [Int32.lt_iff_toInt_lt, Int32.le_iff_toInt_le, Int32.reduceToInt, ← Int32.toInt_inj, true_and, and_true, or_true, true_or, false_or, or_false, false_and, and_false, not_true_eq_false, not_false_eq_true] <;> omega)) (by first | omega | (simp only [Int32.lt_iff_toInt_lt, Int32.le_iff_toInt_le, Int32.reduceToInt, ← Int32.toInt_inj, true_and, and_true, or_true, true_or, false_or, or_false, false_and, and_false, not_true_eq_false, not_false_eq_true] <;> omega))
              simp only [Int32.reduceToInt] at h_232
              refine v_iinc hC dX12_is_76 (k := 1) rfl (v := v_230) h_231 (by decide) (lv' := [(3, .int v_230), (2, .int 0), (0, .ref a_0), (1, .ref (eK E a_1))]) rfl ?_
              refine v_goto hC dX12_is_79 (tgt := 39) (by decide) ?_
              refine v_pick [0, 1, 2, 3] rfl ?_
              have fe_233 : fld (f a_0) 9 = (v_30 : Int32).toInt := by rw [e_22]; rfl
              exact ih_195 v_230 (by first | omega | (simp only [Int32.lt_iff_toInt_lt, Int32.le_iff_toInt_le, Int32.reduceToInt, ← Int32.toInt_inj, true_and, and_true, or_true, true_or, false_or, or_false, false_and, and_false, not_true_eq_false, not_false_eq_true] <;> omega)) 0 (by decide) (cv_192.no (by omega) (by omega) (by omega) (fun q9 => h_229 (congrArg Int32.toInt ((bat_at (t := f (q 4)) e_217 h_221 (k := i_188) (F := fld (f a_0) 9) (by rw [fe_233]; omega) (by rw [fe_233]; omega) (by omega)).symm.trans q9)))) (by first | omega | (simp only [Int32.lt_iff_toInt_lt, Int32.le_iff_toInt_le, Int32.reduceToInt, ← Int32.toInt_inj, true_and, and_true, or_true, true_or, false_or, or_false, false_and, and_false, not_true_eq_false, not_false_eq_true] <;> omega))
            · simp only [Int32.lt_iff_toInt_lt, Int32.le_iff_toInt_le, Int32.reduceToInt, ← Int32.toInt_inj] at h_229
              refine v_iconst hC dX12_is_70 (v := 1) (by decide) ?_
              refine v_goto hC dX12_is_71 (tgt := 75) (by decide) ?_
              refine v_istore_n hC dX12_is_75 (by decide) (lv' := [(2, .int 1), (3, .int i_188), (0, .ref a_0), (1, .ref (eK E a_1))]) rfl ?_
              obtain ⟨v_234, h_235⟩ : ∃ v9 : Int32, i_188 + Int32.ofInt 1 = v9 := ⟨_, rfl⟩
              have h_236 := add_v (b := 1) h_235 (by first | omega | (simp only [Int32.lt_iff_toInt_lt, Int32.le_iff_toInt_le, Int32.reduceToInt, ← Int32.toInt_inj, true_and, and_true, or_true, true_or, false_or, or_false, false_and, and_false, not_true_eq_false, not_false_eq_true] <;> omega)) (by first | omega | (simp only [Int32.lt_iff_toInt_lt, Int32.le_iff_toInt_le, Int32.reduceToInt, ← Int32.toInt_inj, true_and, and_true, or_true, true_or, false_or, or_false, false_and, and_false, not_true_eq_false, not_false_eq_true] <;> omega))
              simp only [Int32.reduceToInt] at h_236
              refine v_iinc hC dX12_is_76 (k := 1) rfl (v := v_234) h_235 (by decide) (lv' := [(3, .int v_234), (2, .int 1), (0, .ref a_0), (1, .ref (eK E a_1))]) rfl ?_
              refine v_goto hC dX12_is_79 (tgt := 39) (by decide) ?_
              refine v_pick [0, 1, 2, 3] rfl ?_
              have fe_237 : fld (f a_0) 9 = (v_30 : Int32).toInt := by rw [e_22]; rfl
              exact ih_195 v_234 (by first | omega | (simp only [Int32.lt_iff_toInt_lt, Int32.le_iff_toInt_le, Int32.reduceToInt, ← Int32.toInt_inj, true_and, and_true, or_true, true_or, false_or, or_false, false_and, and_false, not_true_eq_false, not_false_eq_true] <;> omega)) 1 (by decide) (cv_192.yes (by omega) (by omega) (by omega) ((bat_at (t := f (q 4)) e_217 h_221 (k := i_188) (F := fld (f a_0) 9) (by rw [fe_237]; omega) (by rw [fe_237]; omega) (by omega)).trans (Int32.toInt_inj.mp (by omega)))) (by first | omega | (simp only [Int32.lt_iff_toInt_lt, Int32.le_iff_toInt_le, Int32.reduceToInt, ← Int32.toInt_inj, true_and, and_true, or_true, true_or, false_or, or_false, false_and, and_false, not_true_eq_false, not_false_eq_true] <;> omega))
    refine v_pick [0, 1, 2, 3] rfl ?_
    have fe_238 : fld (f a_0) 8 = (v_28 : Int32).toInt := by rw [e_22]; rfl
    have fe_239 : fld (f a_0) 9 = (v_30 : Int32).toInt := by rw [e_22]; rfl
    have fe_240 : fld (f a_0) 10 = (v_32 : Int32).toInt := by rw [e_22]; rfl
    have fe_241 : fld (f a_0) 12 = (v_35 : Int32).toInt := by rw [e_22]; rfl
    exact lp_193 42 0 (by decide) 0 (by decide) (IWI.s0 (by intro q9; rw [fe_238, fe_239, fe_240, fe_241] at q9; omega)) (by decide)
  · simp only [Int32.lt_iff_toInt_lt, Int32.le_iff_toInt_le, Int32.reduceToInt, ← Int32.toInt_inj] at h_50
    refine v_aload_n hC dX12_is_7 rfl ?_
    refine v_get hC fl_X12_120 m_1 e_22 rfl dX12_is_8 ?_
    refine v_iconst hC dX12_is_11 (v := 1) (by decide) ?_
    refine v_icmp_ne hC dX12_is_12 (tgt := 35) (by decide) (fun h_242 => ?_) (fun h_242 => ?_)
    · simp only [Int32.lt_iff_toInt_lt, Int32.le_iff_toInt_le, Int32.reduceToInt, ← Int32.toInt_inj] at h_242
      refine v_iconst hC dX12_is_35 (v := 0) (by decide) ?_
      refine v_istore_n hC dX12_is_36 (by decide) (lv' := [(2, .int 0), (0, .ref a_0), (1, .ref (eK E a_1))]) rfl ?_
      refine v_iconst hC dX12_is_37 (v := 0) (by decide) ?_
      refine v_istore_n hC dX12_is_38 (by decide) (lv' := [(3, .int 0), (2, .int 0), (0, .ref a_0), (1, .ref (eK E a_1))]) rfl ?_
      have lp_385 : ∀ (n_386 : Nat) (i_380 : Int32) (b_382 : (0 ≤ i_380.toInt ∧ i_380.toInt ≤ 40)) (i_381 : Int32) (b_383 : (0 ≤ i_381.toInt ∧ i_381.toInt ≤ 1)) (cv_384 : IWI (f a_0) (f (q 4)) a_1 i_381 i_380) (hm_388 : 40 - i_380.toInt < (n_386 : Int)), V z E 4 0 0 L f 39 [(3, .int i_380), (2, .int i_381), (0, .ref a_0), (1, .ref (eK E a_1))] [] := by
        intro n_386
        induction n_386 with
        | zero =>
          intro i_380 b_382 i_381 b_383 cv_384 hm_388
          have bs_389 := cv_384.bs
          have fe_390 : fld (f a_0) 8 = (v_28 : Int32).toInt := by rw [e_22]; rfl
          have fe_391 : fld (f a_0) 9 = (v_30 : Int32).toInt := by rw [e_22]; rfl
          have fe_392 : fld (f a_0) 10 = (v_32 : Int32).toInt := by rw [e_22]; rfl
          have fe_393 : fld (f a_0) 12 = (v_35 : Int32).toInt := by rw [e_22]; rfl
          rw [fe_390, fe_391, fe_392, fe_393] at bs_389
          exfalso; omega
        | succ n_386 ih_387 =>
          intro i_380 b_382 i_381 b_383 cv_384 hm_388
          have bs_389 := cv_384.bs
          have fe_390 : fld (f a_0) 8 = (v_28 : Int32).toInt := by rw [e_22]; rfl
          have fe_391 : fld (f a_0) 9 = (v_30 : Int32).toInt := by rw [e_22]; rfl
          have fe_392 : fld (f a_0) 10 = (v_32 : Int32).toInt := by rw [e_22]; rfl
          have fe_393 : fld (f a_0) 12 = (v_35 : Int32).toInt := by rw [e_22]; rfl
          rw [fe_390, fe_391, fe_392, fe_393] at bs_389
          refine v_iload_n hC dX12_is_39 rfl ?_
          refine v_aload_n hC dX12_is_40 rfl ?_
          refine v_viS hC (rest := [.int i_380]) ha_1 rfl mi_J0_length_8abf5 ms_J0_length_8abf5 (p_J0_length_8abf5 hW ha_1) mx_J0_length_8abf5 ml_X12_143 (by decide) rfl (cells1 := 0) (slots1 := 0) (by decide) (by decide) (Nat.le_of_ble_eq_true rfl) (Nat.le_of_ble_eq_true rfl) rfl (Nat.le_of_ble_eq_true rfl) dX12_is_41 (fun r_394 L_395 f_396 h_397 => ?_)
          obtain ⟨rfl, rfl, b_398, x_399⟩ := h_397
          try simp only [Int32.reduceToInt, Int64.reduceToInt] at x_399
          refine v_icmp_ge hC dX12_is_44 (tgt := 82) (by decide) (fun h_402 => ?_) (fun h_402 => ?_)
          · simp only [Int32.lt_iff_toInt_lt, Int32.le_iff_toInt_le, Int32.reduceToInt, ← Int32.toInt_inj] at h_402
            refine v_iload_n hC dX12_is_82 rfl ?_
            exact hR _ _ _ _ _ _ _ dX12_is_83 (nar01 (by first | omega | (simp only [Int32.lt_iff_toInt_lt, Int32.le_iff_toInt_le, Int32.reduceToInt, ← Int32.toInt_inj, true_and, and_true, or_true, true_or, false_or, or_false, false_and, and_false, not_true_eq_false, not_false_eq_true] <;> omega))) (Nat.le_of_ble_eq_true rfl) (Nat.le_of_ble_eq_true rfl) ⟨rfl, rfl, (cv_384.fin (by first | (left; omega) | (right; omega)))⟩
          · simp only [Int32.lt_iff_toInt_lt, Int32.le_iff_toInt_le, Int32.reduceToInt, ← Int32.toInt_inj] at h_402
            refine v_iload_n hC dX12_is_47 rfl ?_
            refine v_if_eq hC dX12_is_48 (tgt := 82) (by decide) (fun h_403 => ?_) (fun h_403 => ?_)
            · simp only [Int32.lt_iff_toInt_lt, Int32.le_iff_toInt_le, Int32.reduceToInt, ← Int32.toInt_inj] at h_403
              refine v_iload_n hC dX12_is_82 rfl ?_
              exact hR _ _ _ _ _ _ _ dX12_is_83 (nar01 (by first | omega | (simp only [Int32.lt_iff_toInt_lt, Int32.le_iff_toInt_le, Int32.reduceToInt, ← Int32.toInt_inj, true_and, and_true, or_true, true_or, false_or, or_false, false_and, and_false, not_true_eq_false, not_false_eq_true] <;> omega))) (Nat.le_of_ble_eq_true rfl) (Nat.le_of_ble_eq_true rfl) ⟨rfl, rfl, (cv_384.fin (by first | (left; omega) | (right; omega)))⟩
            · simp only [Int32.lt_iff_toInt_lt, Int32.le_iff_toInt_le, Int32.reduceToInt, ← Int32.toInt_inj] at h_403
              refine v_aload_n hC dX12_is_51 rfl ?_
              refine v_get hC fl_X12_24 m_1 e_22 rfl dX12_is_52 ?_
              refine v_aload_n hC dX12_is_55 rfl ?_
              refine v_get hC fl_X12_117 m_1 e_22 rfl dX12_is_56 ?_
              refine v_iload_n hC dX12_is_59 rfl ?_
              obtain ⟨v_404, h_405⟩ : ∃ v9 : Int32, v_30 + i_380 = v9 := ⟨_, rfl⟩
              refine v_iadd hC dX12_is_60 h_405 ?_
              have h_406 := add_v h_405 (by first | omega | (simp only [Int32.lt_iff_toInt_lt, Int32.le_iff_toInt_le, Int32.reduceToInt, ← Int32.toInt_inj, true_and, and_true, or_true, true_or, false_or, or_false, false_and, and_false, not_true_eq_false, not_false_eq_true] <;> omega)) (by first | omega | (simp only [Int32.lt_iff_toInt_lt, Int32.le_iff_toInt_le, Int32.reduceToInt, ← Int32.toInt_inj, true_and, and_true, or_true, true_or, false_or, or_false, false_and, and_false, not_true_eq_false, not_false_eq_true] <;> omega))
              obtain ⟨m_407, t_408⟩ := id k_6
              obtain ⟨g_410, e_409, fit_411⟩ := hW.at m_407 t_408
              obtain ⟨v_412, h_413⟩ : ∃ v9 : Int32, g_410 (v_404 : Int32).toNatClampNeg = v9 := ⟨_, rfl⟩
              refine v_bald hC m_407 e_409 (vp_in_iff.mpr (by first | omega | (simp only [Int32.lt_iff_toInt_lt, Int32.le_iff_toInt_le, Int32.reduceToInt, ← Int32.toInt_inj, true_and, and_true, or_true, true_or, false_or, or_false, false_and, and_false, not_true_eq_false, not_false_eq_true] <;> omega))) h_413 dX12_is_61 ?_
              refine v_aload_n hC dX12_is_62 rfl ?_
              refine v_iload_n hC dX12_is_63 rfl ?_
              refine v_viS hC (rest := [.int v_412]) ha_1 rfl mi_J0_charAt_5068e ms_J0_charAt_5068e (p_J0_charAt_5068e hW ha_1 (by first | omega | (simp only [Int32.lt_iff_toInt_lt, Int32.le_iff_toInt_le, Int32.reduceToInt, ← Int32.toInt_inj, true_and, and_true, or_true, true_or, false_or, or_false, false_and, and_false, not_true_eq_false, not_false_eq_true] <;> omega))) mx_J0_charAt_5068e ml_X12_148 (by decide) rfl (cells1 := 0) (slots1 := 0) (by decide) (by decide) (Nat.le_of_ble_eq_true rfl) (Nat.le_of_ble_eq_true rfl) rfl (Nat.le_of_ble_eq_true rfl) dX12_is_64 (fun r_414 L_415 f_416 h_417 => ?_)
              obtain ⟨rfl, rfl, rfl, nr_418⟩ := h_417
              refine v_icmp_ne hC dX12_is_67 (tgt := 74) (by decide) (fun h_421 => ?_) (fun h_421 => ?_)
              · simp only [Int32.lt_iff_toInt_lt, Int32.le_iff_toInt_le, Int32.reduceToInt, ← Int32.toInt_inj] at h_421
                refine v_iconst hC dX12_is_74 (v := 0) (by decide) ?_
                refine v_istore_n hC dX12_is_75 (by decide) (lv' := [(2, .int 0), (3, .int i_380), (0, .ref a_0), (1, .ref (eK E a_1))]) rfl ?_
                obtain ⟨v_422, h_423⟩ : ∃ v9 : Int32, i_380 + Int32.ofInt 1 = v9 := ⟨_, rfl⟩
                have h_424 := add_v (b := 1) h_423 (by first | omega | (simp only [Int32.lt_iff_toInt_lt, Int32.le_iff_toInt_le, Int32.reduceToInt, ← Int32.toInt_inj, true_and, and_true, or_true, true_or, false_or, or_false, false_and, and_false, not_true_eq_false, not_false_eq_true] <;> omega)) (by first | omega | (simp only [Int32.lt_iff_toInt_lt, Int32.le_iff_toInt_le, Int32.reduceToInt, ← Int32.toInt_inj, true_and, and_true, or_true, true_or, false_or, or_false, false_and, and_false, not_true_eq_false, not_false_eq_true] <;> omega))
                simp only [Int32.reduceToInt] at h_424
                refine v_iinc hC dX12_is_76 (k := 1) rfl (v := v_422) h_423 (by decide) (lv' := [(3, .int v_422), (2, .int 0), (0, .ref a_0), (1, .ref (eK E a_1))]) rfl ?_
                refine v_goto hC dX12_is_79 (tgt := 39) (by decide) ?_
                refine v_pick [0, 1, 2, 3] rfl ?_
                have fe_425 : fld (f a_0) 9 = (v_30 : Int32).toInt := by rw [e_22]; rfl
                exact ih_387 v_422 (by first | omega | (simp only [Int32.lt_iff_toInt_lt, Int32.le_iff_toInt_le, Int32.reduceToInt, ← Int32.toInt_inj, true_and, and_true, or_true, true_or, false_or, or_false, false_and, and_false, not_true_eq_false, not_false_eq_true] <;> omega)) 0 (by decide) (cv_384.no (by omega) (by omega) (by omega) (fun q9 => h_421 (congrArg Int32.toInt ((bat_at (t := f (q 4)) e_409 h_413 (k := i_380) (F := fld (f a_0) 9) (by rw [fe_425]; omega) (by rw [fe_425]; omega) (by omega)).symm.trans q9)))) (by first | omega | (simp only [Int32.lt_iff_toInt_lt, Int32.le_iff_toInt_le, Int32.reduceToInt, ← Int32.toInt_inj, true_and, and_true, or_true, true_or, false_or, or_false, false_and, and_false, not_true_eq_false, not_false_eq_true] <;> omega))
              · simp only [Int32.lt_iff_toInt_lt, Int32.le_iff_toInt_le, Int32.reduceToInt, ← Int32.toInt_inj] at h_421
                refine v_iconst hC dX12_is_70 (v := 1) (by decide) ?_
                refine v_goto hC dX12_is_71 (tgt := 75) (by decide) ?_
                refine v_istore_n hC dX12_is_75 (by decide) (lv' := [(2, .int 1), (3, .int i_380), (0, .ref a_0), (1, .ref (eK E a_1))]) rfl ?_
                obtain ⟨v_426, h_427⟩ : ∃ v9 : Int32, i_380 + Int32.ofInt 1 = v9 := ⟨_, rfl⟩
                have h_428 := add_v (b := 1) h_427 (by first | omega | (simp only [Int32.lt_iff_toInt_lt, Int32.le_iff_toInt_le, Int32.reduceToInt, ← Int32.toInt_inj, true_and, and_true, or_true, true_or, false_or, or_false, false_and, and_false, not_true_eq_false, not_false_eq_true] <;> omega)) (by first | omega | (simp only [Int32.lt_iff_toInt_lt, Int32.le_iff_toInt_le, Int32.reduceToInt, ← Int32.toInt_inj, true_and, and_true, or_true, true_or, false_or, or_false, false_and, and_false, not_true_eq_false, not_false_eq_true] <;> omega))
                simp only [Int32.reduceToInt] at h_428
                refine v_iinc hC dX12_is_76 (k := 1) rfl (v := v_426) h_427 (by decide) (lv' := [(3, .int v_426), (2, .int 1), (0, .ref a_0), (1, .ref (eK E a_1))]) rfl ?_
                refine v_goto hC dX12_is_79 (tgt := 39) (by decide) ?_
                refine v_pick [0, 1, 2, 3] rfl ?_
                have fe_429 : fld (f a_0) 9 = (v_30 : Int32).toInt := by rw [e_22]; rfl
                exact ih_387 v_426 (by first | omega | (simp only [Int32.lt_iff_toInt_lt, Int32.le_iff_toInt_le, Int32.reduceToInt, ← Int32.toInt_inj, true_and, and_true, or_true, true_or, false_or, or_false, false_and, and_false, not_true_eq_false, not_false_eq_true] <;> omega)) 1 (by decide) (cv_384.yes (by omega) (by omega) (by omega) ((bat_at (t := f (q 4)) e_409 h_413 (k := i_380) (F := fld (f a_0) 9) (by rw [fe_429]; omega) (by rw [fe_429]; omega) (by omega)).trans (Int32.toInt_inj.mp (by omega)))) (by first | omega | (simp only [Int32.lt_iff_toInt_lt, Int32.le_iff_toInt_le, Int32.reduceToInt, ← Int32.toInt_inj, true_and, and_true, or_true, true_or, false_or, or_false, false_and, and_false, not_true_eq_false, not_false_eq_true] <;> omega))
      refine v_pick [0, 1, 2, 3] rfl ?_
      have fe_430 : fld (f a_0) 8 = (v_28 : Int32).toInt := by rw [e_22]; rfl
      have fe_431 : fld (f a_0) 9 = (v_30 : Int32).toInt := by rw [e_22]; rfl
      have fe_432 : fld (f a_0) 10 = (v_32 : Int32).toInt := by rw [e_22]; rfl
      have fe_433 : fld (f a_0) 12 = (v_35 : Int32).toInt := by rw [e_22]; rfl
      exact lp_385 42 0 (by decide) 0 (by decide) (IWI.s0 (by intro q9; rw [fe_430, fe_431, fe_432, fe_433] at q9; omega)) (by decide)
    · simp only [Int32.lt_iff_toInt_lt, Int32.le_iff_toInt_le, Int32.reduceToInt, ← Int32.toInt_inj] at h_242
      refine v_aload_n hC dX12_is_15 rfl ?_
      refine v_get hC fl_X12_108 m_1 e_22 rfl dX12_is_16 ?_
      refine v_aload_n hC dX12_is_19 rfl ?_
      refine v_get hC fl_X12_117 m_1 e_22 rfl dX12_is_20 ?_
      obtain ⟨v_434, h_435⟩ : ∃ v9 : Int32, v_28 - v_30 = v9 := ⟨_, rfl⟩
      refine v_isub hC dX12_is_23 h_435 ?_
      have h_436 := sub_v h_435 (by first | omega | (simp only [Int32.lt_iff_toInt_lt, Int32.le_iff_toInt_le, Int32.reduceToInt, ← Int32.toInt_inj, true_and, and_true, or_true, true_or, false_or, or_false, false_and, and_false, not_true_eq_false, not_false_eq_true] <;> omega)) (by first | omega | (simp only [Int32.lt_iff_toInt_lt, Int32.le_iff_toInt_le, Int32.reduceToInt, ← Int32.toInt_inj, true_and, and_true, or_true, true_or, false_or, or_false, false_and, and_false, not_true_eq_false, not_false_eq_true] <;> omega))
      refine v_aload_n hC dX12_is_24 rfl ?_
      refine v_viS hC (rest := [.int v_434]) ha_1 rfl mi_J0_length_8abf5 ms_J0_length_8abf5 (p_J0_length_8abf5 hW ha_1) mx_J0_length_8abf5 ml_X12_143 (by decide) rfl (cells1 := 0) (slots1 := 0) (by decide) (by decide) (Nat.le_of_ble_eq_true rfl) (Nat.le_of_ble_eq_true rfl) rfl (Nat.le_of_ble_eq_true rfl) dX12_is_25 (fun r_437 L_438 f_439 h_440 => ?_)
      obtain ⟨rfl, rfl, b_441, x_442⟩ := h_440
      try simp only [Int32.reduceToInt, Int64.reduceToInt] at x_442
      refine v_icmp_ne hC dX12_is_28 (tgt := 35) (by decide) (fun h_445 => ?_) (fun h_445 => ?_)
      · simp only [Int32.lt_iff_toInt_lt, Int32.le_iff_toInt_le, Int32.reduceToInt, ← Int32.toInt_inj] at h_445
        refine v_iconst hC dX12_is_35 (v := 0) (by decide) ?_
        refine v_istore_n hC dX12_is_36 (by decide) (lv' := [(2, .int 0), (0, .ref a_0), (1, .ref (eK E a_1))]) rfl ?_
        refine v_iconst hC dX12_is_37 (v := 0) (by decide) ?_
        refine v_istore_n hC dX12_is_38 (by decide) (lv' := [(3, .int 0), (2, .int 0), (0, .ref a_0), (1, .ref (eK E a_1))]) rfl ?_
        have lp_588 : ∀ (n_589 : Nat) (i_583 : Int32) (b_585 : (0 ≤ i_583.toInt ∧ i_583.toInt ≤ 40)) (i_584 : Int32) (b_586 : (0 ≤ i_584.toInt ∧ i_584.toInt ≤ 1)) (cv_587 : IWI (f a_0) (f (q 4)) a_1 i_584 i_583) (hm_591 : 40 - i_583.toInt < (n_589 : Int)), V z E 4 0 0 L f 39 [(3, .int i_583), (2, .int i_584), (0, .ref a_0), (1, .ref (eK E a_1))] [] := by
          intro n_589
          induction n_589 with
          | zero =>
            intro i_583 b_585 i_584 b_586 cv_587 hm_591
            have bs_592 := cv_587.bs
            have fe_593 : fld (f a_0) 8 = (v_28 : Int32).toInt := by rw [e_22]; rfl
            have fe_594 : fld (f a_0) 9 = (v_30 : Int32).toInt := by rw [e_22]; rfl
            have fe_595 : fld (f a_0) 10 = (v_32 : Int32).toInt := by rw [e_22]; rfl
            have fe_596 : fld (f a_0) 12 = (v_35 : Int32).toInt := by rw [e_22]; rfl
            rw [fe_593, fe_594, fe_595, fe_596] at bs_592
            exfalso; omega
          | succ n_589 ih_590 =>
            intro i_583 b_585 i_584 b_586 cv_587 hm_591
            have bs_592 := cv_587.bs
            have fe_593 : fld (f a_0) 8 = (v_28 : Int32).toInt := by rw [e_22]; rfl
            have fe_594 : fld (f a_0) 9 = (v_30 : Int32).toInt := by rw [e_22]; rfl
            have fe_595 : fld (f a_0) 10 = (v_32 : Int32).toInt := by rw [e_22]; rfl
            have fe_596 : fld (f a_0) 12 = (v_35 : Int32).toInt := by rw [e_22]; rfl
            rw [fe_593, fe_594, fe_595, fe_596] at bs_592
            refine v_iload_n hC dX12_is_39 rfl ?_
            refine v_aload_n hC dX12_is_40 rfl ?_
            refine v_viS hC (rest := [.int i_583]) ha_1 rfl mi_J0_length_8abf5 ms_J0_length_8abf5 (p_J0_length_8abf5 hW ha_1) mx_J0_length_8abf5 ml_X12_143 (by decide) rfl (cells1 := 0) (slots1 := 0) (by decide) (by decide) (Nat.le_of_ble_eq_true rfl) (Nat.le_of_ble_eq_true rfl) rfl (Nat.le_of_ble_eq_true rfl) dX12_is_41 (fun r_597 L_598 f_599 h_600 => ?_)
            obtain ⟨rfl, rfl, b_601, x_602⟩ := h_600
            try simp only [Int32.reduceToInt, Int64.reduceToInt] at x_602
            refine v_icmp_ge hC dX12_is_44 (tgt := 82) (by decide) (fun h_605 => ?_) (fun h_605 => ?_)
            · simp only [Int32.lt_iff_toInt_lt, Int32.le_iff_toInt_le, Int32.reduceToInt, ← Int32.toInt_inj] at h_605
              refine v_iload_n hC dX12_is_82 rfl ?_
              exact hR _ _ _ _ _ _ _ dX12_is_83 (nar01 (by first | omega | (simp only [Int32.lt_iff_toInt_lt, Int32.le_iff_toInt_le, Int32.reduceToInt, ← Int32.toInt_inj, true_and, and_true, or_true, true_or, false_or, or_false, false_and, and_false, not_true_eq_false, not_false_eq_true] <;> omega))) (Nat.le_of_ble_eq_true rfl) (Nat.le_of_ble_eq_true rfl) ⟨rfl, rfl, (cv_587.fin (by first | (left; omega) | (right; omega)))⟩
            · simp only [Int32.lt_iff_toInt_lt, Int32.le_iff_toInt_le, Int32.reduceToInt, ← Int32.toInt_inj] at h_605
              refine v_iload_n hC dX12_is_47 rfl ?_
              refine v_if_eq hC dX12_is_48 (tgt := 82) (by decide) (fun h_606 => ?_) (fun h_606 => ?_)
              · simp only [Int32.lt_iff_toInt_lt, Int32.le_iff_toInt_le, Int32.reduceToInt, ← Int32.toInt_inj] at h_606
                refine v_iload_n hC dX12_is_82 rfl ?_
                exact hR _ _ _ _ _ _ _ dX12_is_83 (nar01 (by first | omega | (simp only [Int32.lt_iff_toInt_lt, Int32.le_iff_toInt_le, Int32.reduceToInt, ← Int32.toInt_inj, true_and, and_true, or_true, true_or, false_or, or_false, false_and, and_false, not_true_eq_false, not_false_eq_true] <;> omega))) (Nat.le_of_ble_eq_true rfl) (Nat.le_of_ble_eq_true rfl) ⟨rfl, rfl, (cv_587.fin (by first | (left; omega) | (right; omega)))⟩
              · simp only [Int32.lt_iff_toInt_lt, Int32.le_iff_toInt_le, Int32.reduceToInt, ← Int32.toInt_inj] at h_606
                refine v_aload_n hC dX12_is_51 rfl ?_
                refine v_get hC fl_X12_24 m_1 e_22 rfl dX12_is_52 ?_
                refine v_aload_n hC dX12_is_55 rfl ?_
                refine v_get hC fl_X12_117 m_1 e_22 rfl dX12_is_56 ?_
                refine v_iload_n hC dX12_is_59 rfl ?_
                obtain ⟨v_607, h_608⟩ : ∃ v9 : Int32, v_30 + i_583 = v9 := ⟨_, rfl⟩
                refine v_iadd hC dX12_is_60 h_608 ?_
                have h_609 := add_v h_608 (by first | omega | (simp only [Int32.lt_iff_toInt_lt, Int32.le_iff_toInt_le, Int32.reduceToInt, ← Int32.toInt_inj, true_and, and_true, or_true, true_or, false_or, or_false, false_and, and_false, not_true_eq_false, not_false_eq_true] <;> omega)) (by first | omega | (simp only [Int32.lt_iff_toInt_lt, Int32.le_iff_toInt_le, Int32.reduceToInt, ← Int32.toInt_inj, true_and, and_true, or_true, true_or, false_or, or_false, false_and, and_false, not_true_eq_false, not_false_eq_true] <;> omega))
                obtain ⟨m_610, t_611⟩ := id k_6
                obtain ⟨g_613, e_612, fit_614⟩ := hW.at m_610 t_611
                obtain ⟨v_615, h_616⟩ : ∃ v9 : Int32, g_613 (v_607 : Int32).toNatClampNeg = v9 := ⟨_, rfl⟩
                refine v_bald hC m_610 e_612 (vp_in_iff.mpr (by first | omega | (simp only [Int32.lt_iff_toInt_lt, Int32.le_iff_toInt_le, Int32.reduceToInt, ← Int32.toInt_inj, true_and, and_true, or_true, true_or, false_or, or_false, false_and, and_false, not_true_eq_false, not_false_eq_true] <;> omega))) h_616 dX12_is_61 ?_
                refine v_aload_n hC dX12_is_62 rfl ?_
                refine v_iload_n hC dX12_is_63 rfl ?_
                refine v_viS hC (rest := [.int v_615]) ha_1 rfl mi_J0_charAt_5068e ms_J0_charAt_5068e (p_J0_charAt_5068e hW ha_1 (by first | omega | (simp only [Int32.lt_iff_toInt_lt, Int32.le_iff_toInt_le, Int32.reduceToInt, ← Int32.toInt_inj, true_and, and_true, or_true, true_or, false_or, or_false, false_and, and_false, not_true_eq_false, not_false_eq_true] <;> omega))) mx_J0_charAt_5068e ml_X12_148 (by decide) rfl (cells1 := 0) (slots1 := 0) (by decide) (by decide) (Nat.le_of_ble_eq_true rfl) (Nat.le_of_ble_eq_true rfl) rfl (Nat.le_of_ble_eq_true rfl) dX12_is_64 (fun r_617 L_618 f_619 h_620 => ?_)
                obtain ⟨rfl, rfl, rfl, nr_621⟩ := h_620
                refine v_icmp_ne hC dX12_is_67 (tgt := 74) (by decide) (fun h_624 => ?_) (fun h_624 => ?_)
                · simp only [Int32.lt_iff_toInt_lt, Int32.le_iff_toInt_le, Int32.reduceToInt, ← Int32.toInt_inj] at h_624
                  refine v_iconst hC dX12_is_74 (v := 0) (by decide) ?_
                  refine v_istore_n hC dX12_is_75 (by decide) (lv' := [(2, .int 0), (3, .int i_583), (0, .ref a_0), (1, .ref (eK E a_1))]) rfl ?_
                  obtain ⟨v_625, h_626⟩ : ∃ v9 : Int32, i_583 + Int32.ofInt 1 = v9 := ⟨_, rfl⟩
                  have h_627 := add_v (b := 1) h_626 (by first | omega | (simp only [Int32.lt_iff_toInt_lt, Int32.le_iff_toInt_le, Int32.reduceToInt, ← Int32.toInt_inj, true_and, and_true, or_true, true_or, false_or, or_false, false_and, and_false, not_true_eq_false, not_false_eq_true] <;> omega)) (by first | omega | (simp only [Int32.lt_iff_toInt_lt, Int32.le_iff_toInt_le, Int32.reduceToInt, ← Int32.toInt_inj, true_and, and_true, or_true, true_or, false_or, or_false, false_and, and_false, not_true_eq_false, not_false_eq_true] <;> omega))
                  simp only [Int32.reduceToInt] at h_627
                  refine v_iinc hC dX12_is_76 (k := 1) rfl (v := v_625) h_626 (by decide) (lv' := [(3, .int v_625), (2, .int 0), (0, .ref a_0), (1, .ref (eK E a_1))]) rfl ?_
                  refine v_goto hC dX12_is_79 (tgt := 39) (by decide) ?_
                  refine v_pick [0, 1, 2, 3] rfl ?_
                  have fe_628 : fld (f a_0) 9 = (v_30 : Int32).toInt := by rw [e_22]; rfl
                  exact ih_590 v_625 (by first | omega | (simp only [Int32.lt_iff_toInt_lt, Int32.le_iff_toInt_le, Int32.reduceToInt, ← Int32.toInt_inj, true_and, and_true, or_true, true_or, false_or, or_false, false_and, and_false, not_true_eq_false, not_false_eq_true] <;> omega)) 0 (by decide) (cv_587.no (by omega) (by omega) (by omega) (fun q9 => h_624 (congrArg Int32.toInt ((bat_at (t := f (q 4)) e_612 h_616 (k := i_583) (F := fld (f a_0) 9) (by rw [fe_628]; omega) (by rw [fe_628]; omega) (by omega)).symm.trans q9)))) (by first | omega | (simp only [Int32.lt_iff_toInt_lt, Int32.le_iff_toInt_le, Int32.reduceToInt, ← Int32.toInt_inj, true_and, and_true, or_true, true_or, false_or, or_false, false_and, and_false, not_true_eq_false, not_false_eq_true] <;> omega))
                · simp only [Int32.lt_iff_toInt_lt, Int32.le_iff_toInt_le, Int32.reduceToInt, ← Int32.toInt_inj] at h_624
                  refine v_iconst hC dX12_is_70 (v := 1) (by decide) ?_
                  refine v_goto hC dX12_is_71 (tgt := 75) (by decide) ?_
                  refine v_istore_n hC dX12_is_75 (by decide) (lv' := [(2, .int 1), (3, .int i_583), (0, .ref a_0), (1, .ref (eK E a_1))]) rfl ?_
                  obtain ⟨v_629, h_630⟩ : ∃ v9 : Int32, i_583 + Int32.ofInt 1 = v9 := ⟨_, rfl⟩
                  have h_631 := add_v (b := 1) h_630 (by first | omega | (simp only [Int32.lt_iff_toInt_lt, Int32.le_iff_toInt_le, Int32.reduceToInt, ← Int32.toInt_inj, true_and, and_true, or_true, true_or, false_or, or_false, false_and, and_false, not_true_eq_false, not_false_eq_true] <;> omega)) (by first | omega | (simp only [Int32.lt_iff_toInt_lt, Int32.le_iff_toInt_le, Int32.reduceToInt, ← Int32.toInt_inj, true_and, and_true, or_true, true_or, false_or, or_false, false_and, and_false, not_true_eq_false, not_false_eq_true] <;> omega))
                  simp only [Int32.reduceToInt] at h_631
                  refine v_iinc hC dX12_is_76 (k := 1) rfl (v := v_629) h_630 (by decide) (lv' := [(3, .int v_629), (2, .int 1), (0, .ref a_0), (1, .ref (eK E a_1))]) rfl ?_
                  refine v_goto hC dX12_is_79 (tgt := 39) (by decide) ?_
                  refine v_pick [0, 1, 2, 3] rfl ?_
                  have fe_632 : fld (f a_0) 9 = (v_30 : Int32).toInt := by rw [e_22]; rfl
                  exact ih_590 v_629 (by first | omega | (simp only [Int32.lt_iff_toInt_lt, Int32.le_iff_toInt_le, Int32.reduceToInt, ← Int32.toInt_inj, true_and, and_true, or_true, true_or, false_or, or_false, false_and, and_false, not_true_eq_false, not_false_eq_true] <;> omega)) 1 (by decide) (cv_587.yes (by omega) (by omega) (by omega) ((bat_at (t := f (q 4)) e_612 h_616 (k := i_583) (F := fld (f a_0) 9) (by rw [fe_632]; omega) (by rw [fe_632]; omega) (by omega)).trans (Int32.toInt_inj.mp (by omega)))) (by first | omega | (simp only [Int32.lt_iff_toInt_lt, Int32.le_iff_toInt_le, Int32.reduceToInt, ← Int32.toInt_inj, true_and, and_true, or_true, true_or, false_or, or_false, false_and, and_false, not_true_eq_false, not_false_eq_true] <;> omega))
        refine v_pick [0, 1, 2, 3] rfl ?_
        have fe_633 : fld (f a_0) 8 = (v_28 : Int32).toInt := by rw [e_22]; rfl
        have fe_634 : fld (f a_0) 9 = (v_30 : Int32).toInt := by rw [e_22]; rfl
        have fe_635 : fld (f a_0) 10 = (v_32 : Int32).toInt := by rw [e_22]; rfl
        have fe_636 : fld (f a_0) 12 = (v_35 : Int32).toInt := by rw [e_22]; rfl
        exact lp_588 42 0 (by decide) 0 (by decide) (IWI.s0 (by intro q9; rw [fe_633, fe_634, fe_635, fe_636] at q9; omega)) (by decide)
      · simp only [Int32.lt_iff_toInt_lt, Int32.le_iff_toInt_le, Int32.reduceToInt, ← Int32.toInt_inj] at h_445
        refine v_iconst hC dX12_is_31 (v := 1) (by decide) ?_
        refine v_goto hC dX12_is_32 (tgt := 36) (by decide) ?_
        refine v_istore_n hC dX12_is_36 (by decide) (lv' := [(2, .int 1), (0, .ref a_0), (1, .ref (eK E a_1))]) rfl ?_
        refine v_iconst hC dX12_is_37 (v := 0) (by decide) ?_
        refine v_istore_n hC dX12_is_38 (by decide) (lv' := [(3, .int 0), (2, .int 1), (0, .ref a_0), (1, .ref (eK E a_1))]) rfl ?_
        have lp_779 : ∀ (n_780 : Nat) (i_774 : Int32) (b_776 : (0 ≤ i_774.toInt ∧ i_774.toInt ≤ 40)) (i_775 : Int32) (b_777 : (0 ≤ i_775.toInt ∧ i_775.toInt ≤ 1)) (cv_778 : IWI (f a_0) (f (q 4)) a_1 i_775 i_774) (hm_782 : 40 - i_774.toInt < (n_780 : Int)), V z E 4 0 0 L f 39 [(3, .int i_774), (2, .int i_775), (0, .ref a_0), (1, .ref (eK E a_1))] [] := by
          intro n_780
          induction n_780 with
          | zero =>
            intro i_774 b_776 i_775 b_777 cv_778 hm_782
            have bs_783 := cv_778.bs
            have fe_784 : fld (f a_0) 8 = (v_28 : Int32).toInt := by rw [e_22]; rfl
            have fe_785 : fld (f a_0) 9 = (v_30 : Int32).toInt := by rw [e_22]; rfl
            have fe_786 : fld (f a_0) 10 = (v_32 : Int32).toInt := by rw [e_22]; rfl
            have fe_787 : fld (f a_0) 12 = (v_35 : Int32).toInt := by rw [e_22]; rfl
            rw [fe_784, fe_785, fe_786, fe_787] at bs_783
            exfalso; omega
          | succ n_780 ih_781 =>
            intro i_774 b_776 i_775 b_777 cv_778 hm_782
            have bs_783 := cv_778.bs
            have fe_784 : fld (f a_0) 8 = (v_28 : Int32).toInt := by rw [e_22]; rfl
            have fe_785 : fld (f a_0) 9 = (v_30 : Int32).toInt := by rw [e_22]; rfl
            have fe_786 : fld (f a_0) 10 = (v_32 : Int32).toInt := by rw [e_22]; rfl
            have fe_787 : fld (f a_0) 12 = (v_35 : Int32).toInt := by rw [e_22]; rfl
            rw [fe_784, fe_785, fe_786, fe_787] at bs_783
            refine v_iload_n hC dX12_is_39 rfl ?_
            refine v_aload_n hC dX12_is_40 rfl ?_
            refine v_viS hC (rest := [.int i_774]) ha_1 rfl mi_J0_length_8abf5 ms_J0_length_8abf5 (p_J0_length_8abf5 hW ha_1) mx_J0_length_8abf5 ml_X12_143 (by decide) rfl (cells1 := 0) (slots1 := 0) (by decide) (by decide) (Nat.le_of_ble_eq_true rfl) (Nat.le_of_ble_eq_true rfl) rfl (Nat.le_of_ble_eq_true rfl) dX12_is_41 (fun r_788 L_789 f_790 h_791 => ?_)
            obtain ⟨rfl, rfl, b_792, x_793⟩ := h_791
            try simp only [Int32.reduceToInt, Int64.reduceToInt] at x_793
            refine v_icmp_ge hC dX12_is_44 (tgt := 82) (by decide) (fun h_796 => ?_) (fun h_796 => ?_)
            · simp only [Int32.lt_iff_toInt_lt, Int32.le_iff_toInt_le, Int32.reduceToInt, ← Int32.toInt_inj] at h_796
              refine v_iload_n hC dX12_is_82 rfl ?_
              exact hR _ _ _ _ _ _ _ dX12_is_83 (nar01 (by first | omega | (simp only [Int32.lt_iff_toInt_lt, Int32.le_iff_toInt_le, Int32.reduceToInt, ← Int32.toInt_inj, true_and, and_true, or_true, true_or, false_or, or_false, false_and, and_false, not_true_eq_false, not_false_eq_true] <;> omega))) (Nat.le_of_ble_eq_true rfl) (Nat.le_of_ble_eq_true rfl) ⟨rfl, rfl, (cv_778.fin (by first | (left; omega) | (right; omega)))⟩
            · simp only [Int32.lt_iff_toInt_lt, Int32.le_iff_toInt_le, Int32.reduceToInt, ← Int32.toInt_inj] at h_796
              refine v_iload_n hC dX12_is_47 rfl ?_
              refine v_if_eq hC dX12_is_48 (tgt := 82) (by decide) (fun h_797 => ?_) (fun h_797 => ?_)
              · simp only [Int32.lt_iff_toInt_lt, Int32.le_iff_toInt_le, Int32.reduceToInt, ← Int32.toInt_inj] at h_797
                refine v_iload_n hC dX12_is_82 rfl ?_
                exact hR _ _ _ _ _ _ _ dX12_is_83 (nar01 (by first | omega | (simp only [Int32.lt_iff_toInt_lt, Int32.le_iff_toInt_le, Int32.reduceToInt, ← Int32.toInt_inj, true_and, and_true, or_true, true_or, false_or, or_false, false_and, and_false, not_true_eq_false, not_false_eq_true] <;> omega))) (Nat.le_of_ble_eq_true rfl) (Nat.le_of_ble_eq_true rfl) ⟨rfl, rfl, (cv_778.fin (by first | (left; omega) | (right; omega)))⟩
              · simp only [Int32.lt_iff_toInt_lt, Int32.le_iff_toInt_le, Int32.reduceToInt, ← Int32.toInt_inj] at h_797
                refine v_aload_n hC dX12_is_51 rfl ?_
                refine v_get hC fl_X12_24 m_1 e_22 rfl dX12_is_52 ?_
                refine v_aload_n hC dX12_is_55 rfl ?_
                refine v_get hC fl_X12_117 m_1 e_22 rfl dX12_is_56 ?_
                refine v_iload_n hC dX12_is_59 rfl ?_
                obtain ⟨v_798, h_799⟩ : ∃ v9 : Int32, v_30 + i_774 = v9 := ⟨_, rfl⟩
                refine v_iadd hC dX12_is_60 h_799 ?_
                have h_800 := add_v h_799 (by first | omega | (simp only [Int32.lt_iff_toInt_lt, Int32.le_iff_toInt_le, Int32.reduceToInt, ← Int32.toInt_inj, true_and, and_true, or_true, true_or, false_or, or_false, false_and, and_false, not_true_eq_false, not_false_eq_true] <;> omega)) (by first | omega | (simp only [Int32.lt_iff_toInt_lt, Int32.le_iff_toInt_le, Int32.reduceToInt, ← Int32.toInt_inj, true_and, and_true, or_true, true_or, false_or, or_false, false_and, and_false, not_true_eq_false, not_false_eq_true] <;> omega))
                obtain ⟨m_801, t_802⟩ := id k_6
                obtain ⟨g_804, e_803, fit_805⟩ := hW.at m_801 t_802
                obtain ⟨v_806, h_807⟩ : ∃ v9 : Int32, g_804 (v_798 : Int32).toNatClampNeg = v9 := ⟨_, rfl⟩
                refine v_bald hC m_801 e_803 (vp_in_iff.mpr (by first | omega | (simp only [Int32.lt_iff_toInt_lt, Int32.le_iff_toInt_le, Int32.reduceToInt, ← Int32.toInt_inj, true_and, and_true, or_true, true_or, false_or, or_false, false_and, and_false, not_true_eq_false, not_false_eq_true] <;> omega))) h_807 dX12_is_61 ?_
                refine v_aload_n hC dX12_is_62 rfl ?_
                refine v_iload_n hC dX12_is_63 rfl ?_
                refine v_viS hC (rest := [.int v_806]) ha_1 rfl mi_J0_charAt_5068e ms_J0_charAt_5068e (p_J0_charAt_5068e hW ha_1 (by first | omega | (simp only [Int32.lt_iff_toInt_lt, Int32.le_iff_toInt_le, Int32.reduceToInt, ← Int32.toInt_inj, true_and, and_true, or_true, true_or, false_or, or_false, false_and, and_false, not_true_eq_false, not_false_eq_true] <;> omega))) mx_J0_charAt_5068e ml_X12_148 (by decide) rfl (cells1 := 0) (slots1 := 0) (by decide) (by decide) (Nat.le_of_ble_eq_true rfl) (Nat.le_of_ble_eq_true rfl) rfl (Nat.le_of_ble_eq_true rfl) dX12_is_64 (fun r_808 L_809 f_810 h_811 => ?_)
                obtain ⟨rfl, rfl, rfl, nr_812⟩ := h_811
                refine v_icmp_ne hC dX12_is_67 (tgt := 74) (by decide) (fun h_815 => ?_) (fun h_815 => ?_)
                · simp only [Int32.lt_iff_toInt_lt, Int32.le_iff_toInt_le, Int32.reduceToInt, ← Int32.toInt_inj] at h_815
                  refine v_iconst hC dX12_is_74 (v := 0) (by decide) ?_
                  refine v_istore_n hC dX12_is_75 (by decide) (lv' := [(2, .int 0), (3, .int i_774), (0, .ref a_0), (1, .ref (eK E a_1))]) rfl ?_
                  obtain ⟨v_816, h_817⟩ : ∃ v9 : Int32, i_774 + Int32.ofInt 1 = v9 := ⟨_, rfl⟩
                  have h_818 := add_v (b := 1) h_817 (by first | omega | (simp only [Int32.lt_iff_toInt_lt, Int32.le_iff_toInt_le, Int32.reduceToInt, ← Int32.toInt_inj, true_and, and_true, or_true, true_or, false_or, or_false, false_and, and_false, not_true_eq_false, not_false_eq_true] <;> omega)) (by first | omega | (simp only [Int32.lt_iff_toInt_lt, Int32.le_iff_toInt_le, Int32.reduceToInt, ← Int32.toInt_inj, true_and, and_true, or_true, true_or, false_or, or_false, false_and, and_false, not_true_eq_false, not_false_eq_true] <;> omega))
                  simp only [Int32.reduceToInt] at h_818
                  refine v_iinc hC dX12_is_76 (k := 1) rfl (v := v_816) h_817 (by decide) (lv' := [(3, .int v_816), (2, .int 0), (0, .ref a_0), (1, .ref (eK E a_1))]) rfl ?_
                  refine v_goto hC dX12_is_79 (tgt := 39) (by decide) ?_
                  refine v_pick [0, 1, 2, 3] rfl ?_
                  have fe_819 : fld (f a_0) 9 = (v_30 : Int32).toInt := by rw [e_22]; rfl
                  exact ih_781 v_816 (by first | omega | (simp only [Int32.lt_iff_toInt_lt, Int32.le_iff_toInt_le, Int32.reduceToInt, ← Int32.toInt_inj, true_and, and_true, or_true, true_or, false_or, or_false, false_and, and_false, not_true_eq_false, not_false_eq_true] <;> omega)) 0 (by decide) (cv_778.no (by omega) (by omega) (by omega) (fun q9 => h_815 (congrArg Int32.toInt ((bat_at (t := f (q 4)) e_803 h_807 (k := i_774) (F := fld (f a_0) 9) (by rw [fe_819]; omega) (by rw [fe_819]; omega) (by omega)).symm.trans q9)))) (by first | omega | (simp only [Int32.lt_iff_toInt_lt, Int32.le_iff_toInt_le, Int32.reduceToInt, ← Int32.toInt_inj, true_and, and_true, or_true, true_or, false_or, or_false, false_and, and_false, not_true_eq_false, not_false_eq_true] <;> omega))
                · simp only [Int32.lt_iff_toInt_lt, Int32.le_iff_toInt_le, Int32.reduceToInt, ← Int32.toInt_inj] at h_815
                  refine v_iconst hC dX12_is_70 (v := 1) (by decide) ?_
                  refine v_goto hC dX12_is_71 (tgt := 75) (by decide) ?_
                  refine v_istore_n hC dX12_is_75 (by decide) (lv' := [(2, .int 1), (3, .int i_774), (0, .ref a_0), (1, .ref (eK E a_1))]) rfl ?_
                  obtain ⟨v_820, h_821⟩ : ∃ v9 : Int32, i_774 + Int32.ofInt 1 = v9 := ⟨_, rfl⟩
                  have h_822 := add_v (b := 1) h_821 (by first | omega | (simp only [Int32.lt_iff_toInt_lt, Int32.le_iff_toInt_le, Int32.reduceToInt, ← Int32.toInt_inj, true_and, and_true, or_true, true_or, false_or, or_false, false_and, and_false, not_true_eq_false, not_false_eq_true] <;> omega)) (by first | omega | (simp only [Int32.lt_iff_toInt_lt, Int32.le_iff_toInt_le, Int32.reduceToInt, ← Int32.toInt_inj, true_and, and_true, or_true, true_or, false_or, or_false, false_and, and_false, not_true_eq_false, not_false_eq_true] <;> omega))
                  simp only [Int32.reduceToInt] at h_822
                  refine v_iinc hC dX12_is_76 (k := 1) rfl (v := v_820) h_821 (by decide) (lv' := [(3, .int v_820), (2, .int 1), (0, .ref a_0), (1, .ref (eK E a_1))]) rfl ?_
                  refine v_goto hC dX12_is_79 (tgt := 39) (by decide) ?_
                  refine v_pick [0, 1, 2, 3] rfl ?_
                  have fe_823 : fld (f a_0) 9 = (v_30 : Int32).toInt := by rw [e_22]; rfl
                  exact ih_781 v_820 (by first | omega | (simp only [Int32.lt_iff_toInt_lt, Int32.le_iff_toInt_le, Int32.reduceToInt, ← Int32.toInt_inj, true_and, and_true, or_true, true_or, false_or, or_false, false_and, and_false, not_true_eq_false, not_false_eq_true] <;> omega)) 1 (by decide) (cv_778.yes (by omega) (by omega) (by omega) ((bat_at (t := f (q 4)) e_803 h_807 (k := i_774) (F := fld (f a_0) 9) (by rw [fe_823]; omega) (by rw [fe_823]; omega) (by omega)).trans (Int32.toInt_inj.mp (by omega)))) (by first | omega | (simp only [Int32.lt_iff_toInt_lt, Int32.le_iff_toInt_le, Int32.reduceToInt, ← Int32.toInt_inj, true_and, and_true, or_true, true_or, false_or, or_false, false_and, and_false, not_true_eq_false, not_false_eq_true] <;> omega))
        refine v_pick [0, 1, 2, 3] rfl ?_
        have fe_824 : fld (f a_0) 8 = (v_28 : Int32).toInt := by rw [e_22]; rfl
        have fe_825 : fld (f a_0) 9 = (v_30 : Int32).toInt := by rw [e_22]; rfl
        have fe_826 : fld (f a_0) 10 = (v_32 : Int32).toInt := by rw [e_22]; rfl
        have fe_827 : fld (f a_0) 12 = (v_35 : Int32).toInt := by rw [e_22]; rfl
        exact lp_779 42 0 (by decide) 1 (by decide) (IWI.s1 (by rw [fe_827]; omega) (by rw [fe_826]; omega) (by rw [fe_824, fe_825]; omega)) (by decide)
set_option maxRecDepth 100000 in
set_option maxHeartbeats 1500000 in
theorem p_X12_see {l : Launch} {E : Ez} {L : List Nat} {f : Nat → va_E} {T : Nat → va_E → Prop} {a_0 : Nat} {a_1 : Int32} {q : Nat → Nat} (hW : WT T L f) (k_0 : isM T L E a_0 q) (g_1 : (0 ≤ a_1.toInt ∧ a_1.toInt ≤ 600)) : CI l yX12_see cX12_see 2 .int 0 0 0 E [.ref a_0, .int a_1] L f (fun r L1 f1 => L = L1 ∧ f = f1 ∧ r = (sv (f a_0) (f (q 4)) a_1)) := by
  refine ci_of (by decide) (Nat.le_of_ble_eq_true rfl) (fun z hz hnm hC hR => ?_)
  have hC : Cx z E cX12_see RX12 2 0 0 0 := hC
  subst hz
  show V z E 2 0 0 L f 0 [(0, .ref a_0), (1, .int a_1)] []
  obtain ⟨m_1, t_2, nq_21, k_3, k_4, k_5, k_6, k_7, k_8, k_9, k_10, k_11, k_12, k_13, k_14, k_15, k_16, k_17, k_18, k_19, k_20⟩ := id k_0
  refine v_iload_n hC dX12_see_0 rfl ?_
  refine v_aload_n hC dX12_see_1 rfl ?_
  obtain ⟨v_23, v_24, v_26, v_28, v_30, v_32, v_34, v_35, v_36, v_37, v_39, e_22, b_25, b_27, b_29, b_31, b_33, b_38, b_40⟩ := hW.at m_1 t_2
  refine v_get hC fl_X12_105 m_1 e_22 rfl dX12_see_2 ?_
  refine v_icmp_ge hC dX12_see_5 (tgt := 21) (by decide) (fun h_41 => ?_) (fun h_41 => ?_)
  · simp only [Int32.lt_iff_toInt_lt, Int32.le_iff_toInt_le, Int32.reduceToInt, ← Int32.toInt_inj] at h_41
    refine v_iconst hC dX12_see_21 (v := (-1)) (by decide) ?_
    have fe_42 : fld (f a_0) 7 = (v_26 : Int32).toInt := by rw [e_22]; rfl
    exact hR _ _ _ _ _ _ _ dX12_see_22 rfl (Nat.le_of_ble_eq_true rfl) (Nat.le_of_ble_eq_true rfl) ⟨rfl, rfl, (sv_out (by rw [fe_42]; omega))⟩
  · simp only [Int32.lt_iff_toInt_lt, Int32.le_iff_toInt_le, Int32.reduceToInt, ← Int32.toInt_inj] at h_41
    refine v_aload_n hC dX12_see_8 rfl ?_
    refine v_get hC fl_X12_24 m_1 e_22 rfl dX12_see_9 ?_
    refine v_iload_n hC dX12_see_12 rfl ?_
    obtain ⟨m_43, t_44⟩ := id k_6
    obtain ⟨g_46, e_45, fit_47⟩ := hW.at m_43 t_44
    obtain ⟨v_48, h_49⟩ : ∃ v9 : Int32, g_46 (a_1 : Int32).toNatClampNeg = v9 := ⟨_, rfl⟩
    refine v_bald hC m_43 e_45 (vp_in_iff.mpr (by first | omega | (simp only [Int32.lt_iff_toInt_lt, Int32.le_iff_toInt_le, Int32.reduceToInt, ← Int32.toInt_inj, true_and, and_true, or_true, true_or, false_or, or_false, false_and, and_false, not_true_eq_false, not_false_eq_true] <;> omega))) h_49 dX12_see_13 ?_
    refine v_sipush hC dX12_see_14 (v := 255) (by decide) ?_
    obtain ⟨v_50, h_51⟩ : ∃ v9 : Int32, v_48 &&& 255 = v9 := ⟨_, rfl⟩
    refine v_iand hC dX12_see_17 h_51 ?_
    have h_52 := and_v h_51 (by decide)
    try simp only [Int32.reduceToInt] at h_52
    refine v_goto hC dX12_see_18 (tgt := 22) (by decide) ?_
    have fe_53 : fld (f a_0) 7 = (v_26 : Int32).toInt := by rw [e_22]; rfl
    exact hR _ _ _ _ _ _ _ dX12_see_22 rfl (Nat.le_of_ble_eq_true rfl) (Nat.le_of_ble_eq_true rfl) ⟨rfl, rfl, (sv_in (by rw [fe_53]; omega) e_45 h_49 h_51)⟩
set_option maxRecDepth 100000 in
set_option maxHeartbeats 1500000 in
theorem p_X12_in {l : Launch} {E : Ez} {L : List Nat} {f : Nat → va_E} {T : Nat → va_E → Prop} {a_0 : Int64} {a_1 : Int64} {a_2 : Int64} (hW : WT T L f) : CI l yX12_in cX12_in 6 .boolean 0 0 0 E [.long a_0, .long a_1, .long a_2] L f (fun r L1 f1 => L = L1 ∧ f = f1 ∧ (0 ≤ r.toInt ∧ r.toInt ≤ 1) ∧ ((r.toInt = 1 ∧ a_1.toInt ≤ a_0.toInt ∧ a_0.toInt ≤ a_2.toInt) ∨ (r.toInt = 0 ∧ (a_0.toInt < a_1.toInt ∨ a_2.toInt < a_0.toInt)))) := by
  refine ci_of (by decide) (Nat.le_of_ble_eq_true rfl) (fun z hz hnm hC hR => ?_)
  have hC : Cx z E cX12_in RX12 6 0 0 0 := hC
  subst hz
  show V z E 6 0 0 L f 0 [(0, .long a_0), (2, .long a_1), (4, .long a_2)] []
  refine v_lload_n hC dX12_in_0 rfl ?_
  refine v_lload_n hC dX12_in_1 rfl ?_
  obtain ⟨v_1, h_2⟩ : ∃ v9 : Int32, lg_cmp (a_0 : Int64) a_1 = v9 := ⟨_, rfl⟩
  refine v_lcmp hC dX12_in_2 h_2 ?_
  refine v_if_lt hC dX12_in_3 (tgt := 17) (by decide) (fun h_3 => ?_) (fun h_3 => ?_)
  · rw [← h_2] at h_3
    have h_4 := (lgc_lt.mp h_3)
    simp only [Int64.lt_iff_toInt_lt, Int64.le_iff_toInt_le] at h_4
    refine v_iconst hC dX12_in_17 (v := 0) (by decide) ?_
    exact hR _ _ _ _ _ _ _ dX12_in_18 rfl (Nat.le_of_ble_eq_true rfl) (Nat.le_of_ble_eq_true rfl) ⟨rfl, rfl, (by decide), (by first | omega | (simp only [Int32.lt_iff_toInt_lt, Int32.le_iff_toInt_le, Int32.reduceToInt, ← Int32.toInt_inj, true_and, and_true, or_true, true_or, false_or, or_false, false_and, and_false, not_true_eq_false, not_false_eq_true] <;> omega))⟩
  · rw [← h_2] at h_3
    have h_5 := (mt lgc_lt.mpr h_3)
    simp only [Int64.lt_iff_toInt_lt, Int64.le_iff_toInt_le] at h_5
    refine v_lload_n hC dX12_in_6 rfl ?_
    refine v_lload hC dX12_in_7 rfl ?_
    obtain ⟨v_6, h_7⟩ : ∃ v9 : Int32, lg_cmp (a_0 : Int64) a_2 = v9 := ⟨_, rfl⟩
    refine v_lcmp hC dX12_in_9 h_7 ?_
    refine v_if_gt hC dX12_in_10 (tgt := 17) (by decide) (fun h_8 => ?_) (fun h_8 => ?_)
    · rw [← h_7] at h_8
      have h_9 := (lgc_gt.mp h_8)
      simp only [Int64.lt_iff_toInt_lt, Int64.le_iff_toInt_le] at h_9
      refine v_iconst hC dX12_in_17 (v := 0) (by decide) ?_
      exact hR _ _ _ _ _ _ _ dX12_in_18 rfl (Nat.le_of_ble_eq_true rfl) (Nat.le_of_ble_eq_true rfl) ⟨rfl, rfl, (by decide), (by first | omega | (simp only [Int32.lt_iff_toInt_lt, Int32.le_iff_toInt_le, Int32.reduceToInt, ← Int32.toInt_inj, true_and, and_true, or_true, true_or, false_or, or_false, false_and, and_false, not_true_eq_false, not_false_eq_true] <;> omega))⟩
    · rw [← h_7] at h_8
      have h_10 := (mt lgc_gt.mpr h_8)
      simp only [Int64.lt_iff_toInt_lt, Int64.le_iff_toInt_le] at h_10
      refine v_iconst hC dX12_in_13 (v := 1) (by decide) ?_
      refine v_goto hC dX12_in_14 (tgt := 18) (by decide) ?_
      exact hR _ _ _ _ _ _ _ dX12_in_18 rfl (Nat.le_of_ble_eq_true rfl) (Nat.le_of_ble_eq_true rfl) ⟨rfl, rfl, (by decide), (by first | omega | (simp only [Int32.lt_iff_toInt_lt, Int32.le_iff_toInt_le, Int32.reduceToInt, ← Int32.toInt_inj, true_and, and_true, or_true, true_or, false_or, or_false, false_and, and_false, not_true_eq_false, not_false_eq_true] <;> omega))⟩
set_option maxRecDepth 100000 in
set_option maxHeartbeats 1500000 in
theorem p_X12_advance {l : Launch} {E : Ez} {L : List Nat} {f : Nat → va_E} {T : Nat → va_E → Prop} {a_0 : Nat} {q : Nat → Nat} (hW : WT T L f) (k_0 : isM T L E a_0 q) : CV l yX12_advance cX12_advance 2 1 0 0 E [.ref a_0] L f (fun L1 f1 => L = L1 ∧ WT T L f1 ∧ FR [12] f f1 ∧ (fld (f a_0) 8 ≤ fld (f1 a_0) 9 ∧ fld (f1 a_0) 9 ≤ fld (f1 a_0) 8) ∧ (fld (f1 a_0) 10 = 0 ∨ fld (f1 a_0) 9 < fld (f1 a_0) 8) ∧ fld (f1 a_0) 12 = fld (f a_0) 12 ∧ fld (f1 a_0) 20 = fld (f a_0) 20) := by
  refine cv_of (by decide) (Nat.le_of_ble_eq_true rfl) (fun z hz hnm hC hR => ?_)
  have hC : Cx z E cX12_advance RX12 2 1 0 0 := hC
  subst hz
  show V z E 2 0 0 L f 0 [(0, .ref a_0)] []
  obtain ⟨m_1, t_2, nq_21, k_3, k_4, k_5, k_6, k_7, k_8, k_9, k_10, k_11, k_12, k_13, k_14, k_15, k_16, k_17, k_18, k_19, k_20⟩ := id k_0
  obtain ⟨v_23, v_24, v_26, v_28, v_30, v_32, v_34, v_35, v_36, v_37, v_39, e_22, b_25, b_27, b_29, b_31, b_33, b_38, b_40⟩ := hW.at m_1 t_2
  have mz_41 : fld (f a_0) 8 = v_28.toInt := by rw [e_22]; rfl
  have mz_42 : fld (f a_0) 12 = v_35.toInt := by rw [e_22]; rfl
  have mz_43 : fld (f a_0) 20 = v_39.toInt := by rw [e_22]; rfl
  have lp_2816 : ∀ (n_2817 : Nat) (f_2810 : Nat → va_E) (hW_2811 : WT T L f_2810) (hF_2812 : FR [12] f f_2810)  (nv_2813 : v_28.toInt ≤ fld (f_2810 a_0) 8) (nv_2814 : fld (f_2810 a_0) 12 = v_35.toInt) (nv_2815 : fld (f_2810 a_0) 20 = v_39.toInt) (hm_2819 : 600 - fld (f_2810 a_0) 8 < (n_2817 : Int)), V z E 2 0 0 L f_2810 0 [(0, .ref a_0)] [] := by
    intro n_2817
    induction n_2817 with
    | zero =>
      intro f_2810 hW_2811 hF_2812 nv_2813 nv_2814 nv_2815 hm_2819
      obtain ⟨v_2821, v_2822, v_2824, v_2826, v_2828, v_2830, v_2832, v_2833, v_2834, v_2835, v_2837, e_2820, b_2823, b_2825, b_2827, b_2829, b_2831, b_2836, b_2838⟩ := hW_2811.at m_1 t_2
      have fe_2839 : fld (f_2810 a_0) 8 = (v_2826 : Int32).toInt := by rw [e_2820]; rfl
      rw [fe_2839] at nv_2813
      have fe_2840 : fld (f_2810 a_0) 12 = (v_2833 : Int32).toInt := by rw [e_2820]; rfl
      rw [fe_2840] at nv_2814
      have fe_2841 : fld (f_2810 a_0) 20 = (v_2837 : Int32).toInt := by rw [e_2820]; rfl
      rw [fe_2841] at nv_2815
      have h_2842 : fld (f_2810 a_0) 8 = (v_2826 : Int32).toInt := by rw [e_2820]; rfl
      rw [h_2842] at hm_2819
      exfalso; omega
    | succ n_2817 ih_2818 =>
      intro f_2810 hW_2811 hF_2812 nv_2813 nv_2814 nv_2815 hm_2819
      obtain ⟨v_2821, v_2822, v_2824, v_2826, v_2828, v_2830, v_2832, v_2833, v_2834, v_2835, v_2837, e_2820, b_2823, b_2825, b_2827, b_2829, b_2831, b_2836, b_2838⟩ := hW_2811.at m_1 t_2
      have fe_2839 : fld (f_2810 a_0) 8 = (v_2826 : Int32).toInt := by rw [e_2820]; rfl
      rw [fe_2839] at nv_2813
      have fe_2840 : fld (f_2810 a_0) 12 = (v_2833 : Int32).toInt := by rw [e_2820]; rfl
      rw [fe_2840] at nv_2814
      have fe_2841 : fld (f_2810 a_0) 20 = (v_2837 : Int32).toInt := by rw [e_2820]; rfl
      rw [fe_2841] at nv_2815
      have h_2842 : fld (f_2810 a_0) 8 = (v_2826 : Int32).toInt := by rw [e_2820]; rfl
      rw [h_2842] at hm_2819
      refine v_aload_n hC dX12_advance_0 rfl ?_
      refine v_aload_n hC dX12_advance_1 rfl ?_
      refine v_get hC fl_X12_108 m_1 e_2820 rfl dX12_advance_2 ?_
      refine v_vi hC (rest := []) m_1 e_2820 rfl mi_X12_see ms_X12_see (p_X12_see hW_2811 k_0 (by first | omega | (simp only [Int32.lt_iff_toInt_lt, Int32.le_iff_toInt_le, Int32.reduceToInt, ← Int32.toInt_inj, true_and, and_true, or_true, true_or, false_or, or_false, false_and, and_false, not_true_eq_false, not_false_eq_true] <;> omega))) mx_X12_see ml_X12_114 (by decide) rfl (cells1 := 0) (slots1 := 0) (by decide) (by decide) (Nat.le_of_ble_eq_true rfl) (Nat.le_of_ble_eq_true rfl) rfl (Nat.le_of_ble_eq_true rfl) dX12_advance_5 (fun r_2843 L_2844 f_2845 h_2846 => ?_)
      obtain ⟨rfl, rfl, rfl⟩ := h_2846
      have sb_2849 := sv_b (f_2810 a_0) (f_2810 (q 4)) v_2826
      have fe_2850 : fld (f_2810 a_0) 7 = (v_2824 : Int32).toInt := by rw [e_2820]; rfl
      rw [fe_2850] at sb_2849
      refine v_bipush hC dX12_advance_8 (v := 32) (by decide) ?_
      refine v_icmp_eq hC dX12_advance_10 (tgt := 26) (by decide) (fun h_2851 => ?_) (fun h_2851 => ?_)
      · simp only [Int32.lt_iff_toInt_lt, Int32.le_iff_toInt_le, Int32.reduceToInt, ← Int32.toInt_inj] at h_2851
        refine v_aload_n hC dX12_advance_26 rfl ?_
        refine v_dup hC dX12_advance_27 rfl ?_
        refine v_get hC fl_X12_108 m_1 e_2820 rfl dX12_advance_28 ?_
        refine v_iconst hC dX12_advance_31 (v := 1) (by decide) ?_
        obtain ⟨v_2864, h_2865⟩ : ∃ v9 : Int32, v_2826 + 1 = v9 := ⟨_, rfl⟩
        refine v_iadd hC dX12_advance_32 h_2865 ?_
        have h_2866 := add_v h_2865 (by first | omega | (simp only [Int32.lt_iff_toInt_lt, Int32.le_iff_toInt_le, Int32.reduceToInt, ← Int32.toInt_inj, true_and, and_true, or_true, true_or, false_or, or_false, false_and, and_false, not_true_eq_false, not_false_eq_true] <;> omega)) (by first | omega | (simp only [Int32.lt_iff_toInt_lt, Int32.le_iff_toInt_le, Int32.reduceToInt, ← Int32.toInt_inj, true_and, and_true, or_true, true_or, false_or, or_false, false_and, and_false, not_true_eq_false, not_false_eq_true] <;> omega))
        try simp only [Int32.reduceToInt] at h_2866
        refine v_put hC fl_X12_108 m_1 e_2820 rfl rfl (Nat.le_of_ble_eq_true rfl) (fs' := [.int v_2821, .ref (q 1), .ref (q 2), .ref (q 3), .ref (q 4), .int v_2822, .ref (q 6), .int v_2824, .int v_2864, .int v_2828, .int v_2830, .int v_2832, .int v_2833, .int v_2834, .ref (q 14), .ref (q 15), .ref (q 16), .int v_2835, .ref (q 18), .ref (q 19), .int v_2837, .ref (q 21), .ref (q 22), .ref (q 23), .ref (q 24), .ref (q 25), .ref (q 26), .ref (q 27), .ref (q 28)]) rfl dX12_advance_33 (fun f_2867 hf_2868 hk_2869 => ?_)
        have hW_2870 := hW_2811.up hf_2868 hk_2869 t_2 ⟨v_2821, v_2822, v_2824, v_2864, v_2828, v_2830, v_2832, v_2833, v_2834, v_2835, v_2837, rfl, (by first | omega | (simp only [Int32.lt_iff_toInt_lt, Int32.le_iff_toInt_le, Int32.reduceToInt, ← Int32.toInt_inj, true_and, and_true, or_true, true_or, false_or, or_false, false_and, and_false, not_true_eq_false, not_false_eq_true] <;> omega)), (by first | omega | (simp only [Int32.lt_iff_toInt_lt, Int32.le_iff_toInt_le, Int32.reduceToInt, ← Int32.toInt_inj, true_and, and_true, or_true, true_or, false_or, or_false, false_and, and_false, not_true_eq_false, not_false_eq_true] <;> omega)), (by first | omega | (simp only [Int32.lt_iff_toInt_lt, Int32.le_iff_toInt_le, Int32.reduceToInt, ← Int32.toInt_inj, true_and, and_true, or_true, true_or, false_or, or_false, false_and, and_false, not_true_eq_false, not_false_eq_true] <;> omega)), (by first | omega | (simp only [Int32.lt_iff_toInt_lt, Int32.le_iff_toInt_le, Int32.reduceToInt, ← Int32.toInt_inj, true_and, and_true, or_true, true_or, false_or, or_false, false_and, and_false, not_true_eq_false, not_false_eq_true] <;> omega)), (by first | omega | (simp only [Int32.lt_iff_toInt_lt, Int32.le_iff_toInt_le, Int32.reduceToInt, ← Int32.toInt_inj, true_and, and_true, or_true, true_or, false_or, or_false, false_and, and_false, not_true_eq_false, not_false_eq_true] <;> omega)), (by first | omega | (simp only [Int32.lt_iff_toInt_lt, Int32.le_iff_toInt_le, Int32.reduceToInt, ← Int32.toInt_inj, true_and, and_true, or_true, true_or, false_or, or_false, false_and, and_false, not_true_eq_false, not_false_eq_true] <;> omega)), (by first | omega | (simp only [Int32.lt_iff_toInt_lt, Int32.le_iff_toInt_le, Int32.reduceToInt, ← Int32.toInt_inj, true_and, and_true, or_true, true_or, false_or, or_false, false_and, and_false, not_true_eq_false, not_false_eq_true] <;> omega))⟩
        have fr_2871 := FR.w hk_2869 e_2820 (k := 12) rfl
        refine v_goto hC dX12_advance_36 (tgt := 0) (by decide) ?_
        refine v_pick [0] rfl ?_
        have fe_2872 : fld (f_2867 a_0) 8 = (v_2864 : Int32).toInt := by rw [hf_2868]; rfl
        have fe_2873 : fld (f_2867 a_0) 12 = (v_2833 : Int32).toInt := by rw [hf_2868]; rfl
        have fe_2874 : fld (f_2867 a_0) 20 = (v_2837 : Int32).toInt := by rw [hf_2868]; rfl
        have h_2875 : fld (f_2867 a_0) 8 = (v_2864 : Int32).toInt := by rw [hf_2868]; rfl
        exact ih_2818 f_2867 hW_2870 ((hF_2812.tr fr_2871).mono rfl) (by rw [fe_2872] <;> first | omega | (simp only [Int32.lt_iff_toInt_lt, Int32.le_iff_toInt_le, Int32.reduceToInt, ← Int32.toInt_inj, true_and, and_true, or_true, true_or, false_or, or_false, false_and, and_false, not_true_eq_false, not_false_eq_true] <;> omega)) (by rw [fe_2873] <;> first | omega | (simp only [Int32.lt_iff_toInt_lt, Int32.le_iff_toInt_le, Int32.reduceToInt, ← Int32.toInt_inj, true_and, and_true, or_true, true_or, false_or, or_false, false_and, and_false, not_true_eq_false, not_false_eq_true] <;> omega)) (by rw [fe_2874] <;> first | omega | (simp only [Int32.lt_iff_toInt_lt, Int32.le_iff_toInt_le, Int32.reduceToInt, ← Int32.toInt_inj, true_and, and_true, or_true, true_or, false_or, or_false, false_and, and_false, not_true_eq_false, not_false_eq_true] <;> omega)) (by rw [h_2875]; omega)
      · simp only [Int32.lt_iff_toInt_lt, Int32.le_iff_toInt_le, Int32.reduceToInt, ← Int32.toInt_inj] at h_2851
        refine v_aload_n hC dX12_advance_13 rfl ?_
        refine v_aload_n hC dX12_advance_14 rfl ?_
        refine v_get hC fl_X12_108 m_1 e_2820 rfl dX12_advance_15 ?_
        refine v_vi hC (rest := []) m_1 e_2820 rfl mi_X12_see ms_X12_see (p_X12_see hW_2811 k_0 (by first | omega | (simp only [Int32.lt_iff_toInt_lt, Int32.le_iff_toInt_le, Int32.reduceToInt, ← Int32.toInt_inj, true_and, and_true, or_true, true_or, false_or, or_false, false_and, and_false, not_true_eq_false, not_false_eq_true] <;> omega))) mx_X12_see ml_X12_114 (by decide) rfl (cells1 := 0) (slots1 := 0) (by decide) (by decide) (Nat.le_of_ble_eq_true rfl) (Nat.le_of_ble_eq_true rfl) rfl (Nat.le_of_ble_eq_true rfl) dX12_advance_18 (fun r_2876 L_2877 f_2878 h_2879 => ?_)
        obtain ⟨rfl, rfl, rfl⟩ := h_2879
        have sb_2882 := sv_b (f_2810 a_0) (f_2810 (q 4)) v_2826
        have fe_2883 : fld (f_2810 a_0) 7 = (v_2824 : Int32).toInt := by rw [e_2820]; rfl
        rw [fe_2883] at sb_2882
        refine v_bipush hC dX12_advance_21 (v := 10) (by decide) ?_
        refine v_icmp_ne hC dX12_advance_23 (tgt := 39) (by decide) (fun h_2884 => ?_) (fun h_2884 => ?_)
        · simp only [Int32.lt_iff_toInt_lt, Int32.le_iff_toInt_le, Int32.reduceToInt, ← Int32.toInt_inj] at h_2884
          refine v_aload_n hC dX12_advance_39 rfl ?_
          refine v_aload_n hC dX12_advance_40 rfl ?_
          refine v_get hC fl_X12_108 m_1 e_2820 rfl dX12_advance_41 ?_
          refine v_put hC fl_X12_117 m_1 e_2820 rfl rfl (Nat.le_of_ble_eq_true rfl) (fs' := [.int v_2821, .ref (q 1), .ref (q 2), .ref (q 3), .ref (q 4), .int v_2822, .ref (q 6), .int v_2824, .int v_2826, .int v_2826, .int v_2830, .int v_2832, .int v_2833, .int v_2834, .ref (q 14), .ref (q 15), .ref (q 16), .int v_2835, .ref (q 18), .ref (q 19), .int v_2837, .ref (q 21), .ref (q 22), .ref (q 23), .ref (q 24), .ref (q 25), .ref (q 26), .ref (q 27), .ref (q 28)]) rfl dX12_advance_44 (fun f_2897 hf_2898 hk_2899 => ?_)
          have hW_2900 := hW_2811.up hf_2898 hk_2899 t_2 ⟨v_2821, v_2822, v_2824, v_2826, v_2826, v_2830, v_2832, v_2833, v_2834, v_2835, v_2837, rfl, (by first | omega | (simp only [Int32.lt_iff_toInt_lt, Int32.le_iff_toInt_le, Int32.reduceToInt, ← Int32.toInt_inj, true_and, and_true, or_true, true_or, false_or, or_false, false_and, and_false, not_true_eq_false, not_false_eq_true] <;> omega)), (by first | omega | (simp only [Int32.lt_iff_toInt_lt, Int32.le_iff_toInt_le, Int32.reduceToInt, ← Int32.toInt_inj, true_and, and_true, or_true, true_or, false_or, or_false, false_and, and_false, not_true_eq_false, not_false_eq_true] <;> omega)), (by first | omega | (simp only [Int32.lt_iff_toInt_lt, Int32.le_iff_toInt_le, Int32.reduceToInt, ← Int32.toInt_inj, true_and, and_true, or_true, true_or, false_or, or_false, false_and, and_false, not_true_eq_false, not_false_eq_true] <;> omega)), (by first | omega | (simp only [Int32.lt_iff_toInt_lt, Int32.le_iff_toInt_le, Int32.reduceToInt, ← Int32.toInt_inj, true_and, and_true, or_true, true_or, false_or, or_false, false_and, and_false, not_true_eq_false, not_false_eq_true] <;> omega)), (by first | omega | (simp only [Int32.lt_iff_toInt_lt, Int32.le_iff_toInt_le, Int32.reduceToInt, ← Int32.toInt_inj, true_and, and_true, or_true, true_or, false_or, or_false, false_and, and_false, not_true_eq_false, not_false_eq_true] <;> omega)), (by first | omega | (simp only [Int32.lt_iff_toInt_lt, Int32.le_iff_toInt_le, Int32.reduceToInt, ← Int32.toInt_inj, true_and, and_true, or_true, true_or, false_or, or_false, false_and, and_false, not_true_eq_false, not_false_eq_true] <;> omega)), (by first | omega | (simp only [Int32.lt_iff_toInt_lt, Int32.le_iff_toInt_le, Int32.reduceToInt, ← Int32.toInt_inj, true_and, and_true, or_true, true_or, false_or, or_false, false_and, and_false, not_true_eq_false, not_false_eq_true] <;> omega))⟩
          have fr_2901 := FR.w hk_2899 e_2820 (k := 12) rfl
          refine v_aload_n hC dX12_advance_47 rfl ?_
          refine v_aload_n hC dX12_advance_48 rfl ?_
          refine v_get hC fl_X12_108 m_1 hf_2898 rfl dX12_advance_49 ?_
          refine v_vi hC (rest := []) m_1 hf_2898 rfl mi_X12_see ms_X12_see (p_X12_see hW_2900 k_0 (by first | omega | (simp only [Int32.lt_iff_toInt_lt, Int32.le_iff_toInt_le, Int32.reduceToInt, ← Int32.toInt_inj, true_and, and_true, or_true, true_or, false_or, or_false, false_and, and_false, not_true_eq_false, not_false_eq_true] <;> omega))) mx_X12_see ml_X12_114 (by decide) rfl (cells1 := 0) (slots1 := 0) (by decide) (by decide) (Nat.le_of_ble_eq_true rfl) (Nat.le_of_ble_eq_true rfl) rfl (Nat.le_of_ble_eq_true rfl) dX12_advance_52 (fun r_2902 L_2903 f_2904 h_2905 => ?_)
          obtain ⟨rfl, rfl, rfl⟩ := h_2905
          have sb_2908 := sv_b (f_2897 a_0) (f_2897 (q 4)) v_2826
          have fe_2909 : fld (f_2897 a_0) 7 = (v_2824 : Int32).toInt := by rw [hf_2898]; rfl
          rw [fe_2909] at sb_2908
          obtain ⟨m_2910, t_2911⟩ := id k_6
          obtain ⟨g_2913, e_2912, fit_2914⟩ := hW_2900.at m_2910 t_2911
          have fe_2915 : fld (f_2897 a_0) 7 = (v_2824 : Int32).toInt := by rw [hf_2898]; rfl
          refine v_istore_n hC dX12_advance_55 (by decide) (lv' := [(1, .int (sv (f_2897 a_0) (f_2897 (q 4)) v_2826)), (0, .ref a_0)]) rfl ?_
          refine v_iload_n hC dX12_advance_56 rfl ?_
          refine v_iconst hC dX12_advance_57 (v := (-1)) (by decide) ?_
          refine v_icmp_ne hC dX12_advance_58 (tgt := 69) (by decide) (fun h_2916 => ?_) (fun h_2916 => ?_)
          · simp only [Int32.lt_iff_toInt_lt, Int32.le_iff_toInt_le, Int32.reduceToInt, ← Int32.toInt_inj] at h_2916
            refine v_iload_n hC dX12_advance_69 rfl ?_
            obtain ⟨v_2917, h_2918⟩ : ∃ v9 : Int64, (sv (f_2897 a_0) (f_2897 (q 4)) v_2826).toInt64 = v9 := ⟨_, rfl⟩
            refine v_i2l hC dX12_advance_70 h_2918 ?_
            have h_2919 : v_2917.toInt = (sv (f_2897 a_0) (f_2897 (q 4)) v_2826).toInt := by rw [← h_2918]; exact Int32.toInt_toInt64 _
            refine v_ldc2 hC kl_X12_123 dX12_advance_71 ?_
            refine v_ldc2 hC kl_X12_125 dX12_advance_74 ?_
            refine v_si hC (rest := []) mt_X12_in (p_X12_in hW_2900) mx_X12_in ml_X12_79 (by decide) rfl (cells1 := 0) (slots1 := 0) (by decide) (by decide) (Nat.le_of_ble_eq_true rfl) (Nat.le_of_ble_eq_true rfl) rfl (Nat.le_of_ble_eq_true rfl) dX12_advance_77 (fun r_2920 L_2921 f_2922 h_2923 => ?_)
            obtain ⟨rfl, rfl, b_2924, x_2925⟩ := h_2923
            try simp only [Int32.reduceToInt, Int64.reduceToInt] at x_2925
            refine v_if_eq hC dX12_advance_80 (tgt := 125) (by decide) (fun h_2928 => ?_) (fun h_2928 => ?_)
            · simp only [Int32.lt_iff_toInt_lt, Int32.le_iff_toInt_le, Int32.reduceToInt, ← Int32.toInt_inj] at h_2928
              refine v_iload_n hC dX12_advance_125 rfl ?_
              obtain ⟨v_2929, h_2930⟩ : ∃ v9 : Int64, (sv (f_2897 a_0) (f_2897 (q 4)) v_2826).toInt64 = v9 := ⟨_, rfl⟩
              refine v_i2l hC dX12_advance_126 h_2930 ?_
              have h_2931 : v_2929.toInt = (sv (f_2897 a_0) (f_2897 (q 4)) v_2826).toInt := by rw [← h_2930]; exact Int32.toInt_toInt64 _
              refine v_ldc2 hC kl_X12_127 dX12_advance_127 ?_
              refine v_ldc2 hC kl_X12_129 dX12_advance_130 ?_
              refine v_si hC (rest := []) mt_X12_in (p_X12_in hW_2900) mx_X12_in ml_X12_79 (by decide) rfl (cells1 := 0) (slots1 := 0) (by decide) (by decide) (Nat.le_of_ble_eq_true rfl) (Nat.le_of_ble_eq_true rfl) rfl (Nat.le_of_ble_eq_true rfl) dX12_advance_133 (fun r_2932 L_2933 f_2934 h_2935 => ?_)
              obtain ⟨rfl, rfl, b_2936, x_2937⟩ := h_2935
              try simp only [Int32.reduceToInt, Int64.reduceToInt] at x_2937
              refine v_if_eq hC dX12_advance_136 (tgt := 215) (by decide) (fun h_2940 => ?_) (fun h_2940 => ?_)
              · simp only [Int32.lt_iff_toInt_lt, Int32.le_iff_toInt_le, Int32.reduceToInt, ← Int32.toInt_inj] at h_2940
                refine v_aload_n hC dX12_advance_215 rfl ?_
                refine v_iload_n hC dX12_advance_216 rfl ?_
                refine v_bipush hC dX12_advance_217 (v := 59) (by decide) ?_
                refine v_icmp_ne hC dX12_advance_219 (tgt := 226) (by decide) (fun h_2941 => ?_) (fun h_2941 => ?_)
                · simp only [Int32.lt_iff_toInt_lt, Int32.le_iff_toInt_le, Int32.reduceToInt, ← Int32.toInt_inj] at h_2941
                  refine v_iconst hC dX12_advance_226 (v := 4) (by decide) ?_
                  refine v_put hC fl_X12_120 m_1 hf_2898 rfl rfl (Nat.le_of_ble_eq_true rfl) (fs' := [.int v_2821, .ref (q 1), .ref (q 2), .ref (q 3), .ref (q 4), .int v_2822, .ref (q 6), .int v_2824, .int v_2826, .int v_2826, .int 4, .int v_2832, .int v_2833, .int v_2834, .ref (q 14), .ref (q 15), .ref (q 16), .int v_2835, .ref (q 18), .ref (q 19), .int v_2837, .ref (q 21), .ref (q 22), .ref (q 23), .ref (q 24), .ref (q 25), .ref (q 26), .ref (q 27), .ref (q 28)]) rfl dX12_advance_227 (fun f_2942 hf_2943 hk_2944 => ?_)
                  have hW_2945 := hW_2900.up hf_2943 hk_2944 t_2 ⟨v_2821, v_2822, v_2824, v_2826, v_2826, 4, v_2832, v_2833, v_2834, v_2835, v_2837, rfl, (by first | omega | (simp only [Int32.lt_iff_toInt_lt, Int32.le_iff_toInt_le, Int32.reduceToInt, ← Int32.toInt_inj, true_and, and_true, or_true, true_or, false_or, or_false, false_and, and_false, not_true_eq_false, not_false_eq_true] <;> omega)), (by first | omega | (simp only [Int32.lt_iff_toInt_lt, Int32.le_iff_toInt_le, Int32.reduceToInt, ← Int32.toInt_inj, true_and, and_true, or_true, true_or, false_or, or_false, false_and, and_false, not_true_eq_false, not_false_eq_true] <;> omega)), (by first | omega | (simp only [Int32.lt_iff_toInt_lt, Int32.le_iff_toInt_le, Int32.reduceToInt, ← Int32.toInt_inj, true_and, and_true, or_true, true_or, false_or, or_false, false_and, and_false, not_true_eq_false, not_false_eq_true] <;> omega)), (by first | omega | (simp only [Int32.lt_iff_toInt_lt, Int32.le_iff_toInt_le, Int32.reduceToInt, ← Int32.toInt_inj, true_and, and_true, or_true, true_or, false_or, or_false, false_and, and_false, not_true_eq_false, not_false_eq_true] <;> omega)), (by decide), (by first | omega | (simp only [Int32.lt_iff_toInt_lt, Int32.le_iff_toInt_le, Int32.reduceToInt, ← Int32.toInt_inj, true_and, and_true, or_true, true_or, false_or, or_false, false_and, and_false, not_true_eq_false, not_false_eq_true] <;> omega)), (by first | omega | (simp only [Int32.lt_iff_toInt_lt, Int32.le_iff_toInt_le, Int32.reduceToInt, ← Int32.toInt_inj, true_and, and_true, or_true, true_or, false_or, or_false, false_and, and_false, not_true_eq_false, not_false_eq_true] <;> omega))⟩
                  have hf_2946 := (hk_2944 (q 4) (ne_kd e_2912 hf_2898 rfl)).trans e_2912
                  have fr_2947 := FR.w hk_2944 hf_2898 (k := 12) rfl
                  refine v_aload_n hC dX12_advance_230 rfl ?_
                  refine v_dup hC dX12_advance_231 rfl ?_
                  refine v_get hC fl_X12_108 m_1 hf_2943 rfl dX12_advance_232 ?_
                  refine v_iconst hC dX12_advance_235 (v := 1) (by decide) ?_
                  obtain ⟨v_2948, h_2949⟩ : ∃ v9 : Int32, v_2826 + 1 = v9 := ⟨_, rfl⟩
                  refine v_iadd hC dX12_advance_236 h_2949 ?_
                  have h_2950 := add_v h_2949 (by first | omega | (simp only [Int32.lt_iff_toInt_lt, Int32.le_iff_toInt_le, Int32.reduceToInt, ← Int32.toInt_inj, true_and, and_true, or_true, true_or, false_or, or_false, false_and, and_false, not_true_eq_false, not_false_eq_true] <;> omega)) (by first | omega | (simp only [Int32.lt_iff_toInt_lt, Int32.le_iff_toInt_le, Int32.reduceToInt, ← Int32.toInt_inj, true_and, and_true, or_true, true_or, false_or, or_false, false_and, and_false, not_true_eq_false, not_false_eq_true] <;> omega))
                  try simp only [Int32.reduceToInt] at h_2950
                  refine v_put hC fl_X12_108 m_1 hf_2943 rfl rfl (Nat.le_of_ble_eq_true rfl) (fs' := [.int v_2821, .ref (q 1), .ref (q 2), .ref (q 3), .ref (q 4), .int v_2822, .ref (q 6), .int v_2824, .int v_2948, .int v_2826, .int 4, .int v_2832, .int v_2833, .int v_2834, .ref (q 14), .ref (q 15), .ref (q 16), .int v_2835, .ref (q 18), .ref (q 19), .int v_2837, .ref (q 21), .ref (q 22), .ref (q 23), .ref (q 24), .ref (q 25), .ref (q 26), .ref (q 27), .ref (q 28)]) rfl dX12_advance_237 (fun f_2951 hf_2952 hk_2953 => ?_)
                  have hW_2954 := hW_2945.up hf_2952 hk_2953 t_2 ⟨v_2821, v_2822, v_2824, v_2948, v_2826, 4, v_2832, v_2833, v_2834, v_2835, v_2837, rfl, (by first | omega | (simp only [Int32.lt_iff_toInt_lt, Int32.le_iff_toInt_le, Int32.reduceToInt, ← Int32.toInt_inj, true_and, and_true, or_true, true_or, false_or, or_false, false_and, and_false, not_true_eq_false, not_false_eq_true] <;> omega)), (by first | omega | (simp only [Int32.lt_iff_toInt_lt, Int32.le_iff_toInt_le, Int32.reduceToInt, ← Int32.toInt_inj, true_and, and_true, or_true, true_or, false_or, or_false, false_and, and_false, not_true_eq_false, not_false_eq_true] <;> omega)), (by first | omega | (simp only [Int32.lt_iff_toInt_lt, Int32.le_iff_toInt_le, Int32.reduceToInt, ← Int32.toInt_inj, true_and, and_true, or_true, true_or, false_or, or_false, false_and, and_false, not_true_eq_false, not_false_eq_true] <;> omega)), (by first | omega | (simp only [Int32.lt_iff_toInt_lt, Int32.le_iff_toInt_le, Int32.reduceToInt, ← Int32.toInt_inj, true_and, and_true, or_true, true_or, false_or, or_false, false_and, and_false, not_true_eq_false, not_false_eq_true] <;> omega)), (by decide), (by first | omega | (simp only [Int32.lt_iff_toInt_lt, Int32.le_iff_toInt_le, Int32.reduceToInt, ← Int32.toInt_inj, true_and, and_true, or_true, true_or, false_or, or_false, false_and, and_false, not_true_eq_false, not_false_eq_true] <;> omega)), (by first | omega | (simp only [Int32.lt_iff_toInt_lt, Int32.le_iff_toInt_le, Int32.reduceToInt, ← Int32.toInt_inj, true_and, and_true, or_true, true_or, false_or, or_false, false_and, and_false, not_true_eq_false, not_false_eq_true] <;> omega))⟩
                  have hf_2955 := (hk_2953 (q 4) (ne_kd hf_2946 hf_2943 rfl)).trans hf_2946
                  have fr_2956 := FR.w hk_2953 hf_2943 (k := 12) rfl
                  have fe_2957 : fld (f_2951 a_0) 8 = (v_2948 : Int32).toInt := by rw [hf_2952]; rfl
                  have fe_2958 : fld (f_2951 a_0) 9 = (v_2826 : Int32).toInt := by rw [hf_2952]; rfl
                  have fe_2959 : fld (f_2951 a_0) 8 = (v_2948 : Int32).toInt := by rw [hf_2952]; rfl
                  have fe_2960 : fld (f_2951 a_0) 9 = (v_2826 : Int32).toInt := by rw [hf_2952]; rfl
                  have fe_2961 : fld (f_2951 a_0) 10 = (4 : Int32).toInt := by rw [hf_2952]; rfl
                  simp only [Int32.reduceToInt] at fe_2961
                  have fe_2962 : fld (f_2951 a_0) 12 = (v_2833 : Int32).toInt := by rw [hf_2952]; rfl
                  have fe_2963 : fld (f_2951 a_0) 20 = (v_2837 : Int32).toInt := by rw [hf_2952]; rfl
                  exact hR _ _ _ _ _ _ dX12_advance_240 (Nat.le_of_ble_eq_true rfl) (Nat.le_of_ble_eq_true rfl) ⟨rfl, hW_2954, ((((hF_2812.tr fr_2901).tr fr_2947).tr fr_2956).mono rfl), (by simp only [fe_2957, fe_2958, mz_41, true_and, and_true, or_true, true_or, false_or, or_false, false_and, and_false, not_true_eq_false, not_false_eq_true] <;> first | omega | (simp only [Int32.lt_iff_toInt_lt, Int32.le_iff_toInt_le, Int32.reduceToInt, ← Int32.toInt_inj, true_and, and_true, or_true, true_or, false_or, or_false, false_and, and_false, not_true_eq_false, not_false_eq_true] <;> omega)), (by simp only [fe_2959, fe_2960, fe_2961, true_and, and_true, or_true, true_or, false_or, or_false, false_and, and_false, not_true_eq_false, not_false_eq_true] <;> first | omega | (simp only [Int32.lt_iff_toInt_lt, Int32.le_iff_toInt_le, Int32.reduceToInt, ← Int32.toInt_inj, true_and, and_true, or_true, true_or, false_or, or_false, false_and, and_false, not_true_eq_false, not_false_eq_true] <;> omega)), (by simp only [fe_2962, mz_42, true_and, and_true, or_true, true_or, false_or, or_false, false_and, and_false, not_true_eq_false, not_false_eq_true] <;> first | omega | (simp only [Int32.lt_iff_toInt_lt, Int32.le_iff_toInt_le, Int32.reduceToInt, ← Int32.toInt_inj, true_and, and_true, or_true, true_or, false_or, or_false, false_and, and_false, not_true_eq_false, not_false_eq_true] <;> omega)), (by simp only [fe_2963, mz_43, true_and, and_true, or_true, true_or, false_or, or_false, false_and, and_false, not_true_eq_false, not_false_eq_true] <;> first | omega | (simp only [Int32.lt_iff_toInt_lt, Int32.le_iff_toInt_le, Int32.reduceToInt, ← Int32.toInt_inj, true_and, and_true, or_true, true_or, false_or, or_false, false_and, and_false, not_true_eq_false, not_false_eq_true] <;> omega))⟩
                · simp only [Int32.lt_iff_toInt_lt, Int32.le_iff_toInt_le, Int32.reduceToInt, ← Int32.toInt_inj] at h_2941
                  refine v_iconst hC dX12_advance_222 (v := 3) (by decide) ?_
                  refine v_goto hC dX12_advance_223 (tgt := 227) (by decide) ?_
                  refine v_put hC fl_X12_120 m_1 hf_2898 rfl rfl (Nat.le_of_ble_eq_true rfl) (fs' := [.int v_2821, .ref (q 1), .ref (q 2), .ref (q 3), .ref (q 4), .int v_2822, .ref (q 6), .int v_2824, .int v_2826, .int v_2826, .int 3, .int v_2832, .int v_2833, .int v_2834, .ref (q 14), .ref (q 15), .ref (q 16), .int v_2835, .ref (q 18), .ref (q 19), .int v_2837, .ref (q 21), .ref (q 22), .ref (q 23), .ref (q 24), .ref (q 25), .ref (q 26), .ref (q 27), .ref (q 28)]) rfl dX12_advance_227 (fun f_2964 hf_2965 hk_2966 => ?_)
                  have hW_2967 := hW_2900.up hf_2965 hk_2966 t_2 ⟨v_2821, v_2822, v_2824, v_2826, v_2826, 3, v_2832, v_2833, v_2834, v_2835, v_2837, rfl, (by first | omega | (simp only [Int32.lt_iff_toInt_lt, Int32.le_iff_toInt_le, Int32.reduceToInt, ← Int32.toInt_inj, true_and, and_true, or_true, true_or, false_or, or_false, false_and, and_false, not_true_eq_false, not_false_eq_true] <;> omega)), (by first | omega | (simp only [Int32.lt_iff_toInt_lt, Int32.le_iff_toInt_le, Int32.reduceToInt, ← Int32.toInt_inj, true_and, and_true, or_true, true_or, false_or, or_false, false_and, and_false, not_true_eq_false, not_false_eq_true] <;> omega)), (by first | omega | (simp only [Int32.lt_iff_toInt_lt, Int32.le_iff_toInt_le, Int32.reduceToInt, ← Int32.toInt_inj, true_and, and_true, or_true, true_or, false_or, or_false, false_and, and_false, not_true_eq_false, not_false_eq_true] <;> omega)), (by first | omega | (simp only [Int32.lt_iff_toInt_lt, Int32.le_iff_toInt_le, Int32.reduceToInt, ← Int32.toInt_inj, true_and, and_true, or_true, true_or, false_or, or_false, false_and, and_false, not_true_eq_false, not_false_eq_true] <;> omega)), (by decide), (by first | omega | (simp only [Int32.lt_iff_toInt_lt, Int32.le_iff_toInt_le, Int32.reduceToInt, ← Int32.toInt_inj, true_and, and_true, or_true, true_or, false_or, or_false, false_and, and_false, not_true_eq_false, not_false_eq_true] <;> omega)), (by first | omega | (simp only [Int32.lt_iff_toInt_lt, Int32.le_iff_toInt_le, Int32.reduceToInt, ← Int32.toInt_inj, true_and, and_true, or_true, true_or, false_or, or_false, false_and, and_false, not_true_eq_false, not_false_eq_true] <;> omega))⟩
                  have hf_2968 := (hk_2966 (q 4) (ne_kd e_2912 hf_2898 rfl)).trans e_2912
                  have fr_2969 := FR.w hk_2966 hf_2898 (k := 12) rfl
                  refine v_aload_n hC dX12_advance_230 rfl ?_
                  refine v_dup hC dX12_advance_231 rfl ?_
                  refine v_get hC fl_X12_108 m_1 hf_2965 rfl dX12_advance_232 ?_
                  refine v_iconst hC dX12_advance_235 (v := 1) (by decide) ?_
                  obtain ⟨v_2970, h_2971⟩ : ∃ v9 : Int32, v_2826 + 1 = v9 := ⟨_, rfl⟩
                  refine v_iadd hC dX12_advance_236 h_2971 ?_
                  have h_2972 := add_v h_2971 (by first | omega | (simp only [Int32.lt_iff_toInt_lt, Int32.le_iff_toInt_le, Int32.reduceToInt, ← Int32.toInt_inj, true_and, and_true, or_true, true_or, false_or, or_false, false_and, and_false, not_true_eq_false, not_false_eq_true] <;> omega)) (by first | omega | (simp only [Int32.lt_iff_toInt_lt, Int32.le_iff_toInt_le, Int32.reduceToInt, ← Int32.toInt_inj, true_and, and_true, or_true, true_or, false_or, or_false, false_and, and_false, not_true_eq_false, not_false_eq_true] <;> omega))
                  try simp only [Int32.reduceToInt] at h_2972
                  refine v_put hC fl_X12_108 m_1 hf_2965 rfl rfl (Nat.le_of_ble_eq_true rfl) (fs' := [.int v_2821, .ref (q 1), .ref (q 2), .ref (q 3), .ref (q 4), .int v_2822, .ref (q 6), .int v_2824, .int v_2970, .int v_2826, .int 3, .int v_2832, .int v_2833, .int v_2834, .ref (q 14), .ref (q 15), .ref (q 16), .int v_2835, .ref (q 18), .ref (q 19), .int v_2837, .ref (q 21), .ref (q 22), .ref (q 23), .ref (q 24), .ref (q 25), .ref (q 26), .ref (q 27), .ref (q 28)]) rfl dX12_advance_237 (fun f_2973 hf_2974 hk_2975 => ?_)
                  have hW_2976 := hW_2967.up hf_2974 hk_2975 t_2 ⟨v_2821, v_2822, v_2824, v_2970, v_2826, 3, v_2832, v_2833, v_2834, v_2835, v_2837, rfl, (by first | omega | (simp only [Int32.lt_iff_toInt_lt, Int32.le_iff_toInt_le, Int32.reduceToInt, ← Int32.toInt_inj, true_and, and_true, or_true, true_or, false_or, or_false, false_and, and_false, not_true_eq_false, not_false_eq_true] <;> omega)), (by first | omega | (simp only [Int32.lt_iff_toInt_lt, Int32.le_iff_toInt_le, Int32.reduceToInt, ← Int32.toInt_inj, true_and, and_true, or_true, true_or, false_or, or_false, false_and, and_false, not_true_eq_false, not_false_eq_true] <;> omega)), (by first | omega | (simp only [Int32.lt_iff_toInt_lt, Int32.le_iff_toInt_le, Int32.reduceToInt, ← Int32.toInt_inj, true_and, and_true, or_true, true_or, false_or, or_false, false_and, and_false, not_true_eq_false, not_false_eq_true] <;> omega)), (by first | omega | (simp only [Int32.lt_iff_toInt_lt, Int32.le_iff_toInt_le, Int32.reduceToInt, ← Int32.toInt_inj, true_and, and_true, or_true, true_or, false_or, or_false, false_and, and_false, not_true_eq_false, not_false_eq_true] <;> omega)), (by decide), (by first | omega | (simp only [Int32.lt_iff_toInt_lt, Int32.le_iff_toInt_le, Int32.reduceToInt, ← Int32.toInt_inj, true_and, and_true, or_true, true_or, false_or, or_false, false_and, and_false, not_true_eq_false, not_false_eq_true] <;> omega)), (by first | omega | (simp only [Int32.lt_iff_toInt_lt, Int32.le_iff_toInt_le, Int32.reduceToInt, ← Int32.toInt_inj, true_and, and_true, or_true, true_or, false_or, or_false, false_and, and_false, not_true_eq_false, not_false_eq_true] <;> omega))⟩
                  have hf_2977 := (hk_2975 (q 4) (ne_kd hf_2968 hf_2965 rfl)).trans hf_2968
                  have fr_2978 := FR.w hk_2975 hf_2965 (k := 12) rfl
                  have fe_2979 : fld (f_2973 a_0) 8 = (v_2970 : Int32).toInt := by rw [hf_2974]; rfl
                  have fe_2980 : fld (f_2973 a_0) 9 = (v_2826 : Int32).toInt := by rw [hf_2974]; rfl
                  have fe_2981 : fld (f_2973 a_0) 8 = (v_2970 : Int32).toInt := by rw [hf_2974]; rfl
                  have fe_2982 : fld (f_2973 a_0) 9 = (v_2826 : Int32).toInt := by rw [hf_2974]; rfl
                  have fe_2983 : fld (f_2973 a_0) 10 = (3 : Int32).toInt := by rw [hf_2974]; rfl
                  simp only [Int32.reduceToInt] at fe_2983
                  have fe_2984 : fld (f_2973 a_0) 12 = (v_2833 : Int32).toInt := by rw [hf_2974]; rfl
                  have fe_2985 : fld (f_2973 a_0) 20 = (v_2837 : Int32).toInt := by rw [hf_2974]; rfl
                  exact hR _ _ _ _ _ _ dX12_advance_240 (Nat.le_of_ble_eq_true rfl) (Nat.le_of_ble_eq_true rfl) ⟨rfl, hW_2976, ((((hF_2812.tr fr_2901).tr fr_2969).tr fr_2978).mono rfl), (by simp only [fe_2979, fe_2980, mz_41, true_and, and_true, or_true, true_or, false_or, or_false, false_and, and_false, not_true_eq_false, not_false_eq_true] <;> first | omega | (simp only [Int32.lt_iff_toInt_lt, Int32.le_iff_toInt_le, Int32.reduceToInt, ← Int32.toInt_inj, true_and, and_true, or_true, true_or, false_or, or_false, false_and, and_false, not_true_eq_false, not_false_eq_true] <;> omega)), (by simp only [fe_2981, fe_2982, fe_2983, true_and, and_true, or_true, true_or, false_or, or_false, false_and, and_false, not_true_eq_false, not_false_eq_true] <;> first | omega | (simp only [Int32.lt_iff_toInt_lt, Int32.le_iff_toInt_le, Int32.reduceToInt, ← Int32.toInt_inj, true_and, and_true, or_true, true_or, false_or, or_false, false_and, and_false, not_true_eq_false, not_false_eq_true] <;> omega)), (by simp only [fe_2984, mz_42, true_and, and_true, or_true, true_or, false_or, or_false, false_and, and_false, not_true_eq_false, not_false_eq_true] <;> first | omega | (simp only [Int32.lt_iff_toInt_lt, Int32.le_iff_toInt_le, Int32.reduceToInt, ← Int32.toInt_inj, true_and, and_true, or_true, true_or, false_or, or_false, false_and, and_false, not_true_eq_false, not_false_eq_true] <;> omega)), (by simp only [fe_2985, mz_43, true_and, and_true, or_true, true_or, false_or, or_false, false_and, and_false, not_true_eq_false, not_false_eq_true] <;> first | omega | (simp only [Int32.lt_iff_toInt_lt, Int32.le_iff_toInt_le, Int32.reduceToInt, ← Int32.toInt_inj, true_and, and_true, or_true, true_or, false_or, or_false, false_and, and_false, not_true_eq_false, not_false_eq_true] <;> omega))⟩
              · simp only [Int32.lt_iff_toInt_lt, Int32.le_iff_toInt_le, Int32.reduceToInt, ← Int32.toInt_inj] at h_2940
                refine v_aload_n hC dX12_advance_139 rfl ?_
                refine v_iconst hC dX12_advance_140 (v := 0) (by decide) ?_
                refine v_put hC fl_X12_131 m_1 hf_2898 rfl rfl (Nat.le_of_ble_eq_true rfl) (fs' := [.int v_2821, .ref (q 1), .ref (q 2), .ref (q 3), .ref (q 4), .int v_2822, .ref (q 6), .int v_2824, .int v_2826, .int v_2826, .int v_2830, .int 0, .int v_2833, .int v_2834, .ref (q 14), .ref (q 15), .ref (q 16), .int v_2835, .ref (q 18), .ref (q 19), .int v_2837, .ref (q 21), .ref (q 22), .ref (q 23), .ref (q 24), .ref (q 25), .ref (q 26), .ref (q 27), .ref (q 28)]) rfl dX12_advance_141 (fun f_2986 hf_2987 hk_2988 => ?_)
                have hW_2989 := hW_2900.up hf_2987 hk_2988 t_2 ⟨v_2821, v_2822, v_2824, v_2826, v_2826, v_2830, 0, v_2833, v_2834, v_2835, v_2837, rfl, (by first | omega | (simp only [Int32.lt_iff_toInt_lt, Int32.le_iff_toInt_le, Int32.reduceToInt, ← Int32.toInt_inj, true_and, and_true, or_true, true_or, false_or, or_false, false_and, and_false, not_true_eq_false, not_false_eq_true] <;> omega)), (by first | omega | (simp only [Int32.lt_iff_toInt_lt, Int32.le_iff_toInt_le, Int32.reduceToInt, ← Int32.toInt_inj, true_and, and_true, or_true, true_or, false_or, or_false, false_and, and_false, not_true_eq_false, not_false_eq_true] <;> omega)), (by first | omega | (simp only [Int32.lt_iff_toInt_lt, Int32.le_iff_toInt_le, Int32.reduceToInt, ← Int32.toInt_inj, true_and, and_true, or_true, true_or, false_or, or_false, false_and, and_false, not_true_eq_false, not_false_eq_true] <;> omega)), (by first | omega | (simp only [Int32.lt_iff_toInt_lt, Int32.le_iff_toInt_le, Int32.reduceToInt, ← Int32.toInt_inj, true_and, and_true, or_true, true_or, false_or, or_false, false_and, and_false, not_true_eq_false, not_false_eq_true] <;> omega)), (by first | omega | (simp only [Int32.lt_iff_toInt_lt, Int32.le_iff_toInt_le, Int32.reduceToInt, ← Int32.toInt_inj, true_and, and_true, or_true, true_or, false_or, or_false, false_and, and_false, not_true_eq_false, not_false_eq_true] <;> omega)), (by first | omega | (simp only [Int32.lt_iff_toInt_lt, Int32.le_iff_toInt_le, Int32.reduceToInt, ← Int32.toInt_inj, true_and, and_true, or_true, true_or, false_or, or_false, false_and, and_false, not_true_eq_false, not_false_eq_true] <;> omega)), (by first | omega | (simp only [Int32.lt_iff_toInt_lt, Int32.le_iff_toInt_le, Int32.reduceToInt, ← Int32.toInt_inj, true_and, and_true, or_true, true_or, false_or, or_false, false_and, and_false, not_true_eq_false, not_false_eq_true] <;> omega))⟩
                have hf_2990 := (hk_2988 (q 4) (ne_kd e_2912 hf_2898 rfl)).trans e_2912
                have fr_2991 := FR.w hk_2988 hf_2898 (k := 12) rfl
                refine v_aload_n hC dX12_advance_144 rfl ?_
                refine v_aload_n hC dX12_advance_145 rfl ?_
                refine v_get hC fl_X12_108 m_1 hf_2987 rfl dX12_advance_146 ?_
                refine v_vi hC (rest := []) m_1 hf_2987 rfl mi_X12_see ms_X12_see (p_X12_see hW_2989 k_0 (by first | omega | (simp only [Int32.lt_iff_toInt_lt, Int32.le_iff_toInt_le, Int32.reduceToInt, ← Int32.toInt_inj, true_and, and_true, or_true, true_or, false_or, or_false, false_and, and_false, not_true_eq_false, not_false_eq_true] <;> omega))) mx_X12_see ml_X12_114 (by decide) rfl (cells1 := 0) (slots1 := 0) (by decide) (by decide) (Nat.le_of_ble_eq_true rfl) (Nat.le_of_ble_eq_true rfl) rfl (Nat.le_of_ble_eq_true rfl) dX12_advance_149 (fun r_2992 L_2993 f_2994 h_2995 => ?_)
                obtain ⟨rfl, rfl, rfl⟩ := h_2995
                have sb_2998 := sv_b (f_2986 a_0) (f_2986 (q 4)) v_2826
                have fe_2999 : fld (f_2986 a_0) 7 = (v_2824 : Int32).toInt := by rw [hf_2987]; rfl
                rw [fe_2999] at sb_2998
                have fe_3000 : fld (f_2986 a_0) 7 = (v_2824 : Int32).toInt := by rw [hf_2987]; rfl
                have sc_3001 : ((sv (f_2986 a_0) (f_2986 (q 4)) v_2826)).toInt = ((sv (f_2897 a_0) (f_2897 (q 4)) v_2826)).toInt := congrArg Int32.toInt (sv_congr (fe_3000.trans fe_2915.symm) (hf_2990.trans e_2912.symm))
                obtain ⟨v_3002, h_3003⟩ : ∃ v9 : Int64, (sv (f_2986 a_0) (f_2986 (q 4)) v_2826).toInt64 = v9 := ⟨_, rfl⟩
                refine v_i2l hC dX12_advance_152 h_3003 ?_
                have h_3004 : v_3002.toInt = (sv (f_2986 a_0) (f_2986 (q 4)) v_2826).toInt := by rw [← h_3003]; exact Int32.toInt_toInt64 _
                refine v_ldc2 hC kl_X12_127 dX12_advance_153 ?_
                refine v_ldc2 hC kl_X12_129 dX12_advance_156 ?_
                refine v_si hC (rest := []) mt_X12_in (p_X12_in hW_2989) mx_X12_in ml_X12_79 (by decide) rfl (cells1 := 0) (slots1 := 0) (by decide) (by decide) (Nat.le_of_ble_eq_true rfl) (Nat.le_of_ble_eq_true rfl) rfl (Nat.le_of_ble_eq_true rfl) dX12_advance_159 (fun r_3005 L_3006 f_3007 h_3008 => ?_)
                obtain ⟨rfl, rfl, b_3009, x_3010⟩ := h_3008
                try simp only [Int32.reduceToInt, Int64.reduceToInt] at x_3010
                refine v_if_eq_f hC dX12_advance_162 (tgt := 207) (by decide) (by first | omega | (simp only [Int32.lt_iff_toInt_lt, Int32.le_iff_toInt_le, Int32.reduceToInt, ← Int32.toInt_inj, true_and, and_true, or_true, true_or, false_or, or_false, false_and, and_false, not_true_eq_false, not_false_eq_true] <;> omega)) ?_
                refine v_aload_n hC dX12_advance_165 rfl ?_
                refine v_sipush hC dX12_advance_166 (v := 9999) (by decide) ?_
                refine v_bipush hC dX12_advance_169 (v := 10) (by decide) ?_
                refine v_aload_n hC dX12_advance_171 rfl ?_
                refine v_get hC fl_X12_131 m_1 hf_2987 rfl dX12_advance_172 ?_
                refine v_imul hC dX12_advance_175 (v := 0) (by decide) ?_
                refine v_aload_n hC dX12_advance_176 rfl ?_
                refine v_aload_n hC dX12_advance_177 rfl ?_
                refine v_get hC fl_X12_108 m_1 hf_2987 rfl dX12_advance_178 ?_
                refine v_vi hC (rest := [.int 0, .int 9999, .ref a_0]) m_1 hf_2987 rfl mi_X12_see ms_X12_see (p_X12_see hW_2989 k_0 (by first | omega | (simp only [Int32.lt_iff_toInt_lt, Int32.le_iff_toInt_le, Int32.reduceToInt, ← Int32.toInt_inj, true_and, and_true, or_true, true_or, false_or, or_false, false_and, and_false, not_true_eq_false, not_false_eq_true] <;> omega))) mx_X12_see ml_X12_114 (by decide) rfl (cells1 := 0) (slots1 := 0) (by decide) (by decide) (Nat.le_of_ble_eq_true rfl) (Nat.le_of_ble_eq_true rfl) rfl (Nat.le_of_ble_eq_true rfl) dX12_advance_181 (fun r_3013 L_3014 f_3015 h_3016 => ?_)
                obtain ⟨rfl, rfl, rfl⟩ := h_3016
                have sb_3019 := sv_b (f_2986 a_0) (f_2986 (q 4)) v_2826
                have fe_3020 : fld (f_2986 a_0) 7 = (v_2824 : Int32).toInt := by rw [hf_2987]; rfl
                rw [fe_3020] at sb_3019
                obtain ⟨v_3021, h_3022⟩ : ∃ v9 : Int32, (0 : Int32) + (sv (f_2986 a_0) (f_2986 (q 4)) v_2826) = v9 := ⟨_, rfl⟩
                refine v_iadd hC dX12_advance_184 h_3022 ?_
                have h_3023 := add_v h_3022 (by first | omega | (simp only [Int32.lt_iff_toInt_lt, Int32.le_iff_toInt_le, Int32.reduceToInt, ← Int32.toInt_inj, true_and, and_true, or_true, true_or, false_or, or_false, false_and, and_false, not_true_eq_false, not_false_eq_true] <;> omega)) (by first | omega | (simp only [Int32.lt_iff_toInt_lt, Int32.le_iff_toInt_le, Int32.reduceToInt, ← Int32.toInt_inj, true_and, and_true, or_true, true_or, false_or, or_false, false_and, and_false, not_true_eq_false, not_false_eq_true] <;> omega))
                try simp only [Int32.reduceToInt] at h_3023
                refine v_bipush hC dX12_advance_185 (v := 48) (by decide) ?_
                obtain ⟨v_3024, h_3025⟩ : ∃ v9 : Int32, v_3021 - 48 = v9 := ⟨_, rfl⟩
                refine v_isub hC dX12_advance_187 h_3025 ?_
                have h_3026 := sub_v h_3025 (by first | omega | (simp only [Int32.lt_iff_toInt_lt, Int32.le_iff_toInt_le, Int32.reduceToInt, ← Int32.toInt_inj, true_and, and_true, or_true, true_or, false_or, or_false, false_and, and_false, not_true_eq_false, not_false_eq_true] <;> omega)) (by first | omega | (simp only [Int32.lt_iff_toInt_lt, Int32.le_iff_toInt_le, Int32.reduceToInt, ← Int32.toInt_inj, true_and, and_true, or_true, true_or, false_or, or_false, false_and, and_false, not_true_eq_false, not_false_eq_true] <;> omega))
                try simp only [Int32.reduceToInt] at h_3026
                obtain ⟨v_3027, h_3028⟩ : ∃ v9 : Int32, (if v_3024 < (9999 : Int32) then v_3024 else (9999 : Int32)) = v9 := ⟨_, rfl⟩
                refine v_mmin hC mm_X12_134 mm_smin mm_i mm_cmin (by decide) (Nat.le_of_ble_eq_true rfl) (Nat.le_of_ble_eq_true rfl) (Nat.le_of_ble_eq_true rfl) h_3028 dX12_advance_188 ?_
                have b_3029 := min_v h_3028
                try simp only [Int32.reduceToInt] at b_3029
                refine v_put hC fl_X12_131 m_1 hf_2987 rfl rfl (Nat.le_of_ble_eq_true rfl) (fs' := [.int v_2821, .ref (q 1), .ref (q 2), .ref (q 3), .ref (q 4), .int v_2822, .ref (q 6), .int v_2824, .int v_2826, .int v_2826, .int v_2830, .int v_3027, .int v_2833, .int v_2834, .ref (q 14), .ref (q 15), .ref (q 16), .int v_2835, .ref (q 18), .ref (q 19), .int v_2837, .ref (q 21), .ref (q 22), .ref (q 23), .ref (q 24), .ref (q 25), .ref (q 26), .ref (q 27), .ref (q 28)]) rfl dX12_advance_191 (fun f_3030 hf_3031 hk_3032 => ?_)
                have hW_3033 := hW_2989.up hf_3031 hk_3032 t_2 ⟨v_2821, v_2822, v_2824, v_2826, v_2826, v_2830, v_3027, v_2833, v_2834, v_2835, v_2837, rfl, (by first | omega | (simp only [Int32.lt_iff_toInt_lt, Int32.le_iff_toInt_le, Int32.reduceToInt, ← Int32.toInt_inj, true_and, and_true, or_true, true_or, false_or, or_false, false_and, and_false, not_true_eq_false, not_false_eq_true] <;> omega)), (by first | omega | (simp only [Int32.lt_iff_toInt_lt, Int32.le_iff_toInt_le, Int32.reduceToInt, ← Int32.toInt_inj, true_and, and_true, or_true, true_or, false_or, or_false, false_and, and_false, not_true_eq_false, not_false_eq_true] <;> omega)), (by first | omega | (simp only [Int32.lt_iff_toInt_lt, Int32.le_iff_toInt_le, Int32.reduceToInt, ← Int32.toInt_inj, true_and, and_true, or_true, true_or, false_or, or_false, false_and, and_false, not_true_eq_false, not_false_eq_true] <;> omega)), (by first | omega | (simp only [Int32.lt_iff_toInt_lt, Int32.le_iff_toInt_le, Int32.reduceToInt, ← Int32.toInt_inj, true_and, and_true, or_true, true_or, false_or, or_false, false_and, and_false, not_true_eq_false, not_false_eq_true] <;> omega)), (by first | omega | (simp only [Int32.lt_iff_toInt_lt, Int32.le_iff_toInt_le, Int32.reduceToInt, ← Int32.toInt_inj, true_and, and_true, or_true, true_or, false_or, or_false, false_and, and_false, not_true_eq_false, not_false_eq_true] <;> omega)), (by first | omega | (simp only [Int32.lt_iff_toInt_lt, Int32.le_iff_toInt_le, Int32.reduceToInt, ← Int32.toInt_inj, true_and, and_true, or_true, true_or, false_or, or_false, false_and, and_false, not_true_eq_false, not_false_eq_true] <;> omega)), (by first | omega | (simp only [Int32.lt_iff_toInt_lt, Int32.le_iff_toInt_le, Int32.reduceToInt, ← Int32.toInt_inj, true_and, and_true, or_true, true_or, false_or, or_false, false_and, and_false, not_true_eq_false, not_false_eq_true] <;> omega))⟩
                have hf_3034 := (hk_3032 (q 4) (ne_kd hf_2990 hf_2987 rfl)).trans hf_2990
                have fr_3035 := FR.w hk_3032 hf_2987 (k := 12) rfl
                refine v_aload_n hC dX12_advance_194 rfl ?_
                refine v_dup hC dX12_advance_195 rfl ?_
                refine v_get hC fl_X12_108 m_1 hf_3031 rfl dX12_advance_196 ?_
                refine v_iconst hC dX12_advance_199 (v := 1) (by decide) ?_
                obtain ⟨v_3036, h_3037⟩ : ∃ v9 : Int32, v_2826 + 1 = v9 := ⟨_, rfl⟩
                refine v_iadd hC dX12_advance_200 h_3037 ?_
                have h_3038 := add_v h_3037 (by first | omega | (simp only [Int32.lt_iff_toInt_lt, Int32.le_iff_toInt_le, Int32.reduceToInt, ← Int32.toInt_inj, true_and, and_true, or_true, true_or, false_or, or_false, false_and, and_false, not_true_eq_false, not_false_eq_true] <;> omega)) (by first | omega | (simp only [Int32.lt_iff_toInt_lt, Int32.le_iff_toInt_le, Int32.reduceToInt, ← Int32.toInt_inj, true_and, and_true, or_true, true_or, false_or, or_false, false_and, and_false, not_true_eq_false, not_false_eq_true] <;> omega))
                try simp only [Int32.reduceToInt] at h_3038
                refine v_put hC fl_X12_108 m_1 hf_3031 rfl rfl (Nat.le_of_ble_eq_true rfl) (fs' := [.int v_2821, .ref (q 1), .ref (q 2), .ref (q 3), .ref (q 4), .int v_2822, .ref (q 6), .int v_2824, .int v_3036, .int v_2826, .int v_2830, .int v_3027, .int v_2833, .int v_2834, .ref (q 14), .ref (q 15), .ref (q 16), .int v_2835, .ref (q 18), .ref (q 19), .int v_2837, .ref (q 21), .ref (q 22), .ref (q 23), .ref (q 24), .ref (q 25), .ref (q 26), .ref (q 27), .ref (q 28)]) rfl dX12_advance_201 (fun f_3039 hf_3040 hk_3041 => ?_)
                have hW_3042 := hW_3033.up hf_3040 hk_3041 t_2 ⟨v_2821, v_2822, v_2824, v_3036, v_2826, v_2830, v_3027, v_2833, v_2834, v_2835, v_2837, rfl, (by first | omega | (simp only [Int32.lt_iff_toInt_lt, Int32.le_iff_toInt_le, Int32.reduceToInt, ← Int32.toInt_inj, true_and, and_true, or_true, true_or, false_or, or_false, false_and, and_false, not_true_eq_false, not_false_eq_true] <;> omega)), (by first | omega | (simp only [Int32.lt_iff_toInt_lt, Int32.le_iff_toInt_le, Int32.reduceToInt, ← Int32.toInt_inj, true_and, and_true, or_true, true_or, false_or, or_false, false_and, and_false, not_true_eq_false, not_false_eq_true] <;> omega)), (by first | omega | (simp only [Int32.lt_iff_toInt_lt, Int32.le_iff_toInt_le, Int32.reduceToInt, ← Int32.toInt_inj, true_and, and_true, or_true, true_or, false_or, or_false, false_and, and_false, not_true_eq_false, not_false_eq_true] <;> omega)), (by first | omega | (simp only [Int32.lt_iff_toInt_lt, Int32.le_iff_toInt_le, Int32.reduceToInt, ← Int32.toInt_inj, true_and, and_true, or_true, true_or, false_or, or_false, false_and, and_false, not_true_eq_false, not_false_eq_true] <;> omega)), (by first | omega | (simp only [Int32.lt_iff_toInt_lt, Int32.le_iff_toInt_le, Int32.reduceToInt, ← Int32.toInt_inj, true_and, and_true, or_true, true_or, false_or, or_false, false_and, and_false, not_true_eq_false, not_false_eq_true] <;> omega)), (by first | omega | (simp only [Int32.lt_iff_toInt_lt, Int32.le_iff_toInt_le, Int32.reduceToInt, ← Int32.toInt_inj, true_and, and_true, or_true, true_or, false_or, or_false, false_and, and_false, not_true_eq_false, not_false_eq_true] <;> omega)), (by first | omega | (simp only [Int32.lt_iff_toInt_lt, Int32.le_iff_toInt_le, Int32.reduceToInt, ← Int32.toInt_inj, true_and, and_true, or_true, true_or, false_or, or_false, false_and, and_false, not_true_eq_false, not_false_eq_true] <;> omega))⟩
                have hf_3043 := (hk_3041 (q 4) (ne_kd hf_3034 hf_3031 rfl)).trans hf_3034
                have fr_3044 := FR.w hk_3041 hf_3031 (k := 12) rfl
                refine v_goto hC dX12_advance_204 (tgt := 144) (by decide) ?_
                have lp_3320 : ∀ (n_3321 : Nat) (f_3312 : Nat → va_E) (hW_3313 : WT T L f_3312) (hF_3314 : FR [12] f_3039 f_3312)  (nv_3316 : v_28.toInt ≤ fld (f_3312 a_0) 9) (nv_3317 : fld (f_3312 a_0) 9 < fld (f_3312 a_0) 8) (nv_3318 : fld (f_3312 a_0) 12 = v_35.toInt) (nv_3319 : fld (f_3312 a_0) 20 = v_39.toInt) (hm_3323 : 600 - fld (f_3312 a_0) 8 < (n_3321 : Int)), V z E 2 0 0 L f_3312 144 [(0, .ref a_0)] [] := by
                  intro n_3321
                  induction n_3321 with
                  | zero =>
                    intro f_3312 hW_3313 hF_3314 nv_3316 nv_3317 nv_3318 nv_3319 hm_3323
                    have hf_3315 := hF_3314.at hf_3043 rfl
                    obtain ⟨v_3325, v_3326, v_3328, v_3330, v_3332, v_3334, v_3336, v_3337, v_3338, v_3339, v_3341, e_3324, b_3327, b_3329, b_3331, b_3333, b_3335, b_3340, b_3342⟩ := hW_3313.at m_1 t_2
                    have fe_3343 : fld (f_3312 a_0) 9 = (v_3332 : Int32).toInt := by rw [e_3324]; rfl
                    rw [fe_3343] at nv_3316
                    have fe_3344 : fld (f_3312 a_0) 8 = (v_3330 : Int32).toInt := by rw [e_3324]; rfl
                    have fe_3345 : fld (f_3312 a_0) 9 = (v_3332 : Int32).toInt := by rw [e_3324]; rfl
                    rw [fe_3344, fe_3345] at nv_3317
                    have fe_3346 : fld (f_3312 a_0) 12 = (v_3337 : Int32).toInt := by rw [e_3324]; rfl
                    rw [fe_3346] at nv_3318
                    have fe_3347 : fld (f_3312 a_0) 20 = (v_3341 : Int32).toInt := by rw [e_3324]; rfl
                    rw [fe_3347] at nv_3319
                    have h_3348 : fld (f_3312 a_0) 8 = (v_3330 : Int32).toInt := by rw [e_3324]; rfl
                    rw [h_3348] at hm_3323
                    exfalso; omega
                  | succ n_3321 ih_3322 =>
                    intro f_3312 hW_3313 hF_3314 nv_3316 nv_3317 nv_3318 nv_3319 hm_3323
                    have hf_3315 := hF_3314.at hf_3043 rfl
                    obtain ⟨v_3325, v_3326, v_3328, v_3330, v_3332, v_3334, v_3336, v_3337, v_3338, v_3339, v_3341, e_3324, b_3327, b_3329, b_3331, b_3333, b_3335, b_3340, b_3342⟩ := hW_3313.at m_1 t_2
                    have fe_3343 : fld (f_3312 a_0) 9 = (v_3332 : Int32).toInt := by rw [e_3324]; rfl
                    rw [fe_3343] at nv_3316
                    have fe_3344 : fld (f_3312 a_0) 8 = (v_3330 : Int32).toInt := by rw [e_3324]; rfl
                    have fe_3345 : fld (f_3312 a_0) 9 = (v_3332 : Int32).toInt := by rw [e_3324]; rfl
                    rw [fe_3344, fe_3345] at nv_3317
                    have fe_3346 : fld (f_3312 a_0) 12 = (v_3337 : Int32).toInt := by rw [e_3324]; rfl
                    rw [fe_3346] at nv_3318
                    have fe_3347 : fld (f_3312 a_0) 20 = (v_3341 : Int32).toInt := by rw [e_3324]; rfl
                    rw [fe_3347] at nv_3319
                    have h_3348 : fld (f_3312 a_0) 8 = (v_3330 : Int32).toInt := by rw [e_3324]; rfl
                    rw [h_3348] at hm_3323
                    refine v_aload_n hC dX12_advance_144 rfl ?_
                    refine v_aload_n hC dX12_advance_145 rfl ?_
                    refine v_get hC fl_X12_108 m_1 e_3324 rfl dX12_advance_146 ?_
                    refine v_vi hC (rest := []) m_1 e_3324 rfl mi_X12_see ms_X12_see (p_X12_see hW_3313 k_0 (by first | omega | (simp only [Int32.lt_iff_toInt_lt, Int32.le_iff_toInt_le, Int32.reduceToInt, ← Int32.toInt_inj, true_and, and_true, or_true, true_or, false_or, or_false, false_and, and_false, not_true_eq_false, not_false_eq_true] <;> omega))) mx_X12_see ml_X12_114 (by decide) rfl (cells1 := 0) (slots1 := 0) (by decide) (by decide) (Nat.le_of_ble_eq_true rfl) (Nat.le_of_ble_eq_true rfl) rfl (Nat.le_of_ble_eq_true rfl) dX12_advance_149 (fun r_3349 L_3350 f_3351 h_3352 => ?_)
                    obtain ⟨rfl, rfl, rfl⟩ := h_3352
                    have sb_3355 := sv_b (f_3312 a_0) (f_3312 (q 4)) v_3330
                    have fe_3356 : fld (f_3312 a_0) 7 = (v_3328 : Int32).toInt := by rw [e_3324]; rfl
                    rw [fe_3356] at sb_3355
                    obtain ⟨v_3357, h_3358⟩ : ∃ v9 : Int64, (sv (f_3312 a_0) (f_3312 (q 4)) v_3330).toInt64 = v9 := ⟨_, rfl⟩
                    refine v_i2l hC dX12_advance_152 h_3358 ?_
                    have h_3359 : v_3357.toInt = (sv (f_3312 a_0) (f_3312 (q 4)) v_3330).toInt := by rw [← h_3358]; exact Int32.toInt_toInt64 _
                    refine v_ldc2 hC kl_X12_127 dX12_advance_153 ?_
                    refine v_ldc2 hC kl_X12_129 dX12_advance_156 ?_
                    refine v_si hC (rest := []) mt_X12_in (p_X12_in hW_3313) mx_X12_in ml_X12_79 (by decide) rfl (cells1 := 0) (slots1 := 0) (by decide) (by decide) (Nat.le_of_ble_eq_true rfl) (Nat.le_of_ble_eq_true rfl) rfl (Nat.le_of_ble_eq_true rfl) dX12_advance_159 (fun r_3360 L_3361 f_3362 h_3363 => ?_)
                    obtain ⟨rfl, rfl, b_3364, x_3365⟩ := h_3363
                    try simp only [Int32.reduceToInt, Int64.reduceToInt] at x_3365
                    refine v_if_eq hC dX12_advance_162 (tgt := 207) (by decide) (fun h_3368 => ?_) (fun h_3368 => ?_)
                    · simp only [Int32.lt_iff_toInt_lt, Int32.le_iff_toInt_le, Int32.reduceToInt, ← Int32.toInt_inj] at h_3368
                      refine v_aload_n hC dX12_advance_207 rfl ?_
                      refine v_iconst hC dX12_advance_208 (v := 2) (by decide) ?_
                      refine v_put hC fl_X12_120 m_1 e_3324 rfl rfl (Nat.le_of_ble_eq_true rfl) (fs' := [.int v_3325, .ref (q 1), .ref (q 2), .ref (q 3), .ref (q 4), .int v_3326, .ref (q 6), .int v_3328, .int v_3330, .int v_3332, .int 2, .int v_3336, .int v_3337, .int v_3338, .ref (q 14), .ref (q 15), .ref (q 16), .int v_3339, .ref (q 18), .ref (q 19), .int v_3341, .ref (q 21), .ref (q 22), .ref (q 23), .ref (q 24), .ref (q 25), .ref (q 26), .ref (q 27), .ref (q 28)]) rfl dX12_advance_209 (fun f_3369 hf_3370 hk_3371 => ?_)
                      have hW_3372 := hW_3313.up hf_3370 hk_3371 t_2 ⟨v_3325, v_3326, v_3328, v_3330, v_3332, 2, v_3336, v_3337, v_3338, v_3339, v_3341, rfl, (by first | omega | (simp only [Int32.lt_iff_toInt_lt, Int32.le_iff_toInt_le, Int32.reduceToInt, ← Int32.toInt_inj, true_and, and_true, or_true, true_or, false_or, or_false, false_and, and_false, not_true_eq_false, not_false_eq_true] <;> omega)), (by first | omega | (simp only [Int32.lt_iff_toInt_lt, Int32.le_iff_toInt_le, Int32.reduceToInt, ← Int32.toInt_inj, true_and, and_true, or_true, true_or, false_or, or_false, false_and, and_false, not_true_eq_false, not_false_eq_true] <;> omega)), (by first | omega | (simp only [Int32.lt_iff_toInt_lt, Int32.le_iff_toInt_le, Int32.reduceToInt, ← Int32.toInt_inj, true_and, and_true, or_true, true_or, false_or, or_false, false_and, and_false, not_true_eq_false, not_false_eq_true] <;> omega)), (by first | omega | (simp only [Int32.lt_iff_toInt_lt, Int32.le_iff_toInt_le, Int32.reduceToInt, ← Int32.toInt_inj, true_and, and_true, or_true, true_or, false_or, or_false, false_and, and_false, not_true_eq_false, not_false_eq_true] <;> omega)), (by decide), (by first | omega | (simp only [Int32.lt_iff_toInt_lt, Int32.le_iff_toInt_le, Int32.reduceToInt, ← Int32.toInt_inj, true_and, and_true, or_true, true_or, false_or, or_false, false_and, and_false, not_true_eq_false, not_false_eq_true] <;> omega)), (by first | omega | (simp only [Int32.lt_iff_toInt_lt, Int32.le_iff_toInt_le, Int32.reduceToInt, ← Int32.toInt_inj, true_and, and_true, or_true, true_or, false_or, or_false, false_and, and_false, not_true_eq_false, not_false_eq_true] <;> omega))⟩
                      have hf_3373 := (hk_3371 (q 4) (ne_kd hf_3315 e_3324 rfl)).trans hf_3315
                      have fr_3374 := FR.w hk_3371 e_3324 (k := 12) rfl
                      refine v_goto hC dX12_advance_212 (tgt := 240) (by decide) ?_
                      have fe_3375 : fld (f_3369 a_0) 8 = (v_3330 : Int32).toInt := by rw [hf_3370]; rfl
                      have fe_3376 : fld (f_3369 a_0) 9 = (v_3332 : Int32).toInt := by rw [hf_3370]; rfl
                      have fe_3377 : fld (f_3369 a_0) 8 = (v_3330 : Int32).toInt := by rw [hf_3370]; rfl
                      have fe_3378 : fld (f_3369 a_0) 9 = (v_3332 : Int32).toInt := by rw [hf_3370]; rfl
                      have fe_3379 : fld (f_3369 a_0) 10 = (2 : Int32).toInt := by rw [hf_3370]; rfl
                      simp only [Int32.reduceToInt] at fe_3379
                      have fe_3380 : fld (f_3369 a_0) 12 = (v_3337 : Int32).toInt := by rw [hf_3370]; rfl
                      have fe_3381 : fld (f_3369 a_0) 20 = (v_3341 : Int32).toInt := by rw [hf_3370]; rfl
                      exact hR _ _ _ _ _ _ dX12_advance_240 (Nat.le_of_ble_eq_true rfl) (Nat.le_of_ble_eq_true rfl) ⟨rfl, hW_3372, (((((((hF_2812.tr fr_2901).tr fr_2991).tr fr_3035).tr fr_3044).tr hF_3314).tr fr_3374).mono rfl), (by simp only [fe_3375, fe_3376, mz_41, true_and, and_true, or_true, true_or, false_or, or_false, false_and, and_false, not_true_eq_false, not_false_eq_true] <;> first | omega | (simp only [Int32.lt_iff_toInt_lt, Int32.le_iff_toInt_le, Int32.reduceToInt, ← Int32.toInt_inj, true_and, and_true, or_true, true_or, false_or, or_false, false_and, and_false, not_true_eq_false, not_false_eq_true] <;> omega)), (by simp only [fe_3377, fe_3378, fe_3379, true_and, and_true, or_true, true_or, false_or, or_false, false_and, and_false, not_true_eq_false, not_false_eq_true] <;> first | omega | (simp only [Int32.lt_iff_toInt_lt, Int32.le_iff_toInt_le, Int32.reduceToInt, ← Int32.toInt_inj, true_and, and_true, or_true, true_or, false_or, or_false, false_and, and_false, not_true_eq_false, not_false_eq_true] <;> omega)), (by simp only [fe_3380, mz_42, true_and, and_true, or_true, true_or, false_or, or_false, false_and, and_false, not_true_eq_false, not_false_eq_true] <;> first | omega | (simp only [Int32.lt_iff_toInt_lt, Int32.le_iff_toInt_le, Int32.reduceToInt, ← Int32.toInt_inj, true_and, and_true, or_true, true_or, false_or, or_false, false_and, and_false, not_true_eq_false, not_false_eq_true] <;> omega)), (by simp only [fe_3381, mz_43, true_and, and_true, or_true, true_or, false_or, or_false, false_and, and_false, not_true_eq_false, not_false_eq_true] <;> first | omega | (simp only [Int32.lt_iff_toInt_lt, Int32.le_iff_toInt_le, Int32.reduceToInt, ← Int32.toInt_inj, true_and, and_true, or_true, true_or, false_or, or_false, false_and, and_false, not_true_eq_false, not_false_eq_true] <;> omega))⟩
                    · simp only [Int32.lt_iff_toInt_lt, Int32.le_iff_toInt_le, Int32.reduceToInt, ← Int32.toInt_inj] at h_3368
                      refine v_aload_n hC dX12_advance_165 rfl ?_
                      refine v_sipush hC dX12_advance_166 (v := 9999) (by decide) ?_
                      refine v_bipush hC dX12_advance_169 (v := 10) (by decide) ?_
                      refine v_aload_n hC dX12_advance_171 rfl ?_
                      refine v_get hC fl_X12_131 m_1 e_3324 rfl dX12_advance_172 ?_
                      obtain ⟨v_3382, h_3383⟩ : ∃ v9 : Int32, (10 : Int32) * v_3336 = v9 := ⟨_, rfl⟩
                      refine v_imul hC dX12_advance_175 h_3383 ?_
                      refine v_aload_n hC dX12_advance_176 rfl ?_
                      refine v_aload_n hC dX12_advance_177 rfl ?_
                      refine v_get hC fl_X12_108 m_1 e_3324 rfl dX12_advance_178 ?_
                      refine v_vi hC (rest := [.int v_3382, .int 9999, .ref a_0]) m_1 e_3324 rfl mi_X12_see ms_X12_see (p_X12_see hW_3313 k_0 (by first | omega | (simp only [Int32.lt_iff_toInt_lt, Int32.le_iff_toInt_le, Int32.reduceToInt, ← Int32.toInt_inj, true_and, and_true, or_true, true_or, false_or, or_false, false_and, and_false, not_true_eq_false, not_false_eq_true] <;> omega))) mx_X12_see ml_X12_114 (by decide) rfl (cells1 := 0) (slots1 := 0) (by decide) (by decide) (Nat.le_of_ble_eq_true rfl) (Nat.le_of_ble_eq_true rfl) rfl (Nat.le_of_ble_eq_true rfl) dX12_advance_181 (fun r_3385 L_3386 f_3387 h_3388 => ?_)
                      obtain ⟨rfl, rfl, rfl⟩ := h_3388
                      have sb_3391 := sv_b (f_3312 a_0) (f_3312 (q 4)) v_3330
                      have fe_3392 : fld (f_3312 a_0) 7 = (v_3328 : Int32).toInt := by rw [e_3324]; rfl
                      rw [fe_3392] at sb_3391
                      obtain ⟨v_3393, h_3394⟩ : ∃ v9 : Int32, v_3382 + (sv (f_3312 a_0) (f_3312 (q 4)) v_3330) = v9 := ⟨_, rfl⟩
                      refine v_iadd hC dX12_advance_184 h_3394 ?_
                      refine v_bipush hC dX12_advance_185 (v := 48) (by decide) ?_
                      obtain ⟨v_3396, h_3397⟩ : ∃ v9 : Int32, v_3393 - 48 = v9 := ⟨_, rfl⟩
                      refine v_isub hC dX12_advance_187 h_3397 ?_
                      obtain ⟨v_3399, h_3400⟩ : ∃ v9 : Int32, (if v_3396 < (9999 : Int32) then v_3396 else (9999 : Int32)) = v9 := ⟨_, rfl⟩
                      refine v_mmin hC mm_X12_134 mm_smin mm_i mm_cmin (by decide) (Nat.le_of_ble_eq_true rfl) (Nat.le_of_ble_eq_true rfl) (Nat.le_of_ble_eq_true rfl) h_3400 dX12_advance_188 ?_
                      have b_3401 := min_v h_3400
                      try simp only [Int32.reduceToInt] at b_3401
                      refine v_put hC fl_X12_131 m_1 e_3324 rfl rfl (Nat.le_of_ble_eq_true rfl) (fs' := [.int v_3325, .ref (q 1), .ref (q 2), .ref (q 3), .ref (q 4), .int v_3326, .ref (q 6), .int v_3328, .int v_3330, .int v_3332, .int v_3334, .int v_3399, .int v_3337, .int v_3338, .ref (q 14), .ref (q 15), .ref (q 16), .int v_3339, .ref (q 18), .ref (q 19), .int v_3341, .ref (q 21), .ref (q 22), .ref (q 23), .ref (q 24), .ref (q 25), .ref (q 26), .ref (q 27), .ref (q 28)]) rfl dX12_advance_191 (fun f_3402 hf_3403 hk_3404 => ?_)
                      have hW_3405 := hW_3313.up hf_3403 hk_3404 t_2 ⟨v_3325, v_3326, v_3328, v_3330, v_3332, v_3334, v_3399, v_3337, v_3338, v_3339, v_3341, rfl, (by first | omega | (simp only [Int32.lt_iff_toInt_lt, Int32.le_iff_toInt_le, Int32.reduceToInt, ← Int32.toInt_inj, true_and, and_true, or_true, true_or, false_or, or_false, false_and, and_false, not_true_eq_false, not_false_eq_true] <;> omega)), (by first | omega | (simp only [Int32.lt_iff_toInt_lt, Int32.le_iff_toInt_le, Int32.reduceToInt, ← Int32.toInt_inj, true_and, and_true, or_true, true_or, false_or, or_false, false_and, and_false, not_true_eq_false, not_false_eq_true] <;> omega)), (by first | omega | (simp only [Int32.lt_iff_toInt_lt, Int32.le_iff_toInt_le, Int32.reduceToInt, ← Int32.toInt_inj, true_and, and_true, or_true, true_or, false_or, or_false, false_and, and_false, not_true_eq_false, not_false_eq_true] <;> omega)), (by first | omega | (simp only [Int32.lt_iff_toInt_lt, Int32.le_iff_toInt_le, Int32.reduceToInt, ← Int32.toInt_inj, true_and, and_true, or_true, true_or, false_or, or_false, false_and, and_false, not_true_eq_false, not_false_eq_true] <;> omega)), (by first | omega | (simp only [Int32.lt_iff_toInt_lt, Int32.le_iff_toInt_le, Int32.reduceToInt, ← Int32.toInt_inj, true_and, and_true, or_true, true_or, false_or, or_false, false_and, and_false, not_true_eq_false, not_false_eq_true] <;> omega)), (by first | omega | (simp only [Int32.lt_iff_toInt_lt, Int32.le_iff_toInt_le, Int32.reduceToInt, ← Int32.toInt_inj, true_and, and_true, or_true, true_or, false_or, or_false, false_and, and_false, not_true_eq_false, not_false_eq_true] <;> omega)), (by first | omega | (simp only [Int32.lt_iff_toInt_lt, Int32.le_iff_toInt_le, Int32.reduceToInt, ← Int32.toInt_inj, true_and, and_true, or_true, true_or, false_or, or_false, false_and, and_false, not_true_eq_false, not_false_eq_true] <;> omega))⟩
                      have hf_3406 := (hk_3404 (q 4) (ne_kd hf_3315 e_3324 rfl)).trans hf_3315
                      have fr_3407 := FR.w hk_3404 e_3324 (k := 12) rfl
                      refine v_aload_n hC dX12_advance_194 rfl ?_
                      refine v_dup hC dX12_advance_195 rfl ?_
                      refine v_get hC fl_X12_108 m_1 hf_3403 rfl dX12_advance_196 ?_
                      refine v_iconst hC dX12_advance_199 (v := 1) (by decide) ?_
                      obtain ⟨v_3408, h_3409⟩ : ∃ v9 : Int32, v_3330 + 1 = v9 := ⟨_, rfl⟩
                      refine v_iadd hC dX12_advance_200 h_3409 ?_
                      have h_3410 := add_v h_3409 (by first | omega | (simp only [Int32.lt_iff_toInt_lt, Int32.le_iff_toInt_le, Int32.reduceToInt, ← Int32.toInt_inj, true_and, and_true, or_true, true_or, false_or, or_false, false_and, and_false, not_true_eq_false, not_false_eq_true] <;> omega)) (by first | omega | (simp only [Int32.lt_iff_toInt_lt, Int32.le_iff_toInt_le, Int32.reduceToInt, ← Int32.toInt_inj, true_and, and_true, or_true, true_or, false_or, or_false, false_and, and_false, not_true_eq_false, not_false_eq_true] <;> omega))
                      try simp only [Int32.reduceToInt] at h_3410
                      refine v_put hC fl_X12_108 m_1 hf_3403 rfl rfl (Nat.le_of_ble_eq_true rfl) (fs' := [.int v_3325, .ref (q 1), .ref (q 2), .ref (q 3), .ref (q 4), .int v_3326, .ref (q 6), .int v_3328, .int v_3408, .int v_3332, .int v_3334, .int v_3399, .int v_3337, .int v_3338, .ref (q 14), .ref (q 15), .ref (q 16), .int v_3339, .ref (q 18), .ref (q 19), .int v_3341, .ref (q 21), .ref (q 22), .ref (q 23), .ref (q 24), .ref (q 25), .ref (q 26), .ref (q 27), .ref (q 28)]) rfl dX12_advance_201 (fun f_3411 hf_3412 hk_3413 => ?_)
                      have hW_3414 := hW_3405.up hf_3412 hk_3413 t_2 ⟨v_3325, v_3326, v_3328, v_3408, v_3332, v_3334, v_3399, v_3337, v_3338, v_3339, v_3341, rfl, (by first | omega | (simp only [Int32.lt_iff_toInt_lt, Int32.le_iff_toInt_le, Int32.reduceToInt, ← Int32.toInt_inj, true_and, and_true, or_true, true_or, false_or, or_false, false_and, and_false, not_true_eq_false, not_false_eq_true] <;> omega)), (by first | omega | (simp only [Int32.lt_iff_toInt_lt, Int32.le_iff_toInt_le, Int32.reduceToInt, ← Int32.toInt_inj, true_and, and_true, or_true, true_or, false_or, or_false, false_and, and_false, not_true_eq_false, not_false_eq_true] <;> omega)), (by first | omega | (simp only [Int32.lt_iff_toInt_lt, Int32.le_iff_toInt_le, Int32.reduceToInt, ← Int32.toInt_inj, true_and, and_true, or_true, true_or, false_or, or_false, false_and, and_false, not_true_eq_false, not_false_eq_true] <;> omega)), (by first | omega | (simp only [Int32.lt_iff_toInt_lt, Int32.le_iff_toInt_le, Int32.reduceToInt, ← Int32.toInt_inj, true_and, and_true, or_true, true_or, false_or, or_false, false_and, and_false, not_true_eq_false, not_false_eq_true] <;> omega)), (by first | omega | (simp only [Int32.lt_iff_toInt_lt, Int32.le_iff_toInt_le, Int32.reduceToInt, ← Int32.toInt_inj, true_and, and_true, or_true, true_or, false_or, or_false, false_and, and_false, not_true_eq_false, not_false_eq_true] <;> omega)), (by first | omega | (simp only [Int32.lt_iff_toInt_lt, Int32.le_iff_toInt_le, Int32.reduceToInt, ← Int32.toInt_inj, true_and, and_true, or_true, true_or, false_or, or_false, false_and, and_false, not_true_eq_false, not_false_eq_true] <;> omega)), (by first | omega | (simp only [Int32.lt_iff_toInt_lt, Int32.le_iff_toInt_le, Int32.reduceToInt, ← Int32.toInt_inj, true_and, and_true, or_true, true_or, false_or, or_false, false_and, and_false, not_true_eq_false, not_false_eq_true] <;> omega))⟩
                      have hf_3415 := (hk_3413 (q 4) (ne_kd hf_3406 hf_3403 rfl)).trans hf_3406
                      have fr_3416 := FR.w hk_3413 hf_3403 (k := 12) rfl
                      refine v_goto hC dX12_advance_204 (tgt := 144) (by decide) ?_
                      refine v_pick [0] rfl ?_
                      have fe_3417 : fld (f_3411 a_0) 9 = (v_3332 : Int32).toInt := by rw [hf_3412]; rfl
                      have fe_3418 : fld (f_3411 a_0) 8 = (v_3408 : Int32).toInt := by rw [hf_3412]; rfl
                      have fe_3419 : fld (f_3411 a_0) 9 = (v_3332 : Int32).toInt := by rw [hf_3412]; rfl
                      have fe_3420 : fld (f_3411 a_0) 12 = (v_3337 : Int32).toInt := by rw [hf_3412]; rfl
                      have fe_3421 : fld (f_3411 a_0) 20 = (v_3341 : Int32).toInt := by rw [hf_3412]; rfl
                      have h_3422 : fld (f_3411 a_0) 8 = (v_3408 : Int32).toInt := by rw [hf_3412]; rfl
                      exact ih_3322 f_3411 hW_3414 (((hF_3314.tr fr_3407).tr fr_3416).mono rfl) (by rw [fe_3417] <;> first | omega | (simp only [Int32.lt_iff_toInt_lt, Int32.le_iff_toInt_le, Int32.reduceToInt, ← Int32.toInt_inj, true_and, and_true, or_true, true_or, false_or, or_false, false_and, and_false, not_true_eq_false, not_false_eq_true] <;> omega)) (by rw [fe_3418, fe_3419] <;> first | omega | (simp only [Int32.lt_iff_toInt_lt, Int32.le_iff_toInt_le, Int32.reduceToInt, ← Int32.toInt_inj, true_and, and_true, or_true, true_or, false_or, or_false, false_and, and_false, not_true_eq_false, not_false_eq_true] <;> omega)) (by rw [fe_3420] <;> first | omega | (simp only [Int32.lt_iff_toInt_lt, Int32.le_iff_toInt_le, Int32.reduceToInt, ← Int32.toInt_inj, true_and, and_true, or_true, true_or, false_or, or_false, false_and, and_false, not_true_eq_false, not_false_eq_true] <;> omega)) (by rw [fe_3421] <;> first | omega | (simp only [Int32.lt_iff_toInt_lt, Int32.le_iff_toInt_le, Int32.reduceToInt, ← Int32.toInt_inj, true_and, and_true, or_true, true_or, false_or, or_false, false_and, and_false, not_true_eq_false, not_false_eq_true] <;> omega)) (by rw [h_3422]; omega)
                refine v_pick [1] rfl ?_
                have fe_3423 : fld (f_3039 a_0) 9 = (v_2826 : Int32).toInt := by rw [hf_3040]; rfl
                have fe_3424 : fld (f_3039 a_0) 8 = (v_3036 : Int32).toInt := by rw [hf_3040]; rfl
                have fe_3425 : fld (f_3039 a_0) 9 = (v_2826 : Int32).toInt := by rw [hf_3040]; rfl
                have fe_3426 : fld (f_3039 a_0) 12 = (v_2833 : Int32).toInt := by rw [hf_3040]; rfl
                have fe_3427 : fld (f_3039 a_0) 20 = (v_2837 : Int32).toInt := by rw [hf_3040]; rfl
                have h_3428 : fld (f_3039 a_0) 8 = (v_3036 : Int32).toInt := by rw [hf_3040]; rfl
                exact lp_3320 602 f_3039 hW_3042 FR.rf (by rw [fe_3423] <;> first | omega | (simp only [Int32.lt_iff_toInt_lt, Int32.le_iff_toInt_le, Int32.reduceToInt, ← Int32.toInt_inj, true_and, and_true, or_true, true_or, false_or, or_false, false_and, and_false, not_true_eq_false, not_false_eq_true] <;> omega)) (by rw [fe_3424, fe_3425] <;> first | omega | (simp only [Int32.lt_iff_toInt_lt, Int32.le_iff_toInt_le, Int32.reduceToInt, ← Int32.toInt_inj, true_and, and_true, or_true, true_or, false_or, or_false, false_and, and_false, not_true_eq_false, not_false_eq_true] <;> omega)) (by rw [fe_3426] <;> first | omega | (simp only [Int32.lt_iff_toInt_lt, Int32.le_iff_toInt_le, Int32.reduceToInt, ← Int32.toInt_inj, true_and, and_true, or_true, true_or, false_or, or_false, false_and, and_false, not_true_eq_false, not_false_eq_true] <;> omega)) (by rw [fe_3427] <;> first | omega | (simp only [Int32.lt_iff_toInt_lt, Int32.le_iff_toInt_le, Int32.reduceToInt, ← Int32.toInt_inj, true_and, and_true, or_true, true_or, false_or, or_false, false_and, and_false, not_true_eq_false, not_false_eq_true] <;> omega)) (by rw [h_3428]; omega)
            · simp only [Int32.lt_iff_toInt_lt, Int32.le_iff_toInt_le, Int32.reduceToInt, ← Int32.toInt_inj] at h_2928
              refine v_aload_n hC dX12_advance_83 rfl ?_
              refine v_aload_n hC dX12_advance_84 rfl ?_
              refine v_get hC fl_X12_108 m_1 hf_2898 rfl dX12_advance_85 ?_
              refine v_vi hC (rest := []) m_1 hf_2898 rfl mi_X12_see ms_X12_see (p_X12_see hW_2900 k_0 (by first | omega | (simp only [Int32.lt_iff_toInt_lt, Int32.le_iff_toInt_le, Int32.reduceToInt, ← Int32.toInt_inj, true_and, and_true, or_true, true_or, false_or, or_false, false_and, and_false, not_true_eq_false, not_false_eq_true] <;> omega))) mx_X12_see ml_X12_114 (by decide) rfl (cells1 := 0) (slots1 := 0) (by decide) (by decide) (Nat.le_of_ble_eq_true rfl) (Nat.le_of_ble_eq_true rfl) rfl (Nat.le_of_ble_eq_true rfl) dX12_advance_88 (fun r_3429 L_3430 f_3431 h_3432 => ?_)
              obtain ⟨rfl, rfl, rfl⟩ := h_3432
              have sb_3435 := sv_b (f_2897 a_0) (f_2897 (q 4)) v_2826
              have fe_3436 : fld (f_2897 a_0) 7 = (v_2824 : Int32).toInt := by rw [hf_2898]; rfl
              rw [fe_3436] at sb_3435
              obtain ⟨v_3437, h_3438⟩ : ∃ v9 : Int64, (sv (f_2897 a_0) (f_2897 (q 4)) v_2826).toInt64 = v9 := ⟨_, rfl⟩
              refine v_i2l hC dX12_advance_91 h_3438 ?_
              have h_3439 : v_3437.toInt = (sv (f_2897 a_0) (f_2897 (q 4)) v_2826).toInt := by rw [← h_3438]; exact Int32.toInt_toInt64 _
              refine v_ldc2 hC kl_X12_123 dX12_advance_92 ?_
              refine v_ldc2 hC kl_X12_125 dX12_advance_95 ?_
              refine v_si hC (rest := []) mt_X12_in (p_X12_in hW_2900) mx_X12_in ml_X12_79 (by decide) rfl (cells1 := 0) (slots1 := 0) (by decide) (by decide) (Nat.le_of_ble_eq_true rfl) (Nat.le_of_ble_eq_true rfl) rfl (Nat.le_of_ble_eq_true rfl) dX12_advance_98 (fun r_3440 L_3441 f_3442 h_3443 => ?_)
              obtain ⟨rfl, rfl, b_3444, x_3445⟩ := h_3443
              try simp only [Int32.reduceToInt, Int64.reduceToInt] at x_3445
              refine v_if_eq_f hC dX12_advance_101 (tgt := 117) (by decide) (by first | omega | (simp only [Int32.lt_iff_toInt_lt, Int32.le_iff_toInt_le, Int32.reduceToInt, ← Int32.toInt_inj, true_and, and_true, or_true, true_or, false_or, or_false, false_and, and_false, not_true_eq_false, not_false_eq_true] <;> omega)) ?_
              refine v_aload_n hC dX12_advance_104 rfl ?_
              refine v_dup hC dX12_advance_105 rfl ?_
              refine v_get hC fl_X12_108 m_1 hf_2898 rfl dX12_advance_106 ?_
              refine v_iconst hC dX12_advance_109 (v := 1) (by decide) ?_
              obtain ⟨v_3448, h_3449⟩ : ∃ v9 : Int32, v_2826 + 1 = v9 := ⟨_, rfl⟩
              refine v_iadd hC dX12_advance_110 h_3449 ?_
              have h_3450 := add_v h_3449 (by first | omega | (simp only [Int32.lt_iff_toInt_lt, Int32.le_iff_toInt_le, Int32.reduceToInt, ← Int32.toInt_inj, true_and, and_true, or_true, true_or, false_or, or_false, false_and, and_false, not_true_eq_false, not_false_eq_true] <;> omega)) (by first | omega | (simp only [Int32.lt_iff_toInt_lt, Int32.le_iff_toInt_le, Int32.reduceToInt, ← Int32.toInt_inj, true_and, and_true, or_true, true_or, false_or, or_false, false_and, and_false, not_true_eq_false, not_false_eq_true] <;> omega))
              try simp only [Int32.reduceToInt] at h_3450
              refine v_put hC fl_X12_108 m_1 hf_2898 rfl rfl (Nat.le_of_ble_eq_true rfl) (fs' := [.int v_2821, .ref (q 1), .ref (q 2), .ref (q 3), .ref (q 4), .int v_2822, .ref (q 6), .int v_2824, .int v_3448, .int v_2826, .int v_2830, .int v_2832, .int v_2833, .int v_2834, .ref (q 14), .ref (q 15), .ref (q 16), .int v_2835, .ref (q 18), .ref (q 19), .int v_2837, .ref (q 21), .ref (q 22), .ref (q 23), .ref (q 24), .ref (q 25), .ref (q 26), .ref (q 27), .ref (q 28)]) rfl dX12_advance_111 (fun f_3451 hf_3452 hk_3453 => ?_)
              have hW_3454 := hW_2900.up hf_3452 hk_3453 t_2 ⟨v_2821, v_2822, v_2824, v_3448, v_2826, v_2830, v_2832, v_2833, v_2834, v_2835, v_2837, rfl, (by first | omega | (simp only [Int32.lt_iff_toInt_lt, Int32.le_iff_toInt_le, Int32.reduceToInt, ← Int32.toInt_inj, true_and, and_true, or_true, true_or, false_or, or_false, false_and, and_false, not_true_eq_false, not_false_eq_true] <;> omega)), (by first | omega | (simp only [Int32.lt_iff_toInt_lt, Int32.le_iff_toInt_le, Int32.reduceToInt, ← Int32.toInt_inj, true_and, and_true, or_true, true_or, false_or, or_false, false_and, and_false, not_true_eq_false, not_false_eq_true] <;> omega)), (by first | omega | (simp only [Int32.lt_iff_toInt_lt, Int32.le_iff_toInt_le, Int32.reduceToInt, ← Int32.toInt_inj, true_and, and_true, or_true, true_or, false_or, or_false, false_and, and_false, not_true_eq_false, not_false_eq_true] <;> omega)), (by first | omega | (simp only [Int32.lt_iff_toInt_lt, Int32.le_iff_toInt_le, Int32.reduceToInt, ← Int32.toInt_inj, true_and, and_true, or_true, true_or, false_or, or_false, false_and, and_false, not_true_eq_false, not_false_eq_true] <;> omega)), (by first | omega | (simp only [Int32.lt_iff_toInt_lt, Int32.le_iff_toInt_le, Int32.reduceToInt, ← Int32.toInt_inj, true_and, and_true, or_true, true_or, false_or, or_false, false_and, and_false, not_true_eq_false, not_false_eq_true] <;> omega)), (by first | omega | (simp only [Int32.lt_iff_toInt_lt, Int32.le_iff_toInt_le, Int32.reduceToInt, ← Int32.toInt_inj, true_and, and_true, or_true, true_or, false_or, or_false, false_and, and_false, not_true_eq_false, not_false_eq_true] <;> omega)), (by first | omega | (simp only [Int32.lt_iff_toInt_lt, Int32.le_iff_toInt_le, Int32.reduceToInt, ← Int32.toInt_inj, true_and, and_true, or_true, true_or, false_or, or_false, false_and, and_false, not_true_eq_false, not_false_eq_true] <;> omega))⟩
              have hf_3455 := (hk_3453 (q 4) (ne_kd e_2912 hf_2898 rfl)).trans e_2912
              have fr_3456 := FR.w hk_3453 hf_2898 (k := 12) rfl
              refine v_goto hC dX12_advance_114 (tgt := 83) (by decide) ?_
              have lp_3654 : ∀ (n_3655 : Nat) (f_3646 : Nat → va_E) (hW_3647 : WT T L f_3646) (hF_3648 : FR [12] f_3451 f_3646)  (nv_3650 : v_28.toInt ≤ fld (f_3646 a_0) 9) (nv_3651 : fld (f_3646 a_0) 9 < fld (f_3646 a_0) 8) (nv_3652 : fld (f_3646 a_0) 12 = v_35.toInt) (nv_3653 : fld (f_3646 a_0) 20 = v_39.toInt) (hm_3657 : 600 - fld (f_3646 a_0) 8 < (n_3655 : Int)), V z E 2 0 0 L f_3646 83 [(0, .ref a_0)] [] := by
                intro n_3655
                induction n_3655 with
                | zero =>
                  intro f_3646 hW_3647 hF_3648 nv_3650 nv_3651 nv_3652 nv_3653 hm_3657
                  have hf_3649 := hF_3648.at hf_3455 rfl
                  obtain ⟨v_3659, v_3660, v_3662, v_3664, v_3666, v_3668, v_3670, v_3671, v_3672, v_3673, v_3675, e_3658, b_3661, b_3663, b_3665, b_3667, b_3669, b_3674, b_3676⟩ := hW_3647.at m_1 t_2
                  have fe_3677 : fld (f_3646 a_0) 9 = (v_3666 : Int32).toInt := by rw [e_3658]; rfl
                  rw [fe_3677] at nv_3650
                  have fe_3678 : fld (f_3646 a_0) 8 = (v_3664 : Int32).toInt := by rw [e_3658]; rfl
                  have fe_3679 : fld (f_3646 a_0) 9 = (v_3666 : Int32).toInt := by rw [e_3658]; rfl
                  rw [fe_3678, fe_3679] at nv_3651
                  have fe_3680 : fld (f_3646 a_0) 12 = (v_3671 : Int32).toInt := by rw [e_3658]; rfl
                  rw [fe_3680] at nv_3652
                  have fe_3681 : fld (f_3646 a_0) 20 = (v_3675 : Int32).toInt := by rw [e_3658]; rfl
                  rw [fe_3681] at nv_3653
                  have h_3682 : fld (f_3646 a_0) 8 = (v_3664 : Int32).toInt := by rw [e_3658]; rfl
                  rw [h_3682] at hm_3657
                  exfalso; omega
                | succ n_3655 ih_3656 =>
                  intro f_3646 hW_3647 hF_3648 nv_3650 nv_3651 nv_3652 nv_3653 hm_3657
                  have hf_3649 := hF_3648.at hf_3455 rfl
                  obtain ⟨v_3659, v_3660, v_3662, v_3664, v_3666, v_3668, v_3670, v_3671, v_3672, v_3673, v_3675, e_3658, b_3661, b_3663, b_3665, b_3667, b_3669, b_3674, b_3676⟩ := hW_3647.at m_1 t_2
                  have fe_3677 : fld (f_3646 a_0) 9 = (v_3666 : Int32).toInt := by rw [e_3658]; rfl
                  rw [fe_3677] at nv_3650
                  have fe_3678 : fld (f_3646 a_0) 8 = (v_3664 : Int32).toInt := by rw [e_3658]; rfl
                  have fe_3679 : fld (f_3646 a_0) 9 = (v_3666 : Int32).toInt := by rw [e_3658]; rfl
                  rw [fe_3678, fe_3679] at nv_3651
                  have fe_3680 : fld (f_3646 a_0) 12 = (v_3671 : Int32).toInt := by rw [e_3658]; rfl
                  rw [fe_3680] at nv_3652
                  have fe_3681 : fld (f_3646 a_0) 20 = (v_3675 : Int32).toInt := by rw [e_3658]; rfl
                  rw [fe_3681] at nv_3653
                  have h_3682 : fld (f_3646 a_0) 8 = (v_3664 : Int32).toInt := by rw [e_3658]; rfl
                  rw [h_3682] at hm_3657
                  refine v_aload_n hC dX12_advance_83 rfl ?_
                  refine v_aload_n hC dX12_advance_84 rfl ?_
                  refine v_get hC fl_X12_108 m_1 e_3658 rfl dX12_advance_85 ?_
                  refine v_vi hC (rest := []) m_1 e_3658 rfl mi_X12_see ms_X12_see (p_X12_see hW_3647 k_0 (by first | omega | (simp only [Int32.lt_iff_toInt_lt, Int32.le_iff_toInt_le, Int32.reduceToInt, ← Int32.toInt_inj, true_and, and_true, or_true, true_or, false_or, or_false, false_and, and_false, not_true_eq_false, not_false_eq_true] <;> omega))) mx_X12_see ml_X12_114 (by decide) rfl (cells1 := 0) (slots1 := 0) (by decide) (by decide) (Nat.le_of_ble_eq_true rfl) (Nat.le_of_ble_eq_true rfl) rfl (Nat.le_of_ble_eq_true rfl) dX12_advance_88 (fun r_3683 L_3684 f_3685 h_3686 => ?_)
                  obtain ⟨rfl, rfl, rfl⟩ := h_3686
                  have sb_3689 := sv_b (f_3646 a_0) (f_3646 (q 4)) v_3664
                  have fe_3690 : fld (f_3646 a_0) 7 = (v_3662 : Int32).toInt := by rw [e_3658]; rfl
                  rw [fe_3690] at sb_3689
                  obtain ⟨v_3691, h_3692⟩ : ∃ v9 : Int64, (sv (f_3646 a_0) (f_3646 (q 4)) v_3664).toInt64 = v9 := ⟨_, rfl⟩
                  refine v_i2l hC dX12_advance_91 h_3692 ?_
                  have h_3693 : v_3691.toInt = (sv (f_3646 a_0) (f_3646 (q 4)) v_3664).toInt := by rw [← h_3692]; exact Int32.toInt_toInt64 _
                  refine v_ldc2 hC kl_X12_123 dX12_advance_92 ?_
                  refine v_ldc2 hC kl_X12_125 dX12_advance_95 ?_
                  refine v_si hC (rest := []) mt_X12_in (p_X12_in hW_3647) mx_X12_in ml_X12_79 (by decide) rfl (cells1 := 0) (slots1 := 0) (by decide) (by decide) (Nat.le_of_ble_eq_true rfl) (Nat.le_of_ble_eq_true rfl) rfl (Nat.le_of_ble_eq_true rfl) dX12_advance_98 (fun r_3694 L_3695 f_3696 h_3697 => ?_)
                  obtain ⟨rfl, rfl, b_3698, x_3699⟩ := h_3697
                  try simp only [Int32.reduceToInt, Int64.reduceToInt] at x_3699
                  refine v_if_eq hC dX12_advance_101 (tgt := 117) (by decide) (fun h_3702 => ?_) (fun h_3702 => ?_)
                  · simp only [Int32.lt_iff_toInt_lt, Int32.le_iff_toInt_le, Int32.reduceToInt, ← Int32.toInt_inj] at h_3702
                    refine v_aload_n hC dX12_advance_117 rfl ?_
                    refine v_iconst hC dX12_advance_118 (v := 1) (by decide) ?_
                    refine v_put hC fl_X12_120 m_1 e_3658 rfl rfl (Nat.le_of_ble_eq_true rfl) (fs' := [.int v_3659, .ref (q 1), .ref (q 2), .ref (q 3), .ref (q 4), .int v_3660, .ref (q 6), .int v_3662, .int v_3664, .int v_3666, .int 1, .int v_3670, .int v_3671, .int v_3672, .ref (q 14), .ref (q 15), .ref (q 16), .int v_3673, .ref (q 18), .ref (q 19), .int v_3675, .ref (q 21), .ref (q 22), .ref (q 23), .ref (q 24), .ref (q 25), .ref (q 26), .ref (q 27), .ref (q 28)]) rfl dX12_advance_119 (fun f_3703 hf_3704 hk_3705 => ?_)
                    have hW_3706 := hW_3647.up hf_3704 hk_3705 t_2 ⟨v_3659, v_3660, v_3662, v_3664, v_3666, 1, v_3670, v_3671, v_3672, v_3673, v_3675, rfl, (by first | omega | (simp only [Int32.lt_iff_toInt_lt, Int32.le_iff_toInt_le, Int32.reduceToInt, ← Int32.toInt_inj, true_and, and_true, or_true, true_or, false_or, or_false, false_and, and_false, not_true_eq_false, not_false_eq_true] <;> omega)), (by first | omega | (simp only [Int32.lt_iff_toInt_lt, Int32.le_iff_toInt_le, Int32.reduceToInt, ← Int32.toInt_inj, true_and, and_true, or_true, true_or, false_or, or_false, false_and, and_false, not_true_eq_false, not_false_eq_true] <;> omega)), (by first | omega | (simp only [Int32.lt_iff_toInt_lt, Int32.le_iff_toInt_le, Int32.reduceToInt, ← Int32.toInt_inj, true_and, and_true, or_true, true_or, false_or, or_false, false_and, and_false, not_true_eq_false, not_false_eq_true] <;> omega)), (by first | omega | (simp only [Int32.lt_iff_toInt_lt, Int32.le_iff_toInt_le, Int32.reduceToInt, ← Int32.toInt_inj, true_and, and_true, or_true, true_or, false_or, or_false, false_and, and_false, not_true_eq_false, not_false_eq_true] <;> omega)), (by decide), (by first | omega | (simp only [Int32.lt_iff_toInt_lt, Int32.le_iff_toInt_le, Int32.reduceToInt, ← Int32.toInt_inj, true_and, and_true, or_true, true_or, false_or, or_false, false_and, and_false, not_true_eq_false, not_false_eq_true] <;> omega)), (by first | omega | (simp only [Int32.lt_iff_toInt_lt, Int32.le_iff_toInt_le, Int32.reduceToInt, ← Int32.toInt_inj, true_and, and_true, or_true, true_or, false_or, or_false, false_and, and_false, not_true_eq_false, not_false_eq_true] <;> omega))⟩
                    have hf_3707 := (hk_3705 (q 4) (ne_kd hf_3649 e_3658 rfl)).trans hf_3649
                    have fr_3708 := FR.w hk_3705 e_3658 (k := 12) rfl
                    refine v_goto hC dX12_advance_122 (tgt := 240) (by decide) ?_
                    have fe_3709 : fld (f_3703 a_0) 8 = (v_3664 : Int32).toInt := by rw [hf_3704]; rfl
                    have fe_3710 : fld (f_3703 a_0) 9 = (v_3666 : Int32).toInt := by rw [hf_3704]; rfl
                    have fe_3711 : fld (f_3703 a_0) 8 = (v_3664 : Int32).toInt := by rw [hf_3704]; rfl
                    have fe_3712 : fld (f_3703 a_0) 9 = (v_3666 : Int32).toInt := by rw [hf_3704]; rfl
                    have fe_3713 : fld (f_3703 a_0) 10 = (1 : Int32).toInt := by rw [hf_3704]; rfl
                    simp only [Int32.reduceToInt] at fe_3713
                    have fe_3714 : fld (f_3703 a_0) 12 = (v_3671 : Int32).toInt := by rw [hf_3704]; rfl
                    have fe_3715 : fld (f_3703 a_0) 20 = (v_3675 : Int32).toInt := by rw [hf_3704]; rfl
                    exact hR _ _ _ _ _ _ dX12_advance_240 (Nat.le_of_ble_eq_true rfl) (Nat.le_of_ble_eq_true rfl) ⟨rfl, hW_3706, (((((hF_2812.tr fr_2901).tr fr_3456).tr hF_3648).tr fr_3708).mono rfl), (by simp only [fe_3709, fe_3710, mz_41, true_and, and_true, or_true, true_or, false_or, or_false, false_and, and_false, not_true_eq_false, not_false_eq_true] <;> first | omega | (simp only [Int32.lt_iff_toInt_lt, Int32.le_iff_toInt_le, Int32.reduceToInt, ← Int32.toInt_inj, true_and, and_true, or_true, true_or, false_or, or_false, false_and, and_false, not_true_eq_false, not_false_eq_true] <;> omega)), (by simp only [fe_3711, fe_3712, fe_3713, true_and, and_true, or_true, true_or, false_or, or_false, false_and, and_false, not_true_eq_false, not_false_eq_true] <;> first | omega | (simp only [Int32.lt_iff_toInt_lt, Int32.le_iff_toInt_le, Int32.reduceToInt, ← Int32.toInt_inj, true_and, and_true, or_true, true_or, false_or, or_false, false_and, and_false, not_true_eq_false, not_false_eq_true] <;> omega)), (by simp only [fe_3714, mz_42, true_and, and_true, or_true, true_or, false_or, or_false, false_and, and_false, not_true_eq_false, not_false_eq_true] <;> first | omega | (simp only [Int32.lt_iff_toInt_lt, Int32.le_iff_toInt_le, Int32.reduceToInt, ← Int32.toInt_inj, true_and, and_true, or_true, true_or, false_or, or_false, false_and, and_false, not_true_eq_false, not_false_eq_true] <;> omega)), (by simp only [fe_3715, mz_43, true_and, and_true, or_true, true_or, false_or, or_false, false_and, and_false, not_true_eq_false, not_false_eq_true] <;> first | omega | (simp only [Int32.lt_iff_toInt_lt, Int32.le_iff_toInt_le, Int32.reduceToInt, ← Int32.toInt_inj, true_and, and_true, or_true, true_or, false_or, or_false, false_and, and_false, not_true_eq_false, not_false_eq_true] <;> omega))⟩
                  · simp only [Int32.lt_iff_toInt_lt, Int32.le_iff_toInt_le, Int32.reduceToInt, ← Int32.toInt_inj] at h_3702
                    refine v_aload_n hC dX12_advance_104 rfl ?_
                    refine v_dup hC dX12_advance_105 rfl ?_
                    refine v_get hC fl_X12_108 m_1 e_3658 rfl dX12_advance_106 ?_
                    refine v_iconst hC dX12_advance_109 (v := 1) (by decide) ?_
                    obtain ⟨v_3716, h_3717⟩ : ∃ v9 : Int32, v_3664 + 1 = v9 := ⟨_, rfl⟩
                    refine v_iadd hC dX12_advance_110 h_3717 ?_
                    have h_3718 := add_v h_3717 (by first | omega | (simp only [Int32.lt_iff_toInt_lt, Int32.le_iff_toInt_le, Int32.reduceToInt, ← Int32.toInt_inj, true_and, and_true, or_true, true_or, false_or, or_false, false_and, and_false, not_true_eq_false, not_false_eq_true] <;> omega)) (by first | omega | (simp only [Int32.lt_iff_toInt_lt, Int32.le_iff_toInt_le, Int32.reduceToInt, ← Int32.toInt_inj, true_and, and_true, or_true, true_or, false_or, or_false, false_and, and_false, not_true_eq_false, not_false_eq_true] <;> omega))
                    try simp only [Int32.reduceToInt] at h_3718
                    refine v_put hC fl_X12_108 m_1 e_3658 rfl rfl (Nat.le_of_ble_eq_true rfl) (fs' := [.int v_3659, .ref (q 1), .ref (q 2), .ref (q 3), .ref (q 4), .int v_3660, .ref (q 6), .int v_3662, .int v_3716, .int v_3666, .int v_3668, .int v_3670, .int v_3671, .int v_3672, .ref (q 14), .ref (q 15), .ref (q 16), .int v_3673, .ref (q 18), .ref (q 19), .int v_3675, .ref (q 21), .ref (q 22), .ref (q 23), .ref (q 24), .ref (q 25), .ref (q 26), .ref (q 27), .ref (q 28)]) rfl dX12_advance_111 (fun f_3719 hf_3720 hk_3721 => ?_)
                    have hW_3722 := hW_3647.up hf_3720 hk_3721 t_2 ⟨v_3659, v_3660, v_3662, v_3716, v_3666, v_3668, v_3670, v_3671, v_3672, v_3673, v_3675, rfl, (by first | omega | (simp only [Int32.lt_iff_toInt_lt, Int32.le_iff_toInt_le, Int32.reduceToInt, ← Int32.toInt_inj, true_and, and_true, or_true, true_or, false_or, or_false, false_and, and_false, not_true_eq_false, not_false_eq_true] <;> omega)), (by first | omega | (simp only [Int32.lt_iff_toInt_lt, Int32.le_iff_toInt_le, Int32.reduceToInt, ← Int32.toInt_inj, true_and, and_true, or_true, true_or, false_or, or_false, false_and, and_false, not_true_eq_false, not_false_eq_true] <;> omega)), (by first | omega | (simp only [Int32.lt_iff_toInt_lt, Int32.le_iff_toInt_le, Int32.reduceToInt, ← Int32.toInt_inj, true_and, and_true, or_true, true_or, false_or, or_false, false_and, and_false, not_true_eq_false, not_false_eq_true] <;> omega)), (by first | omega | (simp only [Int32.lt_iff_toInt_lt, Int32.le_iff_toInt_le, Int32.reduceToInt, ← Int32.toInt_inj, true_and, and_true, or_true, true_or, false_or, or_false, false_and, and_false, not_true_eq_false, not_false_eq_true] <;> omega)), (by first | omega | (simp only [Int32.lt_iff_toInt_lt, Int32.le_iff_toInt_le, Int32.reduceToInt, ← Int32.toInt_inj, true_and, and_true, or_true, true_or, false_or, or_false, false_and, and_false, not_true_eq_false, not_false_eq_true] <;> omega)), (by first | omega | (simp only [Int32.lt_iff_toInt_lt, Int32.le_iff_toInt_le, Int32.reduceToInt, ← Int32.toInt_inj, true_and, and_true, or_true, true_or, false_or, or_false, false_and, and_false, not_true_eq_false, not_false_eq_true] <;> omega)), (by first | omega | (simp only [Int32.lt_iff_toInt_lt, Int32.le_iff_toInt_le, Int32.reduceToInt, ← Int32.toInt_inj, true_and, and_true, or_true, true_or, false_or, or_false, false_and, and_false, not_true_eq_false, not_false_eq_true] <;> omega))⟩
                    have hf_3723 := (hk_3721 (q 4) (ne_kd hf_3649 e_3658 rfl)).trans hf_3649
                    have fr_3724 := FR.w hk_3721 e_3658 (k := 12) rfl
                    refine v_goto hC dX12_advance_114 (tgt := 83) (by decide) ?_
                    refine v_pick [0] rfl ?_
                    have fe_3725 : fld (f_3719 a_0) 9 = (v_3666 : Int32).toInt := by rw [hf_3720]; rfl
                    have fe_3726 : fld (f_3719 a_0) 8 = (v_3716 : Int32).toInt := by rw [hf_3720]; rfl
                    have fe_3727 : fld (f_3719 a_0) 9 = (v_3666 : Int32).toInt := by rw [hf_3720]; rfl
                    have fe_3728 : fld (f_3719 a_0) 12 = (v_3671 : Int32).toInt := by rw [hf_3720]; rfl
                    have fe_3729 : fld (f_3719 a_0) 20 = (v_3675 : Int32).toInt := by rw [hf_3720]; rfl
                    have h_3730 : fld (f_3719 a_0) 8 = (v_3716 : Int32).toInt := by rw [hf_3720]; rfl
                    exact ih_3656 f_3719 hW_3722 ((hF_3648.tr fr_3724).mono rfl) (by rw [fe_3725] <;> first | omega | (simp only [Int32.lt_iff_toInt_lt, Int32.le_iff_toInt_le, Int32.reduceToInt, ← Int32.toInt_inj, true_and, and_true, or_true, true_or, false_or, or_false, false_and, and_false, not_true_eq_false, not_false_eq_true] <;> omega)) (by rw [fe_3726, fe_3727] <;> first | omega | (simp only [Int32.lt_iff_toInt_lt, Int32.le_iff_toInt_le, Int32.reduceToInt, ← Int32.toInt_inj, true_and, and_true, or_true, true_or, false_or, or_false, false_and, and_false, not_true_eq_false, not_false_eq_true] <;> omega)) (by rw [fe_3728] <;> first | omega | (simp only [Int32.lt_iff_toInt_lt, Int32.le_iff_toInt_le, Int32.reduceToInt, ← Int32.toInt_inj, true_and, and_true, or_true, true_or, false_or, or_false, false_and, and_false, not_true_eq_false, not_false_eq_true] <;> omega)) (by rw [fe_3729] <;> first | omega | (simp only [Int32.lt_iff_toInt_lt, Int32.le_iff_toInt_le, Int32.reduceToInt, ← Int32.toInt_inj, true_and, and_true, or_true, true_or, false_or, or_false, false_and, and_false, not_true_eq_false, not_false_eq_true] <;> omega)) (by rw [h_3730]; omega)
              refine v_pick [1] rfl ?_
              have fe_3731 : fld (f_3451 a_0) 9 = (v_2826 : Int32).toInt := by rw [hf_3452]; rfl
              have fe_3732 : fld (f_3451 a_0) 8 = (v_3448 : Int32).toInt := by rw [hf_3452]; rfl
              have fe_3733 : fld (f_3451 a_0) 9 = (v_2826 : Int32).toInt := by rw [hf_3452]; rfl
              have fe_3734 : fld (f_3451 a_0) 12 = (v_2833 : Int32).toInt := by rw [hf_3452]; rfl
              have fe_3735 : fld (f_3451 a_0) 20 = (v_2837 : Int32).toInt := by rw [hf_3452]; rfl
              have h_3736 : fld (f_3451 a_0) 8 = (v_3448 : Int32).toInt := by rw [hf_3452]; rfl
              exact lp_3654 602 f_3451 hW_3454 FR.rf (by rw [fe_3731] <;> first | omega | (simp only [Int32.lt_iff_toInt_lt, Int32.le_iff_toInt_le, Int32.reduceToInt, ← Int32.toInt_inj, true_and, and_true, or_true, true_or, false_or, or_false, false_and, and_false, not_true_eq_false, not_false_eq_true] <;> omega)) (by rw [fe_3732, fe_3733] <;> first | omega | (simp only [Int32.lt_iff_toInt_lt, Int32.le_iff_toInt_le, Int32.reduceToInt, ← Int32.toInt_inj, true_and, and_true, or_true, true_or, false_or, or_false, false_and, and_false, not_true_eq_false, not_false_eq_true] <;> omega)) (by rw [fe_3734] <;> first | omega | (simp only [Int32.lt_iff_toInt_lt, Int32.le_iff_toInt_le, Int32.reduceToInt, ← Int32.toInt_inj, true_and, and_true, or_true, true_or, false_or, or_false, false_and, and_false, not_true_eq_false, not_false_eq_true] <;> omega)) (by rw [fe_3735] <;> first | omega | (simp only [Int32.lt_iff_toInt_lt, Int32.le_iff_toInt_le, Int32.reduceToInt, ← Int32.toInt_inj, true_and, and_true, or_true, true_or, false_or, or_false, false_and, and_false, not_true_eq_false, not_false_eq_true] <;> omega)) (by rw [h_3736]; omega)
          · simp only [Int32.lt_iff_toInt_lt, Int32.le_iff_toInt_le, Int32.reduceToInt, ← Int32.toInt_inj] at h_2916
            refine v_aload_n hC dX12_advance_61 rfl ?_
            refine v_iconst hC dX12_advance_62 (v := 0) (by decide) ?_
            refine v_put hC fl_X12_120 m_1 hf_2898 rfl rfl (Nat.le_of_ble_eq_true rfl) (fs' := [.int v_2821, .ref (q 1), .ref (q 2), .ref (q 3), .ref (q 4), .int v_2822, .ref (q 6), .int v_2824, .int v_2826, .int v_2826, .int 0, .int v_2832, .int v_2833, .int v_2834, .ref (q 14), .ref (q 15), .ref (q 16), .int v_2835, .ref (q 18), .ref (q 19), .int v_2837, .ref (q 21), .ref (q 22), .ref (q 23), .ref (q 24), .ref (q 25), .ref (q 26), .ref (q 27), .ref (q 28)]) rfl dX12_advance_63 (fun f_3737 hf_3738 hk_3739 => ?_)
            have hW_3740 := hW_2900.up hf_3738 hk_3739 t_2 ⟨v_2821, v_2822, v_2824, v_2826, v_2826, 0, v_2832, v_2833, v_2834, v_2835, v_2837, rfl, (by first | omega | (simp only [Int32.lt_iff_toInt_lt, Int32.le_iff_toInt_le, Int32.reduceToInt, ← Int32.toInt_inj, true_and, and_true, or_true, true_or, false_or, or_false, false_and, and_false, not_true_eq_false, not_false_eq_true] <;> omega)), (by first | omega | (simp only [Int32.lt_iff_toInt_lt, Int32.le_iff_toInt_le, Int32.reduceToInt, ← Int32.toInt_inj, true_and, and_true, or_true, true_or, false_or, or_false, false_and, and_false, not_true_eq_false, not_false_eq_true] <;> omega)), (by first | omega | (simp only [Int32.lt_iff_toInt_lt, Int32.le_iff_toInt_le, Int32.reduceToInt, ← Int32.toInt_inj, true_and, and_true, or_true, true_or, false_or, or_false, false_and, and_false, not_true_eq_false, not_false_eq_true] <;> omega)), (by first | omega | (simp only [Int32.lt_iff_toInt_lt, Int32.le_iff_toInt_le, Int32.reduceToInt, ← Int32.toInt_inj, true_and, and_true, or_true, true_or, false_or, or_false, false_and, and_false, not_true_eq_false, not_false_eq_true] <;> omega)), (by decide), (by first | omega | (simp only [Int32.lt_iff_toInt_lt, Int32.le_iff_toInt_le, Int32.reduceToInt, ← Int32.toInt_inj, true_and, and_true, or_true, true_or, false_or, or_false, false_and, and_false, not_true_eq_false, not_false_eq_true] <;> omega)), (by first | omega | (simp only [Int32.lt_iff_toInt_lt, Int32.le_iff_toInt_le, Int32.reduceToInt, ← Int32.toInt_inj, true_and, and_true, or_true, true_or, false_or, or_false, false_and, and_false, not_true_eq_false, not_false_eq_true] <;> omega))⟩
            have hf_3741 := (hk_3739 (q 4) (ne_kd e_2912 hf_2898 rfl)).trans e_2912
            have fr_3742 := FR.w hk_3739 hf_2898 (k := 12) rfl
            refine v_goto hC dX12_advance_66 (tgt := 240) (by decide) ?_
            have fe_3743 : fld (f_3737 a_0) 8 = (v_2826 : Int32).toInt := by rw [hf_3738]; rfl
            have fe_3744 : fld (f_3737 a_0) 9 = (v_2826 : Int32).toInt := by rw [hf_3738]; rfl
            have fe_3745 : fld (f_3737 a_0) 8 = (v_2826 : Int32).toInt := by rw [hf_3738]; rfl
            have fe_3746 : fld (f_3737 a_0) 9 = (v_2826 : Int32).toInt := by rw [hf_3738]; rfl
            have fe_3747 : fld (f_3737 a_0) 10 = (0 : Int32).toInt := by rw [hf_3738]; rfl
            simp only [Int32.reduceToInt] at fe_3747
            have fe_3748 : fld (f_3737 a_0) 12 = (v_2833 : Int32).toInt := by rw [hf_3738]; rfl
            have fe_3749 : fld (f_3737 a_0) 20 = (v_2837 : Int32).toInt := by rw [hf_3738]; rfl
            exact hR _ _ _ _ _ _ dX12_advance_240 (Nat.le_of_ble_eq_true rfl) (Nat.le_of_ble_eq_true rfl) ⟨rfl, hW_3740, (((hF_2812.tr fr_2901).tr fr_3742).mono rfl), (by simp only [fe_3743, fe_3744, mz_41, true_and, and_true, or_true, true_or, false_or, or_false, false_and, and_false, not_true_eq_false, not_false_eq_true] <;> first | omega | (simp only [Int32.lt_iff_toInt_lt, Int32.le_iff_toInt_le, Int32.reduceToInt, ← Int32.toInt_inj, true_and, and_true, or_true, true_or, false_or, or_false, false_and, and_false, not_true_eq_false, not_false_eq_true] <;> omega)), (by simp only [fe_3745, fe_3746, fe_3747, true_and, and_true, or_true, true_or, false_or, or_false, false_and, and_false, not_true_eq_false, not_false_eq_true] <;> first | omega | (simp only [Int32.lt_iff_toInt_lt, Int32.le_iff_toInt_le, Int32.reduceToInt, ← Int32.toInt_inj, true_and, and_true, or_true, true_or, false_or, or_false, false_and, and_false, not_true_eq_false, not_false_eq_true] <;> omega)), (by simp only [fe_3748, mz_42, true_and, and_true, or_true, true_or, false_or, or_false, false_and, and_false, not_true_eq_false, not_false_eq_true] <;> first | omega | (simp only [Int32.lt_iff_toInt_lt, Int32.le_iff_toInt_le, Int32.reduceToInt, ← Int32.toInt_inj, true_and, and_true, or_true, true_or, false_or, or_false, false_and, and_false, not_true_eq_false, not_false_eq_true] <;> omega)), (by simp only [fe_3749, mz_43, true_and, and_true, or_true, true_or, false_or, or_false, false_and, and_false, not_true_eq_false, not_false_eq_true] <;> first | omega | (simp only [Int32.lt_iff_toInt_lt, Int32.le_iff_toInt_le, Int32.reduceToInt, ← Int32.toInt_inj, true_and, and_true, or_true, true_or, false_or, or_false, false_and, and_false, not_true_eq_false, not_false_eq_true] <;> omega))⟩
        · simp only [Int32.lt_iff_toInt_lt, Int32.le_iff_toInt_le, Int32.reduceToInt, ← Int32.toInt_inj] at h_2884
          refine v_aload_n hC dX12_advance_26 rfl ?_
          refine v_dup hC dX12_advance_27 rfl ?_
          refine v_get hC fl_X12_108 m_1 e_2820 rfl dX12_advance_28 ?_
          refine v_iconst hC dX12_advance_31 (v := 1) (by decide) ?_
          obtain ⟨v_3750, h_3751⟩ : ∃ v9 : Int32, v_2826 + 1 = v9 := ⟨_, rfl⟩
          refine v_iadd hC dX12_advance_32 h_3751 ?_
          have h_3752 := add_v h_3751 (by first | omega | (simp only [Int32.lt_iff_toInt_lt, Int32.le_iff_toInt_le, Int32.reduceToInt, ← Int32.toInt_inj, true_and, and_true, or_true, true_or, false_or, or_false, false_and, and_false, not_true_eq_false, not_false_eq_true] <;> omega)) (by first | omega | (simp only [Int32.lt_iff_toInt_lt, Int32.le_iff_toInt_le, Int32.reduceToInt, ← Int32.toInt_inj, true_and, and_true, or_true, true_or, false_or, or_false, false_and, and_false, not_true_eq_false, not_false_eq_true] <;> omega))
          try simp only [Int32.reduceToInt] at h_3752
          refine v_put hC fl_X12_108 m_1 e_2820 rfl rfl (Nat.le_of_ble_eq_true rfl) (fs' := [.int v_2821, .ref (q 1), .ref (q 2), .ref (q 3), .ref (q 4), .int v_2822, .ref (q 6), .int v_2824, .int v_3750, .int v_2828, .int v_2830, .int v_2832, .int v_2833, .int v_2834, .ref (q 14), .ref (q 15), .ref (q 16), .int v_2835, .ref (q 18), .ref (q 19), .int v_2837, .ref (q 21), .ref (q 22), .ref (q 23), .ref (q 24), .ref (q 25), .ref (q 26), .ref (q 27), .ref (q 28)]) rfl dX12_advance_33 (fun f_3753 hf_3754 hk_3755 => ?_)
          have hW_3756 := hW_2811.up hf_3754 hk_3755 t_2 ⟨v_2821, v_2822, v_2824, v_3750, v_2828, v_2830, v_2832, v_2833, v_2834, v_2835, v_2837, rfl, (by first | omega | (simp only [Int32.lt_iff_toInt_lt, Int32.le_iff_toInt_le, Int32.reduceToInt, ← Int32.toInt_inj, true_and, and_true, or_true, true_or, false_or, or_false, false_and, and_false, not_true_eq_false, not_false_eq_true] <;> omega)), (by first | omega | (simp only [Int32.lt_iff_toInt_lt, Int32.le_iff_toInt_le, Int32.reduceToInt, ← Int32.toInt_inj, true_and, and_true, or_true, true_or, false_or, or_false, false_and, and_false, not_true_eq_false, not_false_eq_true] <;> omega)), (by first | omega | (simp only [Int32.lt_iff_toInt_lt, Int32.le_iff_toInt_le, Int32.reduceToInt, ← Int32.toInt_inj, true_and, and_true, or_true, true_or, false_or, or_false, false_and, and_false, not_true_eq_false, not_false_eq_true] <;> omega)), (by first | omega | (simp only [Int32.lt_iff_toInt_lt, Int32.le_iff_toInt_le, Int32.reduceToInt, ← Int32.toInt_inj, true_and, and_true, or_true, true_or, false_or, or_false, false_and, and_false, not_true_eq_false, not_false_eq_true] <;> omega)), (by first | omega | (simp only [Int32.lt_iff_toInt_lt, Int32.le_iff_toInt_le, Int32.reduceToInt, ← Int32.toInt_inj, true_and, and_true, or_true, true_or, false_or, or_false, false_and, and_false, not_true_eq_false, not_false_eq_true] <;> omega)), (by first | omega | (simp only [Int32.lt_iff_toInt_lt, Int32.le_iff_toInt_le, Int32.reduceToInt, ← Int32.toInt_inj, true_and, and_true, or_true, true_or, false_or, or_false, false_and, and_false, not_true_eq_false, not_false_eq_true] <;> omega)), (by first | omega | (simp only [Int32.lt_iff_toInt_lt, Int32.le_iff_toInt_le, Int32.reduceToInt, ← Int32.toInt_inj, true_and, and_true, or_true, true_or, false_or, or_false, false_and, and_false, not_true_eq_false, not_false_eq_true] <;> omega))⟩
          have fr_3757 := FR.w hk_3755 e_2820 (k := 12) rfl
          refine v_goto hC dX12_advance_36 (tgt := 0) (by decide) ?_
          refine v_pick [0] rfl ?_
          have fe_3758 : fld (f_3753 a_0) 8 = (v_3750 : Int32).toInt := by rw [hf_3754]; rfl
          have fe_3759 : fld (f_3753 a_0) 12 = (v_2833 : Int32).toInt := by rw [hf_3754]; rfl
          have fe_3760 : fld (f_3753 a_0) 20 = (v_2837 : Int32).toInt := by rw [hf_3754]; rfl
          have h_3761 : fld (f_3753 a_0) 8 = (v_3750 : Int32).toInt := by rw [hf_3754]; rfl
          exact ih_2818 f_3753 hW_3756 ((hF_2812.tr fr_3757).mono rfl) (by rw [fe_3758] <;> first | omega | (simp only [Int32.lt_iff_toInt_lt, Int32.le_iff_toInt_le, Int32.reduceToInt, ← Int32.toInt_inj, true_and, and_true, or_true, true_or, false_or, or_false, false_and, and_false, not_true_eq_false, not_false_eq_true] <;> omega)) (by rw [fe_3759] <;> first | omega | (simp only [Int32.lt_iff_toInt_lt, Int32.le_iff_toInt_le, Int32.reduceToInt, ← Int32.toInt_inj, true_and, and_true, or_true, true_or, false_or, or_false, false_and, and_false, not_true_eq_false, not_false_eq_true] <;> omega)) (by rw [fe_3760] <;> first | omega | (simp only [Int32.lt_iff_toInt_lt, Int32.le_iff_toInt_le, Int32.reduceToInt, ← Int32.toInt_inj, true_and, and_true, or_true, true_or, false_or, or_false, false_and, and_false, not_true_eq_false, not_false_eq_true] <;> omega)) (by rw [h_3761]; omega)
  refine v_pick [0] rfl ?_
  have fe_3762 : fld (f a_0) 8 = (v_28 : Int32).toInt := by rw [e_22]; rfl
  have fe_3763 : fld (f a_0) 12 = (v_35 : Int32).toInt := by rw [e_22]; rfl
  have fe_3764 : fld (f a_0) 20 = (v_39 : Int32).toInt := by rw [e_22]; rfl
  have h_3765 : fld (f a_0) 8 = (v_28 : Int32).toInt := by rw [e_22]; rfl
  exact lp_2816 602 f hW FR.rf (by rw [fe_3762] <;> first | omega | (simp only [Int32.lt_iff_toInt_lt, Int32.le_iff_toInt_le, Int32.reduceToInt, ← Int32.toInt_inj, true_and, and_true, or_true, true_or, false_or, or_false, false_and, and_false, not_true_eq_false, not_false_eq_true] <;> omega)) (by rw [fe_3763] <;> first | omega | (simp only [Int32.lt_iff_toInt_lt, Int32.le_iff_toInt_le, Int32.reduceToInt, ← Int32.toInt_inj, true_and, and_true, or_true, true_or, false_or, or_false, false_and, and_false, not_true_eq_false, not_false_eq_true] <;> omega)) (by rw [fe_3764] <;> first | omega | (simp only [Int32.lt_iff_toInt_lt, Int32.le_iff_toInt_le, Int32.reduceToInt, ← Int32.toInt_inj, true_and, and_true, or_true, true_or, false_or, or_false, false_and, and_false, not_true_eq_false, not_false_eq_true] <;> omega)) (by rw [h_3765]; omega)
set_option maxRecDepth 100000 in
set_option maxHeartbeats 1500000 in
theorem p_X12_takes {l : Launch} {E : Ez} {L : List Nat} {f : Nat → va_E} {T : Nat → va_E → Prop} {a_0 : Nat} {a_1 : Nat} {q : Nat → Nat} (hW : WT T L f) (k_0 : isM T L E a_0 q) (ha_1 : a_1 < 77) : CI l yX12_takes cX12_takes 3 .boolean 5 0 0 E [.ref a_0, .ref (eK E a_1)] L f (fun r L1 f1 => L = L1 ∧ WT T L f1 ∧ FR [12] f f1 ∧ r = (iw (f a_0) (f (q 4)) a_1) ∧ ((iw (f a_0) (f (q 4)) a_1).toInt = 0 ∨ ((fld (f a_0) 8 ≤ fld (f1 a_0) 9 ∧ fld (f1 a_0) 9 ≤ fld (f1 a_0) 8) ∧ (fld (f1 a_0) 10 = 0 ∨ fld (f1 a_0) 9 < fld (f1 a_0) 8))) ∧ (¬ (iw (f a_0) (f (q 4)) a_1).toInt = 0 ∨ (fld (f1 a_0) 8 = fld (f a_0) 8 ∧ fld (f1 a_0) 9 = fld (f a_0) 9 ∧ fld (f1 a_0) 10 = fld (f a_0) 10)) ∧ fld (f1 a_0) 12 = fld (f a_0) 12 ∧ fld (f1 a_0) 20 = fld (f a_0) 20) := by
  refine ci_of (by decide) (Nat.le_of_ble_eq_true rfl) (fun z hz hnm hC hR => ?_)
  have hC : Cx z E cX12_takes RX12 3 5 0 0 := hC
  subst hz
  show V z E 3 0 0 L f 0 [(0, .ref a_0), (1, .ref (eK E a_1))] []
  obtain ⟨m_1, t_2, nq_21, k_3, k_4, k_5, k_6, k_7, k_8, k_9, k_10, k_11, k_12, k_13, k_14, k_15, k_16, k_17, k_18, k_19, k_20⟩ := id k_0
  obtain ⟨v_23, v_24, v_26, v_28, v_30, v_32, v_34, v_35, v_36, v_37, v_39, e_22, b_25, b_27, b_29, b_31, b_33, b_38, b_40⟩ := hW.at m_1 t_2
  have mz_41 : fld (f a_0) 8 = v_28.toInt := by rw [e_22]; rfl
  have mz_42 : fld (f a_0) 9 = v_30.toInt := by rw [e_22]; rfl
  have mz_43 : fld (f a_0) 10 = v_32.toInt := by rw [e_22]; rfl
  have mz_44 : fld (f a_0) 12 = v_35.toInt := by rw [e_22]; rfl
  have mz_45 : fld (f a_0) 20 = v_39.toInt := by rw [e_22]; rfl
  refine v_aload_n hC dX12_takes_0 rfl ?_
  refine v_aload_n hC dX12_takes_1 rfl ?_
  refine v_vi hC (rest := []) m_1 e_22 rfl mi_X12_is ms_X12_is (p_X12_is hW k_0 ha_1) mx_X12_is ml_X12_152 (by decide) rfl (cells1 := 0) (slots1 := 0) (by decide) (by decide) (Nat.le_of_ble_eq_true rfl) (Nat.le_of_ble_eq_true rfl) rfl (Nat.le_of_ble_eq_true rfl) dX12_takes_2 (fun r_46 L_47 f_48 h_49 => ?_)
  obtain ⟨rfl, rfl, rfl⟩ := h_49
  have fe_52 : fld (f a_0) 8 = (v_28 : Int32).toInt := by rw [e_22]; rfl
  have fe_53 : fld (f a_0) 9 = (v_30 : Int32).toInt := by rw [e_22]; rfl
  have fe_54 : fld (f a_0) 10 = (v_32 : Int32).toInt := by rw [e_22]; rfl
  have fe_55 : fld (f a_0) 12 = (v_35 : Int32).toInt := by rw [e_22]; rfl
  have ib_56 := iw_b (f a_0) (f (q 4)) a_1
  rw [fe_55, fe_54, fe_52, fe_53] at ib_56
  clear fe_52 fe_53 fe_54 fe_55
  refine v_istore_n hC dX12_takes_5 (by decide) (lv' := [(2, .int (iw (f a_0) (f (q 4)) a_1)), (0, .ref a_0), (1, .ref (eK E a_1))]) rfl ?_
  refine v_iload_n hC dX12_takes_6 rfl ?_
  refine v_if_eq hC dX12_takes_7 (tgt := 14) (by decide) (fun h_57 => ?_) (fun h_57 => ?_)
  · simp only [Int32.lt_iff_toInt_lt, Int32.le_iff_toInt_le, Int32.reduceToInt, ← Int32.toInt_inj] at h_57
    refine v_iload_n hC dX12_takes_14 rfl ?_
    have fe_58 : fld (f a_0) 8 = (v_28 : Int32).toInt := by rw [e_22]; rfl
    have fe_59 : fld (f a_0) 9 = (v_30 : Int32).toInt := by rw [e_22]; rfl
    have fe_60 : fld (f a_0) 10 = (v_32 : Int32).toInt := by rw [e_22]; rfl
    have fe_61 : fld (f a_0) 8 = (v_28 : Int32).toInt := by rw [e_22]; rfl
    have fe_62 : fld (f a_0) 9 = (v_30 : Int32).toInt := by rw [e_22]; rfl
    have fe_63 : fld (f a_0) 10 = (v_32 : Int32).toInt := by rw [e_22]; rfl
    have fe_64 : fld (f a_0) 12 = (v_35 : Int32).toInt := by rw [e_22]; rfl
    have fe_65 : fld (f a_0) 20 = (v_39 : Int32).toInt := by rw [e_22]; rfl
    exact hR _ _ _ _ _ _ _ dX12_takes_15 (nar01 (by first | omega | (simp only [Int32.lt_iff_toInt_lt, Int32.le_iff_toInt_le, Int32.reduceToInt, ← Int32.toInt_inj, true_and, and_true, or_true, true_or, false_or, or_false, false_and, and_false, not_true_eq_false, not_false_eq_true] <;> omega))) (Nat.le_of_ble_eq_true rfl) (Nat.le_of_ble_eq_true rfl) ⟨rfl, hW, FR.rf, rfl, (by simp only [fe_58, fe_59, fe_60, mz_41, true_and, and_true, or_true, true_or, false_or, or_false, false_and, and_false, not_true_eq_false, not_false_eq_true] <;> first | omega | (simp only [Int32.lt_iff_toInt_lt, Int32.le_iff_toInt_le, Int32.reduceToInt, ← Int32.toInt_inj, true_and, and_true, or_true, true_or, false_or, or_false, false_and, and_false, not_true_eq_false, not_false_eq_true] <;> omega)), (by simp only [fe_61, fe_62, fe_63, mz_41, mz_42, mz_43, true_and, and_true, or_true, true_or, false_or, or_false, false_and, and_false, not_true_eq_false, not_false_eq_true] <;> first | omega | (simp only [Int32.lt_iff_toInt_lt, Int32.le_iff_toInt_le, Int32.reduceToInt, ← Int32.toInt_inj, true_and, and_true, or_true, true_or, false_or, or_false, false_and, and_false, not_true_eq_false, not_false_eq_true] <;> omega)), (by simp only [fe_64, mz_44, true_and, and_true, or_true, true_or, false_or, or_false, false_and, and_false, not_true_eq_false, not_false_eq_true] <;> first | omega | (simp only [Int32.lt_iff_toInt_lt, Int32.le_iff_toInt_le, Int32.reduceToInt, ← Int32.toInt_inj, true_and, and_true, or_true, true_or, false_or, or_false, false_and, and_false, not_true_eq_false, not_false_eq_true] <;> omega)), (by simp only [fe_65, mz_45, true_and, and_true, or_true, true_or, false_or, or_false, false_and, and_false, not_true_eq_false, not_false_eq_true] <;> first | omega | (simp only [Int32.lt_iff_toInt_lt, Int32.le_iff_toInt_le, Int32.reduceToInt, ← Int32.toInt_inj, true_and, and_true, or_true, true_or, false_or, or_false, false_and, and_false, not_true_eq_false, not_false_eq_true] <;> omega))⟩
  · simp only [Int32.lt_iff_toInt_lt, Int32.le_iff_toInt_le, Int32.reduceToInt, ← Int32.toInt_inj] at h_57
    refine v_aload_n hC dX12_takes_10 rfl ?_
    refine v_vv hC (rest := []) m_1 e_22 rfl mi_X12_advance ms_X12_advance (p_X12_advance hW k_0) mx_X12_advance ml_X12_156 (by decide) rfl (cells1 := 0) (slots1 := 0) (by decide) (by decide) (Nat.le_of_ble_eq_true rfl) (Nat.le_of_ble_eq_true rfl) rfl (Nat.le_of_ble_eq_true rfl) dX12_takes_11 (fun L_67 f_68 h_69 => ?_)
    obtain ⟨rfl, hW_74, hF_75, x_70, x_71, x_72, x_73⟩ := h_69
    have fe_76 : fld (f a_0) 8 = (v_28 : Int32).toInt := by rw [e_22]; rfl
    have fe_77 : fld (f a_0) 12 = (v_35 : Int32).toInt := by rw [e_22]; rfl
    have fe_78 : fld (f a_0) 20 = (v_39 : Int32).toInt := by rw [e_22]; rfl
    obtain ⟨v_80, v_81, v_83, v_85, v_87, v_89, v_91, v_92, v_93, v_94, v_96, e_79, b_82, b_84, b_86, b_88, b_90, b_95, b_97⟩ := hW_74.at m_1 t_2
    have fe_98 : fld (f_68 a_0) 8 = (v_85 : Int32).toInt := by rw [e_79]; rfl
    have fe_99 : fld (f_68 a_0) 9 = (v_87 : Int32).toInt := by rw [e_79]; rfl
    have fe_100 : fld (f_68 a_0) 10 = (v_89 : Int32).toInt := by rw [e_79]; rfl
    have fe_101 : fld (f_68 a_0) 12 = (v_92 : Int32).toInt := by rw [e_79]; rfl
    have fe_102 : fld (f_68 a_0) 20 = (v_96 : Int32).toInt := by rw [e_79]; rfl
    rw [fe_76, fe_99, fe_98] at x_70
    rw [fe_100, fe_99, fe_98] at x_71
    rw [fe_101, fe_77] at x_72
    rw [fe_102, fe_78] at x_73
    clear fe_76 fe_77 fe_78 fe_98 fe_99 fe_100 fe_101 fe_102
    refine v_iload_n hC dX12_takes_14 rfl ?_
    have fe_103 : fld (f_68 a_0) 8 = (v_85 : Int32).toInt := by rw [e_79]; rfl
    have fe_104 : fld (f_68 a_0) 9 = (v_87 : Int32).toInt := by rw [e_79]; rfl
    have fe_105 : fld (f_68 a_0) 10 = (v_89 : Int32).toInt := by rw [e_79]; rfl
    have fe_106 : fld (f_68 a_0) 8 = (v_85 : Int32).toInt := by rw [e_79]; rfl
    have fe_107 : fld (f_68 a_0) 9 = (v_87 : Int32).toInt := by rw [e_79]; rfl
    have fe_108 : fld (f_68 a_0) 10 = (v_89 : Int32).toInt := by rw [e_79]; rfl
    have fe_109 : fld (f_68 a_0) 12 = (v_92 : Int32).toInt := by rw [e_79]; rfl
    have fe_110 : fld (f_68 a_0) 20 = (v_96 : Int32).toInt := by rw [e_79]; rfl
    exact hR _ _ _ _ _ _ _ dX12_takes_15 (nar01 (by first | omega | (simp only [Int32.lt_iff_toInt_lt, Int32.le_iff_toInt_le, Int32.reduceToInt, ← Int32.toInt_inj, true_and, and_true, or_true, true_or, false_or, or_false, false_and, and_false, not_true_eq_false, not_false_eq_true] <;> omega))) (Nat.le_of_ble_eq_true rfl) (Nat.le_of_ble_eq_true rfl) ⟨rfl, hW_74, (hF_75.mono rfl), rfl, (by simp only [fe_103, fe_104, fe_105, mz_41, true_and, and_true, or_true, true_or, false_or, or_false, false_and, and_false, not_true_eq_false, not_false_eq_true] <;> first | omega | (simp only [Int32.lt_iff_toInt_lt, Int32.le_iff_toInt_le, Int32.reduceToInt, ← Int32.toInt_inj, true_and, and_true, or_true, true_or, false_or, or_false, false_and, and_false, not_true_eq_false, not_false_eq_true] <;> omega)), (by simp only [fe_106, fe_107, fe_108, mz_41, mz_42, mz_43, true_and, and_true, or_true, true_or, false_or, or_false, false_and, and_false, not_true_eq_false, not_false_eq_true] <;> first | omega | (simp only [Int32.lt_iff_toInt_lt, Int32.le_iff_toInt_le, Int32.reduceToInt, ← Int32.toInt_inj, true_and, and_true, or_true, true_or, false_or, or_false, false_and, and_false, not_true_eq_false, not_false_eq_true] <;> omega)), (by simp only [fe_109, mz_44, true_and, and_true, or_true, true_or, false_or, or_false, false_and, and_false, not_true_eq_false, not_false_eq_true] <;> first | omega | (simp only [Int32.lt_iff_toInt_lt, Int32.le_iff_toInt_le, Int32.reduceToInt, ← Int32.toInt_inj, true_and, and_true, or_true, true_or, false_or, or_false, false_and, and_false, not_true_eq_false, not_false_eq_true] <;> omega)), (by simp only [fe_110, mz_45, true_and, and_true, or_true, true_or, false_or, or_false, false_and, and_false, not_true_eq_false, not_false_eq_true] <;> first | omega | (simp only [Int32.lt_iff_toInt_lt, Int32.le_iff_toInt_le, Int32.reduceToInt, ← Int32.toInt_inj, true_and, and_true, or_true, true_or, false_or, or_false, false_and, and_false, not_true_eq_false, not_false_eq_true] <;> omega))⟩
set_option maxRecDepth 100000 in
set_option maxHeartbeats 1500000 in
theorem p_X12_errs {l : Launch} {E : Ez} {L : List Nat} {f : Nat → va_E} {T : Nat → va_E → Prop} {a_0 : Nat} {a_1 : Int32} {q : Nat → Nat} (hW : WT T L f) (k_0 : isM T L E a_0 q) (g_1 : (1 ≤ a_1.toInt ∧ a_1.toInt ≤ 3)) : CV l yX12_errs cX12_errs 2 1 0 0 E [.ref a_0, .int a_1] L f (fun L1 f1 => L = L1 ∧ WT T L f1 ∧ FR [12] f f1 ∧ ¬ fld (f1 a_0) 12 = 0 ∧ fld (f1 a_0) 8 = fld (f a_0) 8 ∧ fld (f1 a_0) 9 = fld (f a_0) 9 ∧ fld (f1 a_0) 10 = fld (f a_0) 10 ∧ fld (f1 a_0) 20 = fld (f a_0) 20) := by
  refine cv_of (by decide) (Nat.le_of_ble_eq_true rfl) (fun z hz hnm hC hR => ?_)
  have hC : Cx z E cX12_errs RX12 2 1 0 0 := hC
  subst hz
  show V z E 2 0 0 L f 0 [(0, .ref a_0), (1, .int a_1)] []
  obtain ⟨m_1, t_2, nq_21, k_3, k_4, k_5, k_6, k_7, k_8, k_9, k_10, k_11, k_12, k_13, k_14, k_15, k_16, k_17, k_18, k_19, k_20⟩ := id k_0
  obtain ⟨v_23, v_24, v_26, v_28, v_30, v_32, v_34, v_35, v_36, v_37, v_39, e_22, b_25, b_27, b_29, b_31, b_33, b_38, b_40⟩ := hW.at m_1 t_2
  have mz_41 : fld (f a_0) 8 = v_28.toInt := by rw [e_22]; rfl
  have mz_42 : fld (f a_0) 9 = v_30.toInt := by rw [e_22]; rfl
  have mz_43 : fld (f a_0) 10 = v_32.toInt := by rw [e_22]; rfl
  have mz_44 : fld (f a_0) 20 = v_39.toInt := by rw [e_22]; rfl
  refine v_aload_n hC dX12_errs_0 rfl ?_
  refine v_vi hC (rest := []) m_1 e_22 rfl mi_X12_good ms_X12_good (p_X12_good hW k_0) mx_X12_good ml_X12_139 (by decide) rfl (cells1 := 0) (slots1 := 0) (by decide) (by decide) (Nat.le_of_ble_eq_true rfl) (Nat.le_of_ble_eq_true rfl) rfl (Nat.le_of_ble_eq_true rfl) dX12_errs_1 (fun r_45 L_46 f_47 h_48 => ?_)
  obtain ⟨rfl, rfl, b_49, x_50⟩ := h_48
  have fe_53 : fld (f a_0) 12 = (v_35 : Int32).toInt := by rw [e_22]; rfl
  rw [fe_53] at x_50
  clear fe_53
  try simp only [Int32.reduceToInt, Int64.reduceToInt] at x_50
  refine v_if_ne hC dX12_errs_4 (tgt := 8) (by decide) (fun h_54 => ?_) (fun h_54 => ?_)
  · simp only [Int32.lt_iff_toInt_lt, Int32.le_iff_toInt_le, Int32.reduceToInt, ← Int32.toInt_inj] at h_54
    refine v_aload_n hC dX12_errs_8 rfl ?_
    refine v_iload_n hC dX12_errs_9 rfl ?_
    refine v_put hC fl_X12_111 m_1 e_22 rfl rfl (Nat.le_of_ble_eq_true rfl) (fs' := [.int v_23, .ref (q 1), .ref (q 2), .ref (q 3), .ref (q 4), .int v_24, .ref (q 6), .int v_26, .int v_28, .int v_30, .int v_32, .int v_34, .int a_1, .int v_36, .ref (q 14), .ref (q 15), .ref (q 16), .int v_37, .ref (q 18), .ref (q 19), .int v_39, .ref (q 21), .ref (q 22), .ref (q 23), .ref (q 24), .ref (q 25), .ref (q 26), .ref (q 27), .ref (q 28)]) rfl dX12_errs_10 (fun f_55 hf_56 hk_57 => ?_)
    have hW_58 := hW.up hf_56 hk_57 t_2 ⟨v_23, v_24, v_26, v_28, v_30, v_32, v_34, a_1, v_36, v_37, v_39, rfl, (by first | omega | (simp only [Int32.lt_iff_toInt_lt, Int32.le_iff_toInt_le, Int32.reduceToInt, ← Int32.toInt_inj, true_and, and_true, or_true, true_or, false_or, or_false, false_and, and_false, not_true_eq_false, not_false_eq_true] <;> omega)), (by first | omega | (simp only [Int32.lt_iff_toInt_lt, Int32.le_iff_toInt_le, Int32.reduceToInt, ← Int32.toInt_inj, true_and, and_true, or_true, true_or, false_or, or_false, false_and, and_false, not_true_eq_false, not_false_eq_true] <;> omega)), (by first | omega | (simp only [Int32.lt_iff_toInt_lt, Int32.le_iff_toInt_le, Int32.reduceToInt, ← Int32.toInt_inj, true_and, and_true, or_true, true_or, false_or, or_false, false_and, and_false, not_true_eq_false, not_false_eq_true] <;> omega)), (by first | omega | (simp only [Int32.lt_iff_toInt_lt, Int32.le_iff_toInt_le, Int32.reduceToInt, ← Int32.toInt_inj, true_and, and_true, or_true, true_or, false_or, or_false, false_and, and_false, not_true_eq_false, not_false_eq_true] <;> omega)), (by first | omega | (simp only [Int32.lt_iff_toInt_lt, Int32.le_iff_toInt_le, Int32.reduceToInt, ← Int32.toInt_inj, true_and, and_true, or_true, true_or, false_or, or_false, false_and, and_false, not_true_eq_false, not_false_eq_true] <;> omega)), (by first | omega | (simp only [Int32.lt_iff_toInt_lt, Int32.le_iff_toInt_le, Int32.reduceToInt, ← Int32.toInt_inj, true_and, and_true, or_true, true_or, false_or, or_false, false_and, and_false, not_true_eq_false, not_false_eq_true] <;> omega)), (by first | omega | (simp only [Int32.lt_iff_toInt_lt, Int32.le_iff_toInt_le, Int32.reduceToInt, ← Int32.toInt_inj, true_and, and_true, or_true, true_or, false_or, or_false, false_and, and_false, not_true_eq_false, not_false_eq_true] <;> omega))⟩
    have fr_59 := FR.w hk_57 e_22 (k := 12) rfl
    refine v_aload_n hC dX12_errs_13 rfl ?_
    refine v_aload_n hC dX12_errs_14 rfl ?_
    refine v_get hC fl_X12_117 m_1 hf_56 rfl dX12_errs_15 ?_
    refine v_put hC fl_X12_31 m_1 hf_56 rfl rfl (Nat.le_of_ble_eq_true rfl) (fs' := [.int v_23, .ref (q 1), .ref (q 2), .ref (q 3), .ref (q 4), .int v_24, .ref (q 6), .int v_26, .int v_28, .int v_30, .int v_32, .int v_34, .int a_1, .int v_30, .ref (q 14), .ref (q 15), .ref (q 16), .int v_37, .ref (q 18), .ref (q 19), .int v_39, .ref (q 21), .ref (q 22), .ref (q 23), .ref (q 24), .ref (q 25), .ref (q 26), .ref (q 27), .ref (q 28)]) rfl dX12_errs_18 (fun f_60 hf_61 hk_62 => ?_)
    have hW_63 := hW_58.up hf_61 hk_62 t_2 ⟨v_23, v_24, v_26, v_28, v_30, v_32, v_34, a_1, v_30, v_37, v_39, rfl, (by first | omega | (simp only [Int32.lt_iff_toInt_lt, Int32.le_iff_toInt_le, Int32.reduceToInt, ← Int32.toInt_inj, true_and, and_true, or_true, true_or, false_or, or_false, false_and, and_false, not_true_eq_false, not_false_eq_true] <;> omega)), (by first | omega | (simp only [Int32.lt_iff_toInt_lt, Int32.le_iff_toInt_le, Int32.reduceToInt, ← Int32.toInt_inj, true_and, and_true, or_true, true_or, false_or, or_false, false_and, and_false, not_true_eq_false, not_false_eq_true] <;> omega)), (by first | omega | (simp only [Int32.lt_iff_toInt_lt, Int32.le_iff_toInt_le, Int32.reduceToInt, ← Int32.toInt_inj, true_and, and_true, or_true, true_or, false_or, or_false, false_and, and_false, not_true_eq_false, not_false_eq_true] <;> omega)), (by first | omega | (simp only [Int32.lt_iff_toInt_lt, Int32.le_iff_toInt_le, Int32.reduceToInt, ← Int32.toInt_inj, true_and, and_true, or_true, true_or, false_or, or_false, false_and, and_false, not_true_eq_false, not_false_eq_true] <;> omega)), (by first | omega | (simp only [Int32.lt_iff_toInt_lt, Int32.le_iff_toInt_le, Int32.reduceToInt, ← Int32.toInt_inj, true_and, and_true, or_true, true_or, false_or, or_false, false_and, and_false, not_true_eq_false, not_false_eq_true] <;> omega)), (by first | omega | (simp only [Int32.lt_iff_toInt_lt, Int32.le_iff_toInt_le, Int32.reduceToInt, ← Int32.toInt_inj, true_and, and_true, or_true, true_or, false_or, or_false, false_and, and_false, not_true_eq_false, not_false_eq_true] <;> omega)), (by first | omega | (simp only [Int32.lt_iff_toInt_lt, Int32.le_iff_toInt_le, Int32.reduceToInt, ← Int32.toInt_inj, true_and, and_true, or_true, true_or, false_or, or_false, false_and, and_false, not_true_eq_false, not_false_eq_true] <;> omega))⟩
    have fr_64 := FR.w hk_62 hf_56 (k := 12) rfl
    have fe_65 : fld (f_60 a_0) 12 = (a_1 : Int32).toInt := by rw [hf_61]; rfl
    have fe_66 : fld (f_60 a_0) 8 = (v_28 : Int32).toInt := by rw [hf_61]; rfl
    have fe_67 : fld (f_60 a_0) 9 = (v_30 : Int32).toInt := by rw [hf_61]; rfl
    have fe_68 : fld (f_60 a_0) 10 = (v_32 : Int32).toInt := by rw [hf_61]; rfl
    have fe_69 : fld (f_60 a_0) 20 = (v_39 : Int32).toInt := by rw [hf_61]; rfl
    exact hR _ _ _ _ _ _ dX12_errs_21 (Nat.le_of_ble_eq_true rfl) (Nat.le_of_ble_eq_true rfl) ⟨rfl, hW_63, ((fr_59.tr fr_64).mono rfl), (by simp only [fe_65, true_and, and_true, or_true, true_or, false_or, or_false, false_and, and_false, not_true_eq_false, not_false_eq_true] <;> first | omega | (simp only [Int32.lt_iff_toInt_lt, Int32.le_iff_toInt_le, Int32.reduceToInt, ← Int32.toInt_inj, true_and, and_true, or_true, true_or, false_or, or_false, false_and, and_false, not_true_eq_false, not_false_eq_true] <;> omega)), (by simp only [fe_66, mz_41, true_and, and_true, or_true, true_or, false_or, or_false, false_and, and_false, not_true_eq_false, not_false_eq_true] <;> first | omega | (simp only [Int32.lt_iff_toInt_lt, Int32.le_iff_toInt_le, Int32.reduceToInt, ← Int32.toInt_inj, true_and, and_true, or_true, true_or, false_or, or_false, false_and, and_false, not_true_eq_false, not_false_eq_true] <;> omega)), (by simp only [fe_67, mz_42, true_and, and_true, or_true, true_or, false_or, or_false, false_and, and_false, not_true_eq_false, not_false_eq_true] <;> first | omega | (simp only [Int32.lt_iff_toInt_lt, Int32.le_iff_toInt_le, Int32.reduceToInt, ← Int32.toInt_inj, true_and, and_true, or_true, true_or, false_or, or_false, false_and, and_false, not_true_eq_false, not_false_eq_true] <;> omega)), (by simp only [fe_68, mz_43, true_and, and_true, or_true, true_or, false_or, or_false, false_and, and_false, not_true_eq_false, not_false_eq_true] <;> first | omega | (simp only [Int32.lt_iff_toInt_lt, Int32.le_iff_toInt_le, Int32.reduceToInt, ← Int32.toInt_inj, true_and, and_true, or_true, true_or, false_or, or_false, false_and, and_false, not_true_eq_false, not_false_eq_true] <;> omega)), (by simp only [fe_69, mz_44, true_and, and_true, or_true, true_or, false_or, or_false, false_and, and_false, not_true_eq_false, not_false_eq_true] <;> first | omega | (simp only [Int32.lt_iff_toInt_lt, Int32.le_iff_toInt_le, Int32.reduceToInt, ← Int32.toInt_inj, true_and, and_true, or_true, true_or, false_or, or_false, false_and, and_false, not_true_eq_false, not_false_eq_true] <;> omega))⟩
  · simp only [Int32.lt_iff_toInt_lt, Int32.le_iff_toInt_le, Int32.reduceToInt, ← Int32.toInt_inj] at h_54
    have fe_70 : fld (f a_0) 12 = (v_35 : Int32).toInt := by rw [e_22]; rfl
    have fe_71 : fld (f a_0) 8 = (v_28 : Int32).toInt := by rw [e_22]; rfl
    have fe_72 : fld (f a_0) 9 = (v_30 : Int32).toInt := by rw [e_22]; rfl
    have fe_73 : fld (f a_0) 10 = (v_32 : Int32).toInt := by rw [e_22]; rfl
    have fe_74 : fld (f a_0) 20 = (v_39 : Int32).toInt := by rw [e_22]; rfl
    exact hR _ _ _ _ _ _ dX12_errs_7 (Nat.le_of_ble_eq_true rfl) (Nat.le_of_ble_eq_true rfl) ⟨rfl, hW, FR.rf, (by simp only [fe_70, true_and, and_true, or_true, true_or, false_or, or_false, false_and, and_false, not_true_eq_false, not_false_eq_true] <;> first | omega | (simp only [Int32.lt_iff_toInt_lt, Int32.le_iff_toInt_le, Int32.reduceToInt, ← Int32.toInt_inj, true_and, and_true, or_true, true_or, false_or, or_false, false_and, and_false, not_true_eq_false, not_false_eq_true] <;> omega)), (by simp only [fe_71, mz_41, true_and, and_true, or_true, true_or, false_or, or_false, false_and, and_false, not_true_eq_false, not_false_eq_true] <;> first | omega | (simp only [Int32.lt_iff_toInt_lt, Int32.le_iff_toInt_le, Int32.reduceToInt, ← Int32.toInt_inj, true_and, and_true, or_true, true_or, false_or, or_false, false_and, and_false, not_true_eq_false, not_false_eq_true] <;> omega)), (by simp only [fe_72, mz_42, true_and, and_true, or_true, true_or, false_or, or_false, false_and, and_false, not_true_eq_false, not_false_eq_true] <;> first | omega | (simp only [Int32.lt_iff_toInt_lt, Int32.le_iff_toInt_le, Int32.reduceToInt, ← Int32.toInt_inj, true_and, and_true, or_true, true_or, false_or, or_false, false_and, and_false, not_true_eq_false, not_false_eq_true] <;> omega)), (by simp only [fe_73, mz_43, true_and, and_true, or_true, true_or, false_or, or_false, false_and, and_false, not_true_eq_false, not_false_eq_true] <;> first | omega | (simp only [Int32.lt_iff_toInt_lt, Int32.le_iff_toInt_le, Int32.reduceToInt, ← Int32.toInt_inj, true_and, and_true, or_true, true_or, false_or, or_false, false_and, and_false, not_true_eq_false, not_false_eq_true] <;> omega)), (by simp only [fe_74, mz_44, true_and, and_true, or_true, true_or, false_or, or_false, false_and, and_false, not_true_eq_false, not_false_eq_true] <;> first | omega | (simp only [Int32.lt_iff_toInt_lt, Int32.le_iff_toInt_le, Int32.reduceToInt, ← Int32.toInt_inj, true_and, and_true, or_true, true_or, false_or, or_false, false_and, and_false, not_true_eq_false, not_false_eq_true] <;> omega))⟩
set_option maxRecDepth 100000 in
set_option maxHeartbeats 1500000 in
theorem p_X12_ends {l : Launch} {E : Ez} {L : List Nat} {f : Nat → va_E} {T : Nat → va_E → Prop} {a_0 : Nat} {q : Nat → Nat} (hW : WT T L f) (k_0 : isM T L E a_0 q) : CV l yX12_ends cX12_ends 1 2 0 0 E [.ref a_0] L f (fun L1 f1 => L = L1 ∧ WT T L f1 ∧ FR [12] f f1 ∧ (¬ fld (f1 a_0) 12 = 0 ∨ fld (f a_0) 12 = 0) ∧ (¬ fld (f1 a_0) 12 = 0 ∨ (fld (f a_0) 10 = 3 ∧ fld (f a_0) 8 ≤ fld (f1 a_0) 9 ∧ fld (f1 a_0) 9 ≤ fld (f1 a_0) 8)) ∧ (¬ fld (f1 a_0) 12 = 0 ∨ fld (f1 a_0) 10 = 0 ∨ fld (f1 a_0) 9 < fld (f1 a_0) 8) ∧ fld (f1 a_0) 20 = fld (f a_0) 20 ∧ (¬ fld (f1 a_0) 12 = 0 ∨ (fld (f a_0) 12 = 0 ∧ fld (f a_0) 10 = 3 ∧ fld (f a_0) 8 ≤ fld (f1 a_0) 9 ∧ fld (f1 a_0) 9 ≤ fld (f1 a_0) 8 ∧ (fld (f1 a_0) 10 = 0 ∨ fld (f1 a_0) 9 < fld (f1 a_0) 8)))) := by
  refine cv_of (by decide) (Nat.le_of_ble_eq_true rfl) (fun z hz hnm hC hR => ?_)
  have hC : Cx z E cX12_ends RX12 1 2 0 0 := hC
  subst hz
  show V z E 1 0 0 L f 0 [(0, .ref a_0)] []
  obtain ⟨m_1, t_2, nq_21, k_3, k_4, k_5, k_6, k_7, k_8, k_9, k_10, k_11, k_12, k_13, k_14, k_15, k_16, k_17, k_18, k_19, k_20⟩ := id k_0
  obtain ⟨v_23, v_24, v_26, v_28, v_30, v_32, v_34, v_35, v_36, v_37, v_39, e_22, b_25, b_27, b_29, b_31, b_33, b_38, b_40⟩ := hW.at m_1 t_2
  have mz_41 : fld (f a_0) 8 = v_28.toInt := by rw [e_22]; rfl
  have mz_42 : fld (f a_0) 10 = v_32.toInt := by rw [e_22]; rfl
  have mz_43 : fld (f a_0) 12 = v_35.toInt := by rw [e_22]; rfl
  have mz_44 : fld (f a_0) 20 = v_39.toInt := by rw [e_22]; rfl
  refine v_aload_n hC dX12_ends_0 rfl ?_
  refine v_vi hC (rest := []) m_1 e_22 rfl mi_X12_good ms_X12_good (p_X12_good hW k_0) mx_X12_good ml_X12_139 (by decide) rfl (cells1 := 0) (slots1 := 0) (by decide) (by decide) (Nat.le_of_ble_eq_true rfl) (Nat.le_of_ble_eq_true rfl) rfl (Nat.le_of_ble_eq_true rfl) dX12_ends_1 (fun r_45 L_46 f_47 h_48 => ?_)
  obtain ⟨rfl, rfl, b_49, x_50⟩ := h_48
  have fe_53 : fld (f a_0) 12 = (v_35 : Int32).toInt := by rw [e_22]; rfl
  rw [fe_53] at x_50
  clear fe_53
  try simp only [Int32.reduceToInt, Int64.reduceToInt] at x_50
  refine v_if_eq hC dX12_ends_4 (tgt := 20) (by decide) (fun h_54 => ?_) (fun h_54 => ?_)
  · simp only [Int32.lt_iff_toInt_lt, Int32.le_iff_toInt_le, Int32.reduceToInt, ← Int32.toInt_inj] at h_54
    refine v_aload_n hC dX12_ends_20 rfl ?_
    refine v_vi hC (rest := []) m_1 e_22 rfl mi_X12_good ms_X12_good (p_X12_good hW k_0) mx_X12_good ml_X12_139 (by decide) rfl (cells1 := 0) (slots1 := 0) (by decide) (by decide) (Nat.le_of_ble_eq_true rfl) (Nat.le_of_ble_eq_true rfl) rfl (Nat.le_of_ble_eq_true rfl) dX12_ends_21 (fun r_55 L_56 f_57 h_58 => ?_)
    obtain ⟨rfl, rfl, b_59, x_60⟩ := h_58
    have fe_63 : fld (f a_0) 12 = (v_35 : Int32).toInt := by rw [e_22]; rfl
    rw [fe_63] at x_60
    clear fe_63
    try simp only [Int32.reduceToInt, Int64.reduceToInt] at x_60
    refine v_if_eq hC dX12_ends_24 (tgt := 31) (by decide) (fun h_64 => ?_) (fun h_64 => ?_)
    · simp only [Int32.lt_iff_toInt_lt, Int32.le_iff_toInt_le, Int32.reduceToInt, ← Int32.toInt_inj] at h_64
      have fe_65 : fld (f a_0) 12 = (v_35 : Int32).toInt := by rw [e_22]; rfl
      have fe_66 : fld (f a_0) 8 = (v_28 : Int32).toInt := by rw [e_22]; rfl
      have fe_67 : fld (f a_0) 9 = (v_30 : Int32).toInt := by rw [e_22]; rfl
      have fe_68 : fld (f a_0) 12 = (v_35 : Int32).toInt := by rw [e_22]; rfl
      have fe_69 : fld (f a_0) 8 = (v_28 : Int32).toInt := by rw [e_22]; rfl
      have fe_70 : fld (f a_0) 9 = (v_30 : Int32).toInt := by rw [e_22]; rfl
      have fe_71 : fld (f a_0) 10 = (v_32 : Int32).toInt := by rw [e_22]; rfl
      have fe_72 : fld (f a_0) 12 = (v_35 : Int32).toInt := by rw [e_22]; rfl
      have fe_73 : fld (f a_0) 20 = (v_39 : Int32).toInt := by rw [e_22]; rfl
      have fe_74 : fld (f a_0) 8 = (v_28 : Int32).toInt := by rw [e_22]; rfl
      have fe_75 : fld (f a_0) 9 = (v_30 : Int32).toInt := by rw [e_22]; rfl
      have fe_76 : fld (f a_0) 10 = (v_32 : Int32).toInt := by rw [e_22]; rfl
      have fe_77 : fld (f a_0) 12 = (v_35 : Int32).toInt := by rw [e_22]; rfl
      exact hR _ _ _ _ _ _ dX12_ends_31 (Nat.le_of_ble_eq_true rfl) (Nat.le_of_ble_eq_true rfl) ⟨rfl, hW, FR.rf, (by simp only [fe_65, mz_43, true_and, and_true, or_true, true_or, false_or, or_false, false_and, and_false, not_true_eq_false, not_false_eq_true] <;> first | omega | (simp only [Int32.lt_iff_toInt_lt, Int32.le_iff_toInt_le, Int32.reduceToInt, ← Int32.toInt_inj, true_and, and_true, or_true, true_or, false_or, or_false, false_and, and_false, not_true_eq_false, not_false_eq_true] <;> omega)), (by simp only [fe_66, fe_67, fe_68, mz_41, mz_42, true_and, and_true, or_true, true_or, false_or, or_false, false_and, and_false, not_true_eq_false, not_false_eq_true] <;> first | omega | (simp only [Int32.lt_iff_toInt_lt, Int32.le_iff_toInt_le, Int32.reduceToInt, ← Int32.toInt_inj, true_and, and_true, or_true, true_or, false_or, or_false, false_and, and_false, not_true_eq_false, not_false_eq_true] <;> omega)), (by simp only [fe_69, fe_70, fe_71, fe_72, true_and, and_true, or_true, true_or, false_or, or_false, false_and, and_false, not_true_eq_false, not_false_eq_true] <;> first | omega | (simp only [Int32.lt_iff_toInt_lt, Int32.le_iff_toInt_le, Int32.reduceToInt, ← Int32.toInt_inj, true_and, and_true, or_true, true_or, false_or, or_false, false_and, and_false, not_true_eq_false, not_false_eq_true] <;> omega)), (by simp only [fe_73, mz_44, true_and, and_true, or_true, true_or, false_or, or_false, false_and, and_false, not_true_eq_false, not_false_eq_true] <;> first | omega | (simp only [Int32.lt_iff_toInt_lt, Int32.le_iff_toInt_le, Int32.reduceToInt, ← Int32.toInt_inj, true_and, and_true, or_true, true_or, false_or, or_false, false_and, and_false, not_true_eq_false, not_false_eq_true] <;> omega)), (by simp only [fe_74, fe_75, fe_76, fe_77, mz_41, mz_42, mz_43, true_and, and_true, or_true, true_or, false_or, or_false, false_and, and_false, not_true_eq_false, not_false_eq_true] <;> first | omega | (simp only [Int32.lt_iff_toInt_lt, Int32.le_iff_toInt_le, Int32.reduceToInt, ← Int32.toInt_inj, true_and, and_true, or_true, true_or, false_or, or_false, false_and, and_false, not_true_eq_false, not_false_eq_true] <;> omega))⟩
    · simp only [Int32.lt_iff_toInt_lt, Int32.le_iff_toInt_le, Int32.reduceToInt, ← Int32.toInt_inj] at h_64
      refine v_aload_n hC dX12_ends_27 rfl ?_
      refine v_vv hC (rest := []) m_1 e_22 rfl mi_X12_advance ms_X12_advance (p_X12_advance hW k_0) mx_X12_advance ml_X12_156 (by decide) rfl (cells1 := 0) (slots1 := 0) (by decide) (by decide) (Nat.le_of_ble_eq_true rfl) (Nat.le_of_ble_eq_true rfl) rfl (Nat.le_of_ble_eq_true rfl) dX12_ends_28 (fun L_79 f_80 h_81 => ?_)
      obtain ⟨rfl, hW_86, hF_87, x_82, x_83, x_84, x_85⟩ := h_81
      have fe_88 : fld (f a_0) 8 = (v_28 : Int32).toInt := by rw [e_22]; rfl
      have fe_89 : fld (f a_0) 12 = (v_35 : Int32).toInt := by rw [e_22]; rfl
      have fe_90 : fld (f a_0) 20 = (v_39 : Int32).toInt := by rw [e_22]; rfl
      obtain ⟨v_92, v_93, v_95, v_97, v_99, v_101, v_103, v_104, v_105, v_106, v_108, e_91, b_94, b_96, b_98, b_100, b_102, b_107, b_109⟩ := hW_86.at m_1 t_2
      have fe_110 : fld (f_80 a_0) 8 = (v_97 : Int32).toInt := by rw [e_91]; rfl
      have fe_111 : fld (f_80 a_0) 9 = (v_99 : Int32).toInt := by rw [e_91]; rfl
      have fe_112 : fld (f_80 a_0) 10 = (v_101 : Int32).toInt := by rw [e_91]; rfl
      have fe_113 : fld (f_80 a_0) 12 = (v_104 : Int32).toInt := by rw [e_91]; rfl
      have fe_114 : fld (f_80 a_0) 20 = (v_108 : Int32).toInt := by rw [e_91]; rfl
      rw [fe_88, fe_111, fe_110] at x_82
      rw [fe_112, fe_111, fe_110] at x_83
      rw [fe_113, fe_89] at x_84
      rw [fe_114, fe_90] at x_85
      clear fe_88 fe_89 fe_90 fe_110 fe_111 fe_112 fe_113 fe_114
      have fe_115 : fld (f_80 a_0) 12 = (v_104 : Int32).toInt := by rw [e_91]; rfl
      have fe_116 : fld (f_80 a_0) 8 = (v_97 : Int32).toInt := by rw [e_91]; rfl
      have fe_117 : fld (f_80 a_0) 9 = (v_99 : Int32).toInt := by rw [e_91]; rfl
      have fe_118 : fld (f_80 a_0) 12 = (v_104 : Int32).toInt := by rw [e_91]; rfl
      have fe_119 : fld (f_80 a_0) 8 = (v_97 : Int32).toInt := by rw [e_91]; rfl
      have fe_120 : fld (f_80 a_0) 9 = (v_99 : Int32).toInt := by rw [e_91]; rfl
      have fe_121 : fld (f_80 a_0) 10 = (v_101 : Int32).toInt := by rw [e_91]; rfl
      have fe_122 : fld (f_80 a_0) 12 = (v_104 : Int32).toInt := by rw [e_91]; rfl
      have fe_123 : fld (f_80 a_0) 20 = (v_108 : Int32).toInt := by rw [e_91]; rfl
      have fe_124 : fld (f_80 a_0) 8 = (v_97 : Int32).toInt := by rw [e_91]; rfl
      have fe_125 : fld (f_80 a_0) 9 = (v_99 : Int32).toInt := by rw [e_91]; rfl
      have fe_126 : fld (f_80 a_0) 10 = (v_101 : Int32).toInt := by rw [e_91]; rfl
      have fe_127 : fld (f_80 a_0) 12 = (v_104 : Int32).toInt := by rw [e_91]; rfl
      exact hR _ _ _ _ _ _ dX12_ends_31 (Nat.le_of_ble_eq_true rfl) (Nat.le_of_ble_eq_true rfl) ⟨rfl, hW_86, (hF_87.mono rfl), (by simp only [fe_115, mz_43, true_and, and_true, or_true, true_or, false_or, or_false, false_and, and_false, not_true_eq_false, not_false_eq_true] <;> first | omega | (simp only [Int32.lt_iff_toInt_lt, Int32.le_iff_toInt_le, Int32.reduceToInt, ← Int32.toInt_inj, true_and, and_true, or_true, true_or, false_or, or_false, false_and, and_false, not_true_eq_false, not_false_eq_true] <;> omega)), (by simp only [fe_116, fe_117, fe_118, mz_41, mz_42, true_and, and_true, or_true, true_or, false_or, or_false, false_and, and_false, not_true_eq_false, not_false_eq_true] <;> first | omega | (simp only [Int32.lt_iff_toInt_lt, Int32.le_iff_toInt_le, Int32.reduceToInt, ← Int32.toInt_inj, true_and, and_true, or_true, true_or, false_or, or_false, false_and, and_false, not_true_eq_false, not_false_eq_true] <;> omega)), (by simp only [fe_119, fe_120, fe_121, fe_122, true_and, and_true, or_true, true_or, false_or, or_false, false_and, and_false, not_true_eq_false, not_false_eq_true] <;> first | omega | (simp only [Int32.lt_iff_toInt_lt, Int32.le_iff_toInt_le, Int32.reduceToInt, ← Int32.toInt_inj, true_and, and_true, or_true, true_or, false_or, or_false, false_and, and_false, not_true_eq_false, not_false_eq_true] <;> omega)), (by simp only [fe_123, mz_44, true_and, and_true, or_true, true_or, false_or, or_false, false_and, and_false, not_true_eq_false, not_false_eq_true] <;> first | omega | (simp only [Int32.lt_iff_toInt_lt, Int32.le_iff_toInt_le, Int32.reduceToInt, ← Int32.toInt_inj, true_and, and_true, or_true, true_or, false_or, or_false, false_and, and_false, not_true_eq_false, not_false_eq_true] <;> omega)), (by simp only [fe_124, fe_125, fe_126, fe_127, mz_41, mz_42, mz_43, true_and, and_true, or_true, true_or, false_or, or_false, false_and, and_false, not_true_eq_false, not_false_eq_true] <;> first | omega | (simp only [Int32.lt_iff_toInt_lt, Int32.le_iff_toInt_le, Int32.reduceToInt, ← Int32.toInt_inj, true_and, and_true, or_true, true_or, false_or, or_false, false_and, and_false, not_true_eq_false, not_false_eq_true] <;> omega))⟩
  · simp only [Int32.lt_iff_toInt_lt, Int32.le_iff_toInt_le, Int32.reduceToInt, ← Int32.toInt_inj] at h_54
    refine v_aload_n hC dX12_ends_7 rfl ?_
    refine v_get hC fl_X12_120 m_1 e_22 rfl dX12_ends_8 ?_
    refine v_iconst hC dX12_ends_11 (v := 3) (by decide) ?_
    refine v_icmp_eq hC dX12_ends_12 (tgt := 20) (by decide) (fun h_128 => ?_) (fun h_128 => ?_)
    · simp only [Int32.lt_iff_toInt_lt, Int32.le_iff_toInt_le, Int32.reduceToInt, ← Int32.toInt_inj] at h_128
      refine v_aload_n hC dX12_ends_20 rfl ?_
      refine v_vi hC (rest := []) m_1 e_22 rfl mi_X12_good ms_X12_good (p_X12_good hW k_0) mx_X12_good ml_X12_139 (by decide) rfl (cells1 := 0) (slots1 := 0) (by decide) (by decide) (Nat.le_of_ble_eq_true rfl) (Nat.le_of_ble_eq_true rfl) rfl (Nat.le_of_ble_eq_true rfl) dX12_ends_21 (fun r_129 L_130 f_131 h_132 => ?_)
      obtain ⟨rfl, rfl, b_133, x_134⟩ := h_132
      have fe_137 : fld (f a_0) 12 = (v_35 : Int32).toInt := by rw [e_22]; rfl
      rw [fe_137] at x_134
      clear fe_137
      try simp only [Int32.reduceToInt, Int64.reduceToInt] at x_134
      refine v_if_eq hC dX12_ends_24 (tgt := 31) (by decide) (fun h_138 => ?_) (fun h_138 => ?_)
      · simp only [Int32.lt_iff_toInt_lt, Int32.le_iff_toInt_le, Int32.reduceToInt, ← Int32.toInt_inj] at h_138
        have fe_139 : fld (f a_0) 12 = (v_35 : Int32).toInt := by rw [e_22]; rfl
        have fe_140 : fld (f a_0) 8 = (v_28 : Int32).toInt := by rw [e_22]; rfl
        have fe_141 : fld (f a_0) 9 = (v_30 : Int32).toInt := by rw [e_22]; rfl
        have fe_142 : fld (f a_0) 12 = (v_35 : Int32).toInt := by rw [e_22]; rfl
        have fe_143 : fld (f a_0) 8 = (v_28 : Int32).toInt := by rw [e_22]; rfl
        have fe_144 : fld (f a_0) 9 = (v_30 : Int32).toInt := by rw [e_22]; rfl
        have fe_145 : fld (f a_0) 10 = (v_32 : Int32).toInt := by rw [e_22]; rfl
        have fe_146 : fld (f a_0) 12 = (v_35 : Int32).toInt := by rw [e_22]; rfl
        have fe_147 : fld (f a_0) 20 = (v_39 : Int32).toInt := by rw [e_22]; rfl
        have fe_148 : fld (f a_0) 8 = (v_28 : Int32).toInt := by rw [e_22]; rfl
        have fe_149 : fld (f a_0) 9 = (v_30 : Int32).toInt := by rw [e_22]; rfl
        have fe_150 : fld (f a_0) 10 = (v_32 : Int32).toInt := by rw [e_22]; rfl
        have fe_151 : fld (f a_0) 12 = (v_35 : Int32).toInt := by rw [e_22]; rfl
        exact hR _ _ _ _ _ _ dX12_ends_31 (Nat.le_of_ble_eq_true rfl) (Nat.le_of_ble_eq_true rfl) ⟨rfl, hW, FR.rf, (by simp only [fe_139, mz_43, true_and, and_true, or_true, true_or, false_or, or_false, false_and, and_false, not_true_eq_false, not_false_eq_true] <;> first | omega | (simp only [Int32.lt_iff_toInt_lt, Int32.le_iff_toInt_le, Int32.reduceToInt, ← Int32.toInt_inj, true_and, and_true, or_true, true_or, false_or, or_false, false_and, and_false, not_true_eq_false, not_false_eq_true] <;> omega)), (by simp only [fe_140, fe_141, fe_142, mz_41, mz_42, true_and, and_true, or_true, true_or, false_or, or_false, false_and, and_false, not_true_eq_false, not_false_eq_true] <;> first | omega | (simp only [Int32.lt_iff_toInt_lt, Int32.le_iff_toInt_le, Int32.reduceToInt, ← Int32.toInt_inj, true_and, and_true, or_true, true_or, false_or, or_false, false_and, and_false, not_true_eq_false, not_false_eq_true] <;> omega)), (by simp only [fe_143, fe_144, fe_145, fe_146, true_and, and_true, or_true, true_or, false_or, or_false, false_and, and_false, not_true_eq_false, not_false_eq_true] <;> first | omega | (simp only [Int32.lt_iff_toInt_lt, Int32.le_iff_toInt_le, Int32.reduceToInt, ← Int32.toInt_inj, true_and, and_true, or_true, true_or, false_or, or_false, false_and, and_false, not_true_eq_false, not_false_eq_true] <;> omega)), (by simp only [fe_147, mz_44, true_and, and_true, or_true, true_or, false_or, or_false, false_and, and_false, not_true_eq_false, not_false_eq_true] <;> first | omega | (simp only [Int32.lt_iff_toInt_lt, Int32.le_iff_toInt_le, Int32.reduceToInt, ← Int32.toInt_inj, true_and, and_true, or_true, true_or, false_or, or_false, false_and, and_false, not_true_eq_false, not_false_eq_true] <;> omega)), (by simp only [fe_148, fe_149, fe_150, fe_151, mz_41, mz_42, mz_43, true_and, and_true, or_true, true_or, false_or, or_false, false_and, and_false, not_true_eq_false, not_false_eq_true] <;> first | omega | (simp only [Int32.lt_iff_toInt_lt, Int32.le_iff_toInt_le, Int32.reduceToInt, ← Int32.toInt_inj, true_and, and_true, or_true, true_or, false_or, or_false, false_and, and_false, not_true_eq_false, not_false_eq_true] <;> omega))⟩
      · simp only [Int32.lt_iff_toInt_lt, Int32.le_iff_toInt_le, Int32.reduceToInt, ← Int32.toInt_inj] at h_138
        refine v_aload_n hC dX12_ends_27 rfl ?_
        refine v_vv hC (rest := []) m_1 e_22 rfl mi_X12_advance ms_X12_advance (p_X12_advance hW k_0) mx_X12_advance ml_X12_156 (by decide) rfl (cells1 := 0) (slots1 := 0) (by decide) (by decide) (Nat.le_of_ble_eq_true rfl) (Nat.le_of_ble_eq_true rfl) rfl (Nat.le_of_ble_eq_true rfl) dX12_ends_28 (fun L_153 f_154 h_155 => ?_)
        obtain ⟨rfl, hW_160, hF_161, x_156, x_157, x_158, x_159⟩ := h_155
        have fe_162 : fld (f a_0) 8 = (v_28 : Int32).toInt := by rw [e_22]; rfl
        have fe_163 : fld (f a_0) 12 = (v_35 : Int32).toInt := by rw [e_22]; rfl
        have fe_164 : fld (f a_0) 20 = (v_39 : Int32).toInt := by rw [e_22]; rfl
        obtain ⟨v_166, v_167, v_169, v_171, v_173, v_175, v_177, v_178, v_179, v_180, v_182, e_165, b_168, b_170, b_172, b_174, b_176, b_181, b_183⟩ := hW_160.at m_1 t_2
        have fe_184 : fld (f_154 a_0) 8 = (v_171 : Int32).toInt := by rw [e_165]; rfl
        have fe_185 : fld (f_154 a_0) 9 = (v_173 : Int32).toInt := by rw [e_165]; rfl
        have fe_186 : fld (f_154 a_0) 10 = (v_175 : Int32).toInt := by rw [e_165]; rfl
        have fe_187 : fld (f_154 a_0) 12 = (v_178 : Int32).toInt := by rw [e_165]; rfl
        have fe_188 : fld (f_154 a_0) 20 = (v_182 : Int32).toInt := by rw [e_165]; rfl
        rw [fe_162, fe_185, fe_184] at x_156
        rw [fe_186, fe_185, fe_184] at x_157
        rw [fe_187, fe_163] at x_158
        rw [fe_188, fe_164] at x_159
        clear fe_162 fe_163 fe_164 fe_184 fe_185 fe_186 fe_187 fe_188
        have fe_189 : fld (f_154 a_0) 12 = (v_178 : Int32).toInt := by rw [e_165]; rfl
        have fe_190 : fld (f_154 a_0) 8 = (v_171 : Int32).toInt := by rw [e_165]; rfl
        have fe_191 : fld (f_154 a_0) 9 = (v_173 : Int32).toInt := by rw [e_165]; rfl
        have fe_192 : fld (f_154 a_0) 12 = (v_178 : Int32).toInt := by rw [e_165]; rfl
        have fe_193 : fld (f_154 a_0) 8 = (v_171 : Int32).toInt := by rw [e_165]; rfl
        have fe_194 : fld (f_154 a_0) 9 = (v_173 : Int32).toInt := by rw [e_165]; rfl
        have fe_195 : fld (f_154 a_0) 10 = (v_175 : Int32).toInt := by rw [e_165]; rfl
        have fe_196 : fld (f_154 a_0) 12 = (v_178 : Int32).toInt := by rw [e_165]; rfl
        have fe_197 : fld (f_154 a_0) 20 = (v_182 : Int32).toInt := by rw [e_165]; rfl
        have fe_198 : fld (f_154 a_0) 8 = (v_171 : Int32).toInt := by rw [e_165]; rfl
        have fe_199 : fld (f_154 a_0) 9 = (v_173 : Int32).toInt := by rw [e_165]; rfl
        have fe_200 : fld (f_154 a_0) 10 = (v_175 : Int32).toInt := by rw [e_165]; rfl
        have fe_201 : fld (f_154 a_0) 12 = (v_178 : Int32).toInt := by rw [e_165]; rfl
        exact hR _ _ _ _ _ _ dX12_ends_31 (Nat.le_of_ble_eq_true rfl) (Nat.le_of_ble_eq_true rfl) ⟨rfl, hW_160, (hF_161.mono rfl), (by simp only [fe_189, mz_43, true_and, and_true, or_true, true_or, false_or, or_false, false_and, and_false, not_true_eq_false, not_false_eq_true] <;> first | omega | (simp only [Int32.lt_iff_toInt_lt, Int32.le_iff_toInt_le, Int32.reduceToInt, ← Int32.toInt_inj, true_and, and_true, or_true, true_or, false_or, or_false, false_and, and_false, not_true_eq_false, not_false_eq_true] <;> omega)), (by simp only [fe_190, fe_191, fe_192, mz_41, mz_42, true_and, and_true, or_true, true_or, false_or, or_false, false_and, and_false, not_true_eq_false, not_false_eq_true] <;> first | omega | (simp only [Int32.lt_iff_toInt_lt, Int32.le_iff_toInt_le, Int32.reduceToInt, ← Int32.toInt_inj, true_and, and_true, or_true, true_or, false_or, or_false, false_and, and_false, not_true_eq_false, not_false_eq_true] <;> omega)), (by simp only [fe_193, fe_194, fe_195, fe_196, true_and, and_true, or_true, true_or, false_or, or_false, false_and, and_false, not_true_eq_false, not_false_eq_true] <;> first | omega | (simp only [Int32.lt_iff_toInt_lt, Int32.le_iff_toInt_le, Int32.reduceToInt, ← Int32.toInt_inj, true_and, and_true, or_true, true_or, false_or, or_false, false_and, and_false, not_true_eq_false, not_false_eq_true] <;> omega)), (by simp only [fe_197, mz_44, true_and, and_true, or_true, true_or, false_or, or_false, false_and, and_false, not_true_eq_false, not_false_eq_true] <;> first | omega | (simp only [Int32.lt_iff_toInt_lt, Int32.le_iff_toInt_le, Int32.reduceToInt, ← Int32.toInt_inj, true_and, and_true, or_true, true_or, false_or, or_false, false_and, and_false, not_true_eq_false, not_false_eq_true] <;> omega)), (by simp only [fe_198, fe_199, fe_200, fe_201, mz_41, mz_42, mz_43, true_and, and_true, or_true, true_or, false_or, or_false, false_and, and_false, not_true_eq_false, not_false_eq_true] <;> first | omega | (simp only [Int32.lt_iff_toInt_lt, Int32.le_iff_toInt_le, Int32.reduceToInt, ← Int32.toInt_inj, true_and, and_true, or_true, true_or, false_or, or_false, false_and, and_false, not_true_eq_false, not_false_eq_true] <;> omega))⟩
    · simp only [Int32.lt_iff_toInt_lt, Int32.le_iff_toInt_le, Int32.reduceToInt, ← Int32.toInt_inj] at h_128
      refine v_aload_n hC dX12_ends_15 rfl ?_
      refine v_iconst hC dX12_ends_16 (v := 1) (by decide) ?_
      refine v_vv hC (rest := []) m_1 e_22 rfl mi_X12_errs ms_X12_errs (p_X12_errs hW k_0 (by decide)) mx_X12_errs ml_X12_162 (by decide) rfl (cells1 := 0) (slots1 := 0) (by decide) (by decide) (Nat.le_of_ble_eq_true rfl) (Nat.le_of_ble_eq_true rfl) rfl (Nat.le_of_ble_eq_true rfl) dX12_ends_17 (fun L_203 f_204 h_205 => ?_)
      obtain ⟨rfl, hW_211, hF_212, x_206, x_207, x_208, x_209, x_210⟩ := h_205
      have fe_213 : fld (f a_0) 8 = (v_28 : Int32).toInt := by rw [e_22]; rfl
      have fe_214 : fld (f a_0) 9 = (v_30 : Int32).toInt := by rw [e_22]; rfl
      have fe_215 : fld (f a_0) 10 = (v_32 : Int32).toInt := by rw [e_22]; rfl
      have fe_216 : fld (f a_0) 20 = (v_39 : Int32).toInt := by rw [e_22]; rfl
      obtain ⟨v_218, v_219, v_221, v_223, v_225, v_227, v_229, v_230, v_231, v_232, v_234, e_217, b_220, b_222, b_224, b_226, b_228, b_233, b_235⟩ := hW_211.at m_1 t_2
      have fe_236 : fld (f_204 a_0) 8 = (v_223 : Int32).toInt := by rw [e_217]; rfl
      have fe_237 : fld (f_204 a_0) 9 = (v_225 : Int32).toInt := by rw [e_217]; rfl
      have fe_238 : fld (f_204 a_0) 10 = (v_227 : Int32).toInt := by rw [e_217]; rfl
      have fe_239 : fld (f_204 a_0) 12 = (v_230 : Int32).toInt := by rw [e_217]; rfl
      have fe_240 : fld (f_204 a_0) 20 = (v_234 : Int32).toInt := by rw [e_217]; rfl
      rw [fe_239] at x_206
      rw [fe_236, fe_213] at x_207
      rw [fe_237, fe_214] at x_208
      rw [fe_238, fe_215] at x_209
      rw [fe_240, fe_216] at x_210
      clear fe_213 fe_214 fe_215 fe_216 fe_236 fe_237 fe_238 fe_239 fe_240
      refine v_aload_n hC dX12_ends_20 rfl ?_
      refine v_vi hC (rest := []) m_1 e_217 rfl mi_X12_good ms_X12_good (p_X12_good hW_211 k_0) mx_X12_good ml_X12_139 (by decide) rfl (cells1 := 0) (slots1 := 0) (by decide) (by decide) (Nat.le_of_ble_eq_true rfl) (Nat.le_of_ble_eq_true rfl) rfl (Nat.le_of_ble_eq_true rfl) dX12_ends_21 (fun r_241 L_242 f_243 h_244 => ?_)
      obtain ⟨rfl, rfl, b_245, x_246⟩ := h_244
      have fe_249 : fld (f_204 a_0) 12 = (v_230 : Int32).toInt := by rw [e_217]; rfl
      rw [fe_249] at x_246
      clear fe_249
      try simp only [Int32.reduceToInt, Int64.reduceToInt] at x_246
      refine v_if_eq hC dX12_ends_24 (tgt := 31) (by decide) (fun h_250 => ?_) (fun h_250 => ?_)
      · simp only [Int32.lt_iff_toInt_lt, Int32.le_iff_toInt_le, Int32.reduceToInt, ← Int32.toInt_inj] at h_250
        have fe_251 : fld (f_204 a_0) 12 = (v_230 : Int32).toInt := by rw [e_217]; rfl
        have fe_252 : fld (f_204 a_0) 8 = (v_223 : Int32).toInt := by rw [e_217]; rfl
        have fe_253 : fld (f_204 a_0) 9 = (v_225 : Int32).toInt := by rw [e_217]; rfl
        have fe_254 : fld (f_204 a_0) 12 = (v_230 : Int32).toInt := by rw [e_217]; rfl
        have fe_255 : fld (f_204 a_0) 8 = (v_223 : Int32).toInt := by rw [e_217]; rfl
        have fe_256 : fld (f_204 a_0) 9 = (v_225 : Int32).toInt := by rw [e_217]; rfl
        have fe_257 : fld (f_204 a_0) 10 = (v_227 : Int32).toInt := by rw [e_217]; rfl
        have fe_258 : fld (f_204 a_0) 12 = (v_230 : Int32).toInt := by rw [e_217]; rfl
        have fe_259 : fld (f_204 a_0) 20 = (v_234 : Int32).toInt := by rw [e_217]; rfl
        have fe_260 : fld (f_204 a_0) 8 = (v_223 : Int32).toInt := by rw [e_217]; rfl
        have fe_261 : fld (f_204 a_0) 9 = (v_225 : Int32).toInt := by rw [e_217]; rfl
        have fe_262 : fld (f_204 a_0) 10 = (v_227 : Int32).toInt := by rw [e_217]; rfl
        have fe_263 : fld (f_204 a_0) 12 = (v_230 : Int32).toInt := by rw [e_217]; rfl
        exact hR _ _ _ _ _ _ dX12_ends_31 (Nat.le_of_ble_eq_true rfl) (Nat.le_of_ble_eq_true rfl) ⟨rfl, hW_211, (hF_212.mono rfl), (by simp only [fe_251, mz_43, true_and, and_true, or_true, true_or, false_or, or_false, false_and, and_false, not_true_eq_false, not_false_eq_true] <;> first | omega | (simp only [Int32.lt_iff_toInt_lt, Int32.le_iff_toInt_le, Int32.reduceToInt, ← Int32.toInt_inj, true_and, and_true, or_true, true_or, false_or, or_false, false_and, and_false, not_true_eq_false, not_false_eq_true] <;> omega)), (by simp only [fe_252, fe_253, fe_254, mz_41, mz_42, true_and, and_true, or_true, true_or, false_or, or_false, false_and, and_false, not_true_eq_false, not_false_eq_true] <;> first | omega | (simp only [Int32.lt_iff_toInt_lt, Int32.le_iff_toInt_le, Int32.reduceToInt, ← Int32.toInt_inj, true_and, and_true, or_true, true_or, false_or, or_false, false_and, and_false, not_true_eq_false, not_false_eq_true] <;> omega)), (by simp only [fe_255, fe_256, fe_257, fe_258, true_and, and_true, or_true, true_or, false_or, or_false, false_and, and_false, not_true_eq_false, not_false_eq_true] <;> first | omega | (simp only [Int32.lt_iff_toInt_lt, Int32.le_iff_toInt_le, Int32.reduceToInt, ← Int32.toInt_inj, true_and, and_true, or_true, true_or, false_or, or_false, false_and, and_false, not_true_eq_false, not_false_eq_true] <;> omega)), (by simp only [fe_259, mz_44, true_and, and_true, or_true, true_or, false_or, or_false, false_and, and_false, not_true_eq_false, not_false_eq_true] <;> first | omega | (simp only [Int32.lt_iff_toInt_lt, Int32.le_iff_toInt_le, Int32.reduceToInt, ← Int32.toInt_inj, true_and, and_true, or_true, true_or, false_or, or_false, false_and, and_false, not_true_eq_false, not_false_eq_true] <;> omega)), (by simp only [fe_260, fe_261, fe_262, fe_263, mz_41, mz_42, mz_43, true_and, and_true, or_true, true_or, false_or, or_false, false_and, and_false, not_true_eq_false, not_false_eq_true] <;> first | omega | (simp only [Int32.lt_iff_toInt_lt, Int32.le_iff_toInt_le, Int32.reduceToInt, ← Int32.toInt_inj, true_and, and_true, or_true, true_or, false_or, or_false, false_and, and_false, not_true_eq_false, not_false_eq_true] <;> omega))⟩
      · simp only [Int32.lt_iff_toInt_lt, Int32.le_iff_toInt_le, Int32.reduceToInt, ← Int32.toInt_inj] at h_250
        refine v_aload_n hC dX12_ends_27 rfl ?_
        refine v_vv hC (rest := []) m_1 e_217 rfl mi_X12_advance ms_X12_advance (p_X12_advance hW_211 k_0) mx_X12_advance ml_X12_156 (by decide) rfl (cells1 := 0) (slots1 := 0) (by decide) (by decide) (Nat.le_of_ble_eq_true rfl) (Nat.le_of_ble_eq_true rfl) rfl (Nat.le_of_ble_eq_true rfl) dX12_ends_28 (fun L_265 f_266 h_267 => ?_)
        obtain ⟨rfl, hW_272, hF_273, x_268, x_269, x_270, x_271⟩ := h_267
        have fe_274 : fld (f_204 a_0) 8 = (v_223 : Int32).toInt := by rw [e_217]; rfl
        have fe_275 : fld (f_204 a_0) 12 = (v_230 : Int32).toInt := by rw [e_217]; rfl
        have fe_276 : fld (f_204 a_0) 20 = (v_234 : Int32).toInt := by rw [e_217]; rfl
        obtain ⟨v_278, v_279, v_281, v_283, v_285, v_287, v_289, v_290, v_291, v_292, v_294, e_277, b_280, b_282, b_284, b_286, b_288, b_293, b_295⟩ := hW_272.at m_1 t_2
        have fe_296 : fld (f_266 a_0) 8 = (v_283 : Int32).toInt := by rw [e_277]; rfl
        have fe_297 : fld (f_266 a_0) 9 = (v_285 : Int32).toInt := by rw [e_277]; rfl
        have fe_298 : fld (f_266 a_0) 10 = (v_287 : Int32).toInt := by rw [e_277]; rfl
        have fe_299 : fld (f_266 a_0) 12 = (v_290 : Int32).toInt := by rw [e_277]; rfl
        have fe_300 : fld (f_266 a_0) 20 = (v_294 : Int32).toInt := by rw [e_277]; rfl
        rw [fe_274, fe_297, fe_296] at x_268
        rw [fe_298, fe_297, fe_296] at x_269
        rw [fe_299, fe_275] at x_270
        rw [fe_300, fe_276] at x_271
        clear fe_274 fe_275 fe_276 fe_296 fe_297 fe_298 fe_299 fe_300
        have fe_301 : fld (f_266 a_0) 12 = (v_290 : Int32).toInt := by rw [e_277]; rfl
        have fe_302 : fld (f_266 a_0) 8 = (v_283 : Int32).toInt := by rw [e_277]; rfl
        have fe_303 : fld (f_266 a_0) 9 = (v_285 : Int32).toInt := by rw [e_277]; rfl
        have fe_304 : fld (f_266 a_0) 12 = (v_290 : Int32).toInt := by rw [e_277]; rfl
        have fe_305 : fld (f_266 a_0) 8 = (v_283 : Int32).toInt := by rw [e_277]; rfl
        have fe_306 : fld (f_266 a_0) 9 = (v_285 : Int32).toInt := by rw [e_277]; rfl
        have fe_307 : fld (f_266 a_0) 10 = (v_287 : Int32).toInt := by rw [e_277]; rfl
        have fe_308 : fld (f_266 a_0) 12 = (v_290 : Int32).toInt := by rw [e_277]; rfl
        have fe_309 : fld (f_266 a_0) 20 = (v_294 : Int32).toInt := by rw [e_277]; rfl
        have fe_310 : fld (f_266 a_0) 8 = (v_283 : Int32).toInt := by rw [e_277]; rfl
        have fe_311 : fld (f_266 a_0) 9 = (v_285 : Int32).toInt := by rw [e_277]; rfl
        have fe_312 : fld (f_266 a_0) 10 = (v_287 : Int32).toInt := by rw [e_277]; rfl
        have fe_313 : fld (f_266 a_0) 12 = (v_290 : Int32).toInt := by rw [e_277]; rfl
        exact hR _ _ _ _ _ _ dX12_ends_31 (Nat.le_of_ble_eq_true rfl) (Nat.le_of_ble_eq_true rfl) ⟨rfl, hW_272, ((hF_212.tr hF_273).mono rfl), (by simp only [fe_301, mz_43, true_and, and_true, or_true, true_or, false_or, or_false, false_and, and_false, not_true_eq_false, not_false_eq_true] <;> first | omega | (simp only [Int32.lt_iff_toInt_lt, Int32.le_iff_toInt_le, Int32.reduceToInt, ← Int32.toInt_inj, true_and, and_true, or_true, true_or, false_or, or_false, false_and, and_false, not_true_eq_false, not_false_eq_true] <;> omega)), (by simp only [fe_302, fe_303, fe_304, mz_41, mz_42, true_and, and_true, or_true, true_or, false_or, or_false, false_and, and_false, not_true_eq_false, not_false_eq_true] <;> first | omega | (simp only [Int32.lt_iff_toInt_lt, Int32.le_iff_toInt_le, Int32.reduceToInt, ← Int32.toInt_inj, true_and, and_true, or_true, true_or, false_or, or_false, false_and, and_false, not_true_eq_false, not_false_eq_true] <;> omega)), (by simp only [fe_305, fe_306, fe_307, fe_308, true_and, and_true, or_true, true_or, false_or, or_false, false_and, and_false, not_true_eq_false, not_false_eq_true] <;> first | omega | (simp only [Int32.lt_iff_toInt_lt, Int32.le_iff_toInt_le, Int32.reduceToInt, ← Int32.toInt_inj, true_and, and_true, or_true, true_or, false_or, or_false, false_and, and_false, not_true_eq_false, not_false_eq_true] <;> omega)), (by simp only [fe_309, mz_44, true_and, and_true, or_true, true_or, false_or, or_false, false_and, and_false, not_true_eq_false, not_false_eq_true] <;> first | omega | (simp only [Int32.lt_iff_toInt_lt, Int32.le_iff_toInt_le, Int32.reduceToInt, ← Int32.toInt_inj, true_and, and_true, or_true, true_or, false_or, or_false, false_and, and_false, not_true_eq_false, not_false_eq_true] <;> omega)), (by simp only [fe_310, fe_311, fe_312, fe_313, mz_41, mz_42, mz_43, true_and, and_true, or_true, true_or, false_or, or_false, false_and, and_false, not_true_eq_false, not_false_eq_true] <;> first | omega | (simp only [Int32.lt_iff_toInt_lt, Int32.le_iff_toInt_le, Int32.reduceToInt, ← Int32.toInt_inj, true_and, and_true, or_true, true_or, false_or, or_false, false_and, and_false, not_true_eq_false, not_false_eq_true] <;> omega))⟩
set_option maxRecDepth 100000 in
set_option maxHeartbeats 1500000 in
theorem p_X12_number {l : Launch} {E : Ez} {L : List Nat} {f : Nat → va_E} {T : Nat → va_E → Prop} {a_0 : Nat} {a_1 : Int32} {a_2 : Int32} {q : Nat → Nat} (hW : WT T L f) (k_0 : isM T L E a_0 q) : CI l yX12_number cX12_number 4 .int 2 0 0 E [.ref a_0, .int a_1, .int a_2] L f (fun r L1 f1 => L = L1 ∧ WT T L f1 ∧ FR [12] f f1 ∧ (¬ fld (f1 a_0) 12 = 0 ∨ (fld (f a_0) 12 = 0 ∧ a_1.toInt ≤ r.toInt ∧ r.toInt ≤ a_2.toInt)) ∧ (¬ fld (f1 a_0) 12 = 0 ∨ (fld (f a_0) 10 = 2 ∧ fld (f a_0) 8 ≤ fld (f1 a_0) 9 ∧ fld (f1 a_0) 9 ≤ fld (f1 a_0) 8)) ∧ (¬ fld (f1 a_0) 12 = 0 ∨ fld (f1 a_0) 10 = 0 ∨ fld (f1 a_0) 9 < fld (f1 a_0) 8) ∧ (fld (f1 a_0) 12 = 0 ∨ r.toInt = 0) ∧ fld (f1 a_0) 20 = fld (f a_0) 20 ∧ (¬ fld (f1 a_0) 12 = 0 ∨ (fld (f a_0) 12 = 0 ∧ a_1.toInt ≤ r.toInt ∧ r.toInt ≤ a_2.toInt ∧ fld (f a_0) 10 = 2 ∧ fld (f a_0) 8 ≤ fld (f1 a_0) 9 ∧ fld (f1 a_0) 9 ≤ fld (f1 a_0) 8 ∧ (fld (f1 a_0) 10 = 0 ∨ fld (f1 a_0) 9 < fld (f1 a_0) 8)))) := by
  refine ci_of (by decide) (Nat.le_of_ble_eq_true rfl) (fun z hz hnm hC hR => ?_)
  have hC : Cx z E cX12_number RX12 4 2 0 0 := hC
  subst hz
  show V z E 4 0 0 L f 0 [(0, .ref a_0), (1, .int a_1), (2, .int a_2)] []
  obtain ⟨m_1, t_2, nq_21, k_3, k_4, k_5, k_6, k_7, k_8, k_9, k_10, k_11, k_12, k_13, k_14, k_15, k_16, k_17, k_18, k_19, k_20⟩ := id k_0
  obtain ⟨v_23, v_24, v_26, v_28, v_30, v_32, v_34, v_35, v_36, v_37, v_39, e_22, b_25, b_27, b_29, b_31, b_33, b_38, b_40⟩ := hW.at m_1 t_2
  have mz_41 : fld (f a_0) 8 = v_28.toInt := by rw [e_22]; rfl
  have mz_42 : fld (f a_0) 10 = v_32.toInt := by rw [e_22]; rfl
  have mz_43 : fld (f a_0) 12 = v_35.toInt := by rw [e_22]; rfl
  have mz_44 : fld (f a_0) 20 = v_39.toInt := by rw [e_22]; rfl
  refine v_aload_n hC dX12_number_0 rfl ?_
  refine v_vi hC (rest := []) m_1 e_22 rfl mi_X12_good ms_X12_good (p_X12_good hW k_0) mx_X12_good ml_X12_139 (by decide) rfl (cells1 := 0) (slots1 := 0) (by decide) (by decide) (Nat.le_of_ble_eq_true rfl) (Nat.le_of_ble_eq_true rfl) rfl (Nat.le_of_ble_eq_true rfl) dX12_number_1 (fun r_45 L_46 f_47 h_48 => ?_)
  obtain ⟨rfl, rfl, b_49, x_50⟩ := h_48
  have fe_53 : fld (f a_0) 12 = (v_35 : Int32).toInt := by rw [e_22]; rfl
  rw [fe_53] at x_50
  clear fe_53
  try simp only [Int32.reduceToInt, Int64.reduceToInt] at x_50
  refine v_if_eq hC dX12_number_4 (tgt := 20) (by decide) (fun h_54 => ?_) (fun h_54 => ?_)
  · simp only [Int32.lt_iff_toInt_lt, Int32.le_iff_toInt_le, Int32.reduceToInt, ← Int32.toInt_inj] at h_54
    refine v_aload_n hC dX12_number_20 rfl ?_
    refine v_vi hC (rest := []) m_1 e_22 rfl mi_X12_good ms_X12_good (p_X12_good hW k_0) mx_X12_good ml_X12_139 (by decide) rfl (cells1 := 0) (slots1 := 0) (by decide) (by decide) (Nat.le_of_ble_eq_true rfl) (Nat.le_of_ble_eq_true rfl) rfl (Nat.le_of_ble_eq_true rfl) dX12_number_21 (fun r_55 L_56 f_57 h_58 => ?_)
    obtain ⟨rfl, rfl, b_59, x_60⟩ := h_58
    have fe_63 : fld (f a_0) 12 = (v_35 : Int32).toInt := by rw [e_22]; rfl
    rw [fe_63] at x_60
    clear fe_63
    try simp only [Int32.reduceToInt, Int64.reduceToInt] at x_60
    refine v_if_eq hC dX12_number_24 (tgt := 47) (by decide) (fun h_64 => ?_) (fun h_64 => ?_)
    · simp only [Int32.lt_iff_toInt_lt, Int32.le_iff_toInt_le, Int32.reduceToInt, ← Int32.toInt_inj] at h_64
      refine v_aload_n hC dX12_number_47 rfl ?_
      refine v_vi hC (rest := []) m_1 e_22 rfl mi_X12_good ms_X12_good (p_X12_good hW k_0) mx_X12_good ml_X12_139 (by decide) rfl (cells1 := 0) (slots1 := 0) (by decide) (by decide) (Nat.le_of_ble_eq_true rfl) (Nat.le_of_ble_eq_true rfl) rfl (Nat.le_of_ble_eq_true rfl) dX12_number_48 (fun r_65 L_66 f_67 h_68 => ?_)
      obtain ⟨rfl, rfl, b_69, x_70⟩ := h_68
      have fe_73 : fld (f a_0) 12 = (v_35 : Int32).toInt := by rw [e_22]; rfl
      rw [fe_73] at x_70
      clear fe_73
      try simp only [Int32.reduceToInt, Int64.reduceToInt] at x_70
      refine v_if_ne hC dX12_number_51 (tgt := 56) (by decide) (fun h_74 => ?_) (fun h_74 => ?_)
      · simp only [Int32.lt_iff_toInt_lt, Int32.le_iff_toInt_le, Int32.reduceToInt, ← Int32.toInt_inj] at h_74
        refine v_aload_n hC dX12_number_56 rfl ?_
        refine v_get hC fl_X12_131 m_1 e_22 rfl dX12_number_57 ?_
        refine v_istore_n hC dX12_number_60 (by decide) (lv' := [(3, .int v_34), (0, .ref a_0), (1, .int a_1), (2, .int a_2)]) rfl ?_
        refine v_aload_n hC dX12_number_61 rfl ?_
        refine v_vv hC (rest := []) m_1 e_22 rfl mi_X12_advance ms_X12_advance (p_X12_advance hW k_0) mx_X12_advance ml_X12_156 (by decide) rfl (cells1 := 0) (slots1 := 0) (by decide) (by decide) (Nat.le_of_ble_eq_true rfl) (Nat.le_of_ble_eq_true rfl) rfl (Nat.le_of_ble_eq_true rfl) dX12_number_62 (fun L_76 f_77 h_78 => ?_)
        obtain ⟨rfl, hW_83, hF_84, x_79, x_80, x_81, x_82⟩ := h_78
        have fe_85 : fld (f a_0) 8 = (v_28 : Int32).toInt := by rw [e_22]; rfl
        have fe_86 : fld (f a_0) 12 = (v_35 : Int32).toInt := by rw [e_22]; rfl
        have fe_87 : fld (f a_0) 20 = (v_39 : Int32).toInt := by rw [e_22]; rfl
        obtain ⟨v_89, v_90, v_92, v_94, v_96, v_98, v_100, v_101, v_102, v_103, v_105, e_88, b_91, b_93, b_95, b_97, b_99, b_104, b_106⟩ := hW_83.at m_1 t_2
        have fe_107 : fld (f_77 a_0) 8 = (v_94 : Int32).toInt := by rw [e_88]; rfl
        have fe_108 : fld (f_77 a_0) 9 = (v_96 : Int32).toInt := by rw [e_88]; rfl
        have fe_109 : fld (f_77 a_0) 10 = (v_98 : Int32).toInt := by rw [e_88]; rfl
        have fe_110 : fld (f_77 a_0) 12 = (v_101 : Int32).toInt := by rw [e_88]; rfl
        have fe_111 : fld (f_77 a_0) 20 = (v_105 : Int32).toInt := by rw [e_88]; rfl
        rw [fe_85, fe_108, fe_107] at x_79
        rw [fe_109, fe_108, fe_107] at x_80
        rw [fe_110, fe_86] at x_81
        rw [fe_111, fe_87] at x_82
        clear fe_85 fe_86 fe_87 fe_107 fe_108 fe_109 fe_110 fe_111
        refine v_iload_n hC dX12_number_65 rfl ?_
        have fe_112 : fld (f_77 a_0) 12 = (v_101 : Int32).toInt := by rw [e_88]; rfl
        have fe_113 : fld (f_77 a_0) 8 = (v_94 : Int32).toInt := by rw [e_88]; rfl
        have fe_114 : fld (f_77 a_0) 9 = (v_96 : Int32).toInt := by rw [e_88]; rfl
        have fe_115 : fld (f_77 a_0) 12 = (v_101 : Int32).toInt := by rw [e_88]; rfl
        have fe_116 : fld (f_77 a_0) 8 = (v_94 : Int32).toInt := by rw [e_88]; rfl
        have fe_117 : fld (f_77 a_0) 9 = (v_96 : Int32).toInt := by rw [e_88]; rfl
        have fe_118 : fld (f_77 a_0) 10 = (v_98 : Int32).toInt := by rw [e_88]; rfl
        have fe_119 : fld (f_77 a_0) 12 = (v_101 : Int32).toInt := by rw [e_88]; rfl
        have fe_120 : fld (f_77 a_0) 12 = (v_101 : Int32).toInt := by rw [e_88]; rfl
        have fe_121 : fld (f_77 a_0) 20 = (v_105 : Int32).toInt := by rw [e_88]; rfl
        have fe_122 : fld (f_77 a_0) 8 = (v_94 : Int32).toInt := by rw [e_88]; rfl
        have fe_123 : fld (f_77 a_0) 9 = (v_96 : Int32).toInt := by rw [e_88]; rfl
        have fe_124 : fld (f_77 a_0) 10 = (v_98 : Int32).toInt := by rw [e_88]; rfl
        have fe_125 : fld (f_77 a_0) 12 = (v_101 : Int32).toInt := by rw [e_88]; rfl
        exact hR _ _ _ _ _ _ _ dX12_number_66 rfl (Nat.le_of_ble_eq_true rfl) (Nat.le_of_ble_eq_true rfl) ⟨rfl, hW_83, (hF_84.mono rfl), (by simp only [fe_112, mz_43, true_and, and_true, or_true, true_or, false_or, or_false, false_and, and_false, not_true_eq_false, not_false_eq_true] <;> first | omega | (simp only [Int32.lt_iff_toInt_lt, Int32.le_iff_toInt_le, Int32.reduceToInt, ← Int32.toInt_inj, true_and, and_true, or_true, true_or, false_or, or_false, false_and, and_false, not_true_eq_false, not_false_eq_true] <;> omega)), (by simp only [fe_113, fe_114, fe_115, mz_41, mz_42, true_and, and_true, or_true, true_or, false_or, or_false, false_and, and_false, not_true_eq_false, not_false_eq_true] <;> first | omega | (simp only [Int32.lt_iff_toInt_lt, Int32.le_iff_toInt_le, Int32.reduceToInt, ← Int32.toInt_inj, true_and, and_true, or_true, true_or, false_or, or_false, false_and, and_false, not_true_eq_false, not_false_eq_true] <;> omega)), (by simp only [fe_116, fe_117, fe_118, fe_119, true_and, and_true, or_true, true_or, false_or, or_false, false_and, and_false, not_true_eq_false, not_false_eq_true] <;> first | omega | (simp only [Int32.lt_iff_toInt_lt, Int32.le_iff_toInt_le, Int32.reduceToInt, ← Int32.toInt_inj, true_and, and_true, or_true, true_or, false_or, or_false, false_and, and_false, not_true_eq_false, not_false_eq_true] <;> omega)), (by simp only [fe_120, true_and, and_true, or_true, true_or, false_or, or_false, false_and, and_false, not_true_eq_false, not_false_eq_true] <;> first | omega | (simp only [Int32.lt_iff_toInt_lt, Int32.le_iff_toInt_le, Int32.reduceToInt, ← Int32.toInt_inj, true_and, and_true, or_true, true_or, false_or, or_false, false_and, and_false, not_true_eq_false, not_false_eq_true] <;> omega)), (by simp only [fe_121, mz_44, true_and, and_true, or_true, true_or, false_or, or_false, false_and, and_false, not_true_eq_false, not_false_eq_true] <;> first | omega | (simp only [Int32.lt_iff_toInt_lt, Int32.le_iff_toInt_le, Int32.reduceToInt, ← Int32.toInt_inj, true_and, and_true, or_true, true_or, false_or, or_false, false_and, and_false, not_true_eq_false, not_false_eq_true] <;> omega)), (by simp only [fe_122, fe_123, fe_124, fe_125, mz_41, mz_42, mz_43, true_and, and_true, or_true, true_or, false_or, or_false, false_and, and_false, not_true_eq_false, not_false_eq_true] <;> first | omega | (simp only [Int32.lt_iff_toInt_lt, Int32.le_iff_toInt_le, Int32.reduceToInt, ← Int32.toInt_inj, true_and, and_true, or_true, true_or, false_or, or_false, false_and, and_false, not_true_eq_false, not_false_eq_true] <;> omega))⟩
      · simp only [Int32.lt_iff_toInt_lt, Int32.le_iff_toInt_le, Int32.reduceToInt, ← Int32.toInt_inj] at h_74
        refine v_iconst hC dX12_number_54 (v := 0) (by decide) ?_
        have fe_126 : fld (f a_0) 12 = (v_35 : Int32).toInt := by rw [e_22]; rfl
        have fe_127 : fld (f a_0) 8 = (v_28 : Int32).toInt := by rw [e_22]; rfl
        have fe_128 : fld (f a_0) 9 = (v_30 : Int32).toInt := by rw [e_22]; rfl
        have fe_129 : fld (f a_0) 12 = (v_35 : Int32).toInt := by rw [e_22]; rfl
        have fe_130 : fld (f a_0) 8 = (v_28 : Int32).toInt := by rw [e_22]; rfl
        have fe_131 : fld (f a_0) 9 = (v_30 : Int32).toInt := by rw [e_22]; rfl
        have fe_132 : fld (f a_0) 10 = (v_32 : Int32).toInt := by rw [e_22]; rfl
        have fe_133 : fld (f a_0) 12 = (v_35 : Int32).toInt := by rw [e_22]; rfl
        have fe_134 : fld (f a_0) 12 = (v_35 : Int32).toInt := by rw [e_22]; rfl
        have fe_135 : fld (f a_0) 20 = (v_39 : Int32).toInt := by rw [e_22]; rfl
        have fe_136 : fld (f a_0) 8 = (v_28 : Int32).toInt := by rw [e_22]; rfl
        have fe_137 : fld (f a_0) 9 = (v_30 : Int32).toInt := by rw [e_22]; rfl
        have fe_138 : fld (f a_0) 10 = (v_32 : Int32).toInt := by rw [e_22]; rfl
        have fe_139 : fld (f a_0) 12 = (v_35 : Int32).toInt := by rw [e_22]; rfl
        exact hR _ _ _ _ _ _ _ dX12_number_55 rfl (Nat.le_of_ble_eq_true rfl) (Nat.le_of_ble_eq_true rfl) ⟨rfl, hW, FR.rf, (by simp only [fe_126, mz_43, true_and, and_true, or_true, true_or, false_or, or_false, false_and, and_false, not_true_eq_false, not_false_eq_true] <;> first | omega | (simp only [Int32.lt_iff_toInt_lt, Int32.le_iff_toInt_le, Int32.reduceToInt, ← Int32.toInt_inj, true_and, and_true, or_true, true_or, false_or, or_false, false_and, and_false, not_true_eq_false, not_false_eq_true] <;> omega)), (by simp only [fe_127, fe_128, fe_129, mz_41, mz_42, true_and, and_true, or_true, true_or, false_or, or_false, false_and, and_false, not_true_eq_false, not_false_eq_true] <;> first | omega | (simp only [Int32.lt_iff_toInt_lt, Int32.le_iff_toInt_le, Int32.reduceToInt, ← Int32.toInt_inj, true_and, and_true, or_true, true_or, false_or, or_false, false_and, and_false, not_true_eq_false, not_false_eq_true] <;> omega)), (by simp only [fe_130, fe_131, fe_132, fe_133, true_and, and_true, or_true, true_or, false_or, or_false, false_and, and_false, not_true_eq_false, not_false_eq_true] <;> first | omega | (simp only [Int32.lt_iff_toInt_lt, Int32.le_iff_toInt_le, Int32.reduceToInt, ← Int32.toInt_inj, true_and, and_true, or_true, true_or, false_or, or_false, false_and, and_false, not_true_eq_false, not_false_eq_true] <;> omega)), (by simp only [fe_134, true_and, and_true, or_true, true_or, false_or, or_false, false_and, and_false, not_true_eq_false, not_false_eq_true] <;> first | omega | (simp only [Int32.lt_iff_toInt_lt, Int32.le_iff_toInt_le, Int32.reduceToInt, ← Int32.toInt_inj, true_and, and_true, or_true, true_or, false_or, or_false, false_and, and_false, not_true_eq_false, not_false_eq_true] <;> omega)), (by simp only [fe_135, mz_44, true_and, and_true, or_true, true_or, false_or, or_false, false_and, and_false, not_true_eq_false, not_false_eq_true] <;> first | omega | (simp only [Int32.lt_iff_toInt_lt, Int32.le_iff_toInt_le, Int32.reduceToInt, ← Int32.toInt_inj, true_and, and_true, or_true, true_or, false_or, or_false, false_and, and_false, not_true_eq_false, not_false_eq_true] <;> omega)), (by simp only [fe_136, fe_137, fe_138, fe_139, mz_41, mz_42, mz_43, true_and, and_true, or_true, true_or, false_or, or_false, false_and, and_false, not_true_eq_false, not_false_eq_true] <;> first | omega | (simp only [Int32.lt_iff_toInt_lt, Int32.le_iff_toInt_le, Int32.reduceToInt, ← Int32.toInt_inj, true_and, and_true, or_true, true_or, false_or, or_false, false_and, and_false, not_true_eq_false, not_false_eq_true] <;> omega))⟩
    · simp only [Int32.lt_iff_toInt_lt, Int32.le_iff_toInt_le, Int32.reduceToInt, ← Int32.toInt_inj] at h_64
      refine v_aload_n hC dX12_number_27 rfl ?_
      refine v_get hC fl_X12_131 m_1 e_22 rfl dX12_number_28 ?_
      obtain ⟨v_140, h_141⟩ : ∃ v9 : Int64, v_34.toInt64 = v9 := ⟨_, rfl⟩
      refine v_i2l hC dX12_number_31 h_141 ?_
      have h_142 : v_140.toInt = v_34.toInt := by rw [← h_141]; exact Int32.toInt_toInt64 _
      refine v_iload_n hC dX12_number_32 rfl ?_
      obtain ⟨v_143, h_144⟩ : ∃ v9 : Int64, a_1.toInt64 = v9 := ⟨_, rfl⟩
      refine v_i2l hC dX12_number_33 h_144 ?_
      have h_145 : v_143.toInt = a_1.toInt := by rw [← h_144]; exact Int32.toInt_toInt64 _
      refine v_iload_n hC dX12_number_34 rfl ?_
      obtain ⟨v_146, h_147⟩ : ∃ v9 : Int64, a_2.toInt64 = v9 := ⟨_, rfl⟩
      refine v_i2l hC dX12_number_35 h_147 ?_
      have h_148 : v_146.toInt = a_2.toInt := by rw [← h_147]; exact Int32.toInt_toInt64 _
      refine v_si hC (rest := []) mt_X12_in (p_X12_in hW) mx_X12_in ml_X12_79 (by decide) rfl (cells1 := 0) (slots1 := 0) (by decide) (by decide) (Nat.le_of_ble_eq_true rfl) (Nat.le_of_ble_eq_true rfl) rfl (Nat.le_of_ble_eq_true rfl) dX12_number_36 (fun r_149 L_150 f_151 h_152 => ?_)
      obtain ⟨rfl, rfl, b_153, x_154⟩ := h_152
      try simp only [Int32.reduceToInt, Int64.reduceToInt] at x_154
      refine v_if_ne hC dX12_number_39 (tgt := 47) (by decide) (fun h_157 => ?_) (fun h_157 => ?_)
      · simp only [Int32.lt_iff_toInt_lt, Int32.le_iff_toInt_le, Int32.reduceToInt, ← Int32.toInt_inj] at h_157
        refine v_aload_n hC dX12_number_47 rfl ?_
        refine v_vi hC (rest := []) m_1 e_22 rfl mi_X12_good ms_X12_good (p_X12_good hW k_0) mx_X12_good ml_X12_139 (by decide) rfl (cells1 := 0) (slots1 := 0) (by decide) (by decide) (Nat.le_of_ble_eq_true rfl) (Nat.le_of_ble_eq_true rfl) rfl (Nat.le_of_ble_eq_true rfl) dX12_number_48 (fun r_158 L_159 f_160 h_161 => ?_)
        obtain ⟨rfl, rfl, b_162, x_163⟩ := h_161
        have fe_166 : fld (f a_0) 12 = (v_35 : Int32).toInt := by rw [e_22]; rfl
        rw [fe_166] at x_163
        clear fe_166
        try simp only [Int32.reduceToInt, Int64.reduceToInt] at x_163
        refine v_if_ne hC dX12_number_51 (tgt := 56) (by decide) (fun h_167 => ?_) (fun h_167 => ?_)
        · simp only [Int32.lt_iff_toInt_lt, Int32.le_iff_toInt_le, Int32.reduceToInt, ← Int32.toInt_inj] at h_167
          refine v_aload_n hC dX12_number_56 rfl ?_
          refine v_get hC fl_X12_131 m_1 e_22 rfl dX12_number_57 ?_
          refine v_istore_n hC dX12_number_60 (by decide) (lv' := [(3, .int v_34), (0, .ref a_0), (1, .int a_1), (2, .int a_2)]) rfl ?_
          refine v_aload_n hC dX12_number_61 rfl ?_
          refine v_vv hC (rest := []) m_1 e_22 rfl mi_X12_advance ms_X12_advance (p_X12_advance hW k_0) mx_X12_advance ml_X12_156 (by decide) rfl (cells1 := 0) (slots1 := 0) (by decide) (by decide) (Nat.le_of_ble_eq_true rfl) (Nat.le_of_ble_eq_true rfl) rfl (Nat.le_of_ble_eq_true rfl) dX12_number_62 (fun L_169 f_170 h_171 => ?_)
          obtain ⟨rfl, hW_176, hF_177, x_172, x_173, x_174, x_175⟩ := h_171
          have fe_178 : fld (f a_0) 8 = (v_28 : Int32).toInt := by rw [e_22]; rfl
          have fe_179 : fld (f a_0) 12 = (v_35 : Int32).toInt := by rw [e_22]; rfl
          have fe_180 : fld (f a_0) 20 = (v_39 : Int32).toInt := by rw [e_22]; rfl
          obtain ⟨v_182, v_183, v_185, v_187, v_189, v_191, v_193, v_194, v_195, v_196, v_198, e_181, b_184, b_186, b_188, b_190, b_192, b_197, b_199⟩ := hW_176.at m_1 t_2
          have fe_200 : fld (f_170 a_0) 8 = (v_187 : Int32).toInt := by rw [e_181]; rfl
          have fe_201 : fld (f_170 a_0) 9 = (v_189 : Int32).toInt := by rw [e_181]; rfl
          have fe_202 : fld (f_170 a_0) 10 = (v_191 : Int32).toInt := by rw [e_181]; rfl
          have fe_203 : fld (f_170 a_0) 12 = (v_194 : Int32).toInt := by rw [e_181]; rfl
          have fe_204 : fld (f_170 a_0) 20 = (v_198 : Int32).toInt := by rw [e_181]; rfl
          rw [fe_178, fe_201, fe_200] at x_172
          rw [fe_202, fe_201, fe_200] at x_173
          rw [fe_203, fe_179] at x_174
          rw [fe_204, fe_180] at x_175
          clear fe_178 fe_179 fe_180 fe_200 fe_201 fe_202 fe_203 fe_204
          refine v_iload_n hC dX12_number_65 rfl ?_
          have fe_205 : fld (f_170 a_0) 12 = (v_194 : Int32).toInt := by rw [e_181]; rfl
          have fe_206 : fld (f_170 a_0) 8 = (v_187 : Int32).toInt := by rw [e_181]; rfl
          have fe_207 : fld (f_170 a_0) 9 = (v_189 : Int32).toInt := by rw [e_181]; rfl
          have fe_208 : fld (f_170 a_0) 12 = (v_194 : Int32).toInt := by rw [e_181]; rfl
          have fe_209 : fld (f_170 a_0) 8 = (v_187 : Int32).toInt := by rw [e_181]; rfl
          have fe_210 : fld (f_170 a_0) 9 = (v_189 : Int32).toInt := by rw [e_181]; rfl
          have fe_211 : fld (f_170 a_0) 10 = (v_191 : Int32).toInt := by rw [e_181]; rfl
          have fe_212 : fld (f_170 a_0) 12 = (v_194 : Int32).toInt := by rw [e_181]; rfl
          have fe_213 : fld (f_170 a_0) 12 = (v_194 : Int32).toInt := by rw [e_181]; rfl
          have fe_214 : fld (f_170 a_0) 20 = (v_198 : Int32).toInt := by rw [e_181]; rfl
          have fe_215 : fld (f_170 a_0) 8 = (v_187 : Int32).toInt := by rw [e_181]; rfl
          have fe_216 : fld (f_170 a_0) 9 = (v_189 : Int32).toInt := by rw [e_181]; rfl
          have fe_217 : fld (f_170 a_0) 10 = (v_191 : Int32).toInt := by rw [e_181]; rfl
          have fe_218 : fld (f_170 a_0) 12 = (v_194 : Int32).toInt := by rw [e_181]; rfl
          exact hR _ _ _ _ _ _ _ dX12_number_66 rfl (Nat.le_of_ble_eq_true rfl) (Nat.le_of_ble_eq_true rfl) ⟨rfl, hW_176, (hF_177.mono rfl), (by simp only [fe_205, mz_43, true_and, and_true, or_true, true_or, false_or, or_false, false_and, and_false, not_true_eq_false, not_false_eq_true] <;> first | omega | (simp only [Int32.lt_iff_toInt_lt, Int32.le_iff_toInt_le, Int32.reduceToInt, ← Int32.toInt_inj, true_and, and_true, or_true, true_or, false_or, or_false, false_and, and_false, not_true_eq_false, not_false_eq_true] <;> omega)), (by simp only [fe_206, fe_207, fe_208, mz_41, mz_42, true_and, and_true, or_true, true_or, false_or, or_false, false_and, and_false, not_true_eq_false, not_false_eq_true] <;> first | omega | (simp only [Int32.lt_iff_toInt_lt, Int32.le_iff_toInt_le, Int32.reduceToInt, ← Int32.toInt_inj, true_and, and_true, or_true, true_or, false_or, or_false, false_and, and_false, not_true_eq_false, not_false_eq_true] <;> omega)), (by simp only [fe_209, fe_210, fe_211, fe_212, true_and, and_true, or_true, true_or, false_or, or_false, false_and, and_false, not_true_eq_false, not_false_eq_true] <;> first | omega | (simp only [Int32.lt_iff_toInt_lt, Int32.le_iff_toInt_le, Int32.reduceToInt, ← Int32.toInt_inj, true_and, and_true, or_true, true_or, false_or, or_false, false_and, and_false, not_true_eq_false, not_false_eq_true] <;> omega)), (by simp only [fe_213, true_and, and_true, or_true, true_or, false_or, or_false, false_and, and_false, not_true_eq_false, not_false_eq_true] <;> first | omega | (simp only [Int32.lt_iff_toInt_lt, Int32.le_iff_toInt_le, Int32.reduceToInt, ← Int32.toInt_inj, true_and, and_true, or_true, true_or, false_or, or_false, false_and, and_false, not_true_eq_false, not_false_eq_true] <;> omega)), (by simp only [fe_214, mz_44, true_and, and_true, or_true, true_or, false_or, or_false, false_and, and_false, not_true_eq_false, not_false_eq_true] <;> first | omega | (simp only [Int32.lt_iff_toInt_lt, Int32.le_iff_toInt_le, Int32.reduceToInt, ← Int32.toInt_inj, true_and, and_true, or_true, true_or, false_or, or_false, false_and, and_false, not_true_eq_false, not_false_eq_true] <;> omega)), (by simp only [fe_215, fe_216, fe_217, fe_218, mz_41, mz_42, mz_43, true_and, and_true, or_true, true_or, false_or, or_false, false_and, and_false, not_true_eq_false, not_false_eq_true] <;> first | omega | (simp only [Int32.lt_iff_toInt_lt, Int32.le_iff_toInt_le, Int32.reduceToInt, ← Int32.toInt_inj, true_and, and_true, or_true, true_or, false_or, or_false, false_and, and_false, not_true_eq_false, not_false_eq_true] <;> omega))⟩
        · simp only [Int32.lt_iff_toInt_lt, Int32.le_iff_toInt_le, Int32.reduceToInt, ← Int32.toInt_inj] at h_167
          refine v_iconst hC dX12_number_54 (v := 0) (by decide) ?_
          have fe_219 : fld (f a_0) 12 = (v_35 : Int32).toInt := by rw [e_22]; rfl
          have fe_220 : fld (f a_0) 8 = (v_28 : Int32).toInt := by rw [e_22]; rfl
          have fe_221 : fld (f a_0) 9 = (v_30 : Int32).toInt := by rw [e_22]; rfl
          have fe_222 : fld (f a_0) 12 = (v_35 : Int32).toInt := by rw [e_22]; rfl
          have fe_223 : fld (f a_0) 8 = (v_28 : Int32).toInt := by rw [e_22]; rfl
          have fe_224 : fld (f a_0) 9 = (v_30 : Int32).toInt := by rw [e_22]; rfl
          have fe_225 : fld (f a_0) 10 = (v_32 : Int32).toInt := by rw [e_22]; rfl
          have fe_226 : fld (f a_0) 12 = (v_35 : Int32).toInt := by rw [e_22]; rfl
          have fe_227 : fld (f a_0) 12 = (v_35 : Int32).toInt := by rw [e_22]; rfl
          have fe_228 : fld (f a_0) 20 = (v_39 : Int32).toInt := by rw [e_22]; rfl
          have fe_229 : fld (f a_0) 8 = (v_28 : Int32).toInt := by rw [e_22]; rfl
          have fe_230 : fld (f a_0) 9 = (v_30 : Int32).toInt := by rw [e_22]; rfl
          have fe_231 : fld (f a_0) 10 = (v_32 : Int32).toInt := by rw [e_22]; rfl
          have fe_232 : fld (f a_0) 12 = (v_35 : Int32).toInt := by rw [e_22]; rfl
          exact hR _ _ _ _ _ _ _ dX12_number_55 rfl (Nat.le_of_ble_eq_true rfl) (Nat.le_of_ble_eq_true rfl) ⟨rfl, hW, FR.rf, (by simp only [fe_219, mz_43, true_and, and_true, or_true, true_or, false_or, or_false, false_and, and_false, not_true_eq_false, not_false_eq_true] <;> first | omega | (simp only [Int32.lt_iff_toInt_lt, Int32.le_iff_toInt_le, Int32.reduceToInt, ← Int32.toInt_inj, true_and, and_true, or_true, true_or, false_or, or_false, false_and, and_false, not_true_eq_false, not_false_eq_true] <;> omega)), (by simp only [fe_220, fe_221, fe_222, mz_41, mz_42, true_and, and_true, or_true, true_or, false_or, or_false, false_and, and_false, not_true_eq_false, not_false_eq_true] <;> first | omega | (simp only [Int32.lt_iff_toInt_lt, Int32.le_iff_toInt_le, Int32.reduceToInt, ← Int32.toInt_inj, true_and, and_true, or_true, true_or, false_or, or_false, false_and, and_false, not_true_eq_false, not_false_eq_true] <;> omega)), (by simp only [fe_223, fe_224, fe_225, fe_226, true_and, and_true, or_true, true_or, false_or, or_false, false_and, and_false, not_true_eq_false, not_false_eq_true] <;> first | omega | (simp only [Int32.lt_iff_toInt_lt, Int32.le_iff_toInt_le, Int32.reduceToInt, ← Int32.toInt_inj, true_and, and_true, or_true, true_or, false_or, or_false, false_and, and_false, not_true_eq_false, not_false_eq_true] <;> omega)), (by simp only [fe_227, true_and, and_true, or_true, true_or, false_or, or_false, false_and, and_false, not_true_eq_false, not_false_eq_true] <;> first | omega | (simp only [Int32.lt_iff_toInt_lt, Int32.le_iff_toInt_le, Int32.reduceToInt, ← Int32.toInt_inj, true_and, and_true, or_true, true_or, false_or, or_false, false_and, and_false, not_true_eq_false, not_false_eq_true] <;> omega)), (by simp only [fe_228, mz_44, true_and, and_true, or_true, true_or, false_or, or_false, false_and, and_false, not_true_eq_false, not_false_eq_true] <;> first | omega | (simp only [Int32.lt_iff_toInt_lt, Int32.le_iff_toInt_le, Int32.reduceToInt, ← Int32.toInt_inj, true_and, and_true, or_true, true_or, false_or, or_false, false_and, and_false, not_true_eq_false, not_false_eq_true] <;> omega)), (by simp only [fe_229, fe_230, fe_231, fe_232, mz_41, mz_42, mz_43, true_and, and_true, or_true, true_or, false_or, or_false, false_and, and_false, not_true_eq_false, not_false_eq_true] <;> first | omega | (simp only [Int32.lt_iff_toInt_lt, Int32.le_iff_toInt_le, Int32.reduceToInt, ← Int32.toInt_inj, true_and, and_true, or_true, true_or, false_or, or_false, false_and, and_false, not_true_eq_false, not_false_eq_true] <;> omega))⟩
      · simp only [Int32.lt_iff_toInt_lt, Int32.le_iff_toInt_le, Int32.reduceToInt, ← Int32.toInt_inj] at h_157
        refine v_aload_n hC dX12_number_42 rfl ?_
        refine v_iconst hC dX12_number_43 (v := 2) (by decide) ?_
        refine v_vv hC (rest := []) m_1 e_22 rfl mi_X12_errs ms_X12_errs (p_X12_errs hW k_0 (by decide)) mx_X12_errs ml_X12_162 (by decide) rfl (cells1 := 0) (slots1 := 0) (by decide) (by decide) (Nat.le_of_ble_eq_true rfl) (Nat.le_of_ble_eq_true rfl) rfl (Nat.le_of_ble_eq_true rfl) dX12_number_44 (fun L_234 f_235 h_236 => ?_)
        obtain ⟨rfl, hW_242, hF_243, x_237, x_238, x_239, x_240, x_241⟩ := h_236
        have fe_244 : fld (f a_0) 8 = (v_28 : Int32).toInt := by rw [e_22]; rfl
        have fe_245 : fld (f a_0) 9 = (v_30 : Int32).toInt := by rw [e_22]; rfl
        have fe_246 : fld (f a_0) 10 = (v_32 : Int32).toInt := by rw [e_22]; rfl
        have fe_247 : fld (f a_0) 20 = (v_39 : Int32).toInt := by rw [e_22]; rfl
        obtain ⟨v_249, v_250, v_252, v_254, v_256, v_258, v_260, v_261, v_262, v_263, v_265, e_248, b_251, b_253, b_255, b_257, b_259, b_264, b_266⟩ := hW_242.at m_1 t_2
        have fe_267 : fld (f_235 a_0) 8 = (v_254 : Int32).toInt := by rw [e_248]; rfl
        have fe_268 : fld (f_235 a_0) 9 = (v_256 : Int32).toInt := by rw [e_248]; rfl
        have fe_269 : fld (f_235 a_0) 10 = (v_258 : Int32).toInt := by rw [e_248]; rfl
        have fe_270 : fld (f_235 a_0) 12 = (v_261 : Int32).toInt := by rw [e_248]; rfl
        have fe_271 : fld (f_235 a_0) 20 = (v_265 : Int32).toInt := by rw [e_248]; rfl
        rw [fe_270] at x_237
        rw [fe_267, fe_244] at x_238
        rw [fe_268, fe_245] at x_239
        rw [fe_269, fe_246] at x_240
        rw [fe_271, fe_247] at x_241
        clear fe_244 fe_245 fe_246 fe_247 fe_267 fe_268 fe_269 fe_270 fe_271
        refine v_aload_n hC dX12_number_47 rfl ?_
        refine v_vi hC (rest := []) m_1 e_248 rfl mi_X12_good ms_X12_good (p_X12_good hW_242 k_0) mx_X12_good ml_X12_139 (by decide) rfl (cells1 := 0) (slots1 := 0) (by decide) (by decide) (Nat.le_of_ble_eq_true rfl) (Nat.le_of_ble_eq_true rfl) rfl (Nat.le_of_ble_eq_true rfl) dX12_number_48 (fun r_272 L_273 f_274 h_275 => ?_)
        obtain ⟨rfl, rfl, b_276, x_277⟩ := h_275
        have fe_280 : fld (f_235 a_0) 12 = (v_261 : Int32).toInt := by rw [e_248]; rfl
        rw [fe_280] at x_277
        clear fe_280
        try simp only [Int32.reduceToInt, Int64.reduceToInt] at x_277
        refine v_if_ne hC dX12_number_51 (tgt := 56) (by decide) (fun h_281 => ?_) (fun h_281 => ?_)
        · simp only [Int32.lt_iff_toInt_lt, Int32.le_iff_toInt_le, Int32.reduceToInt, ← Int32.toInt_inj] at h_281
          refine v_aload_n hC dX12_number_56 rfl ?_
          refine v_get hC fl_X12_131 m_1 e_248 rfl dX12_number_57 ?_
          refine v_istore_n hC dX12_number_60 (by decide) (lv' := [(3, .int v_260), (0, .ref a_0), (1, .int a_1), (2, .int a_2)]) rfl ?_
          refine v_aload_n hC dX12_number_61 rfl ?_
          refine v_vv hC (rest := []) m_1 e_248 rfl mi_X12_advance ms_X12_advance (p_X12_advance hW_242 k_0) mx_X12_advance ml_X12_156 (by decide) rfl (cells1 := 0) (slots1 := 0) (by decide) (by decide) (Nat.le_of_ble_eq_true rfl) (Nat.le_of_ble_eq_true rfl) rfl (Nat.le_of_ble_eq_true rfl) dX12_number_62 (fun L_283 f_284 h_285 => ?_)
          obtain ⟨rfl, hW_290, hF_291, x_286, x_287, x_288, x_289⟩ := h_285
          have fe_292 : fld (f_235 a_0) 8 = (v_254 : Int32).toInt := by rw [e_248]; rfl
          have fe_293 : fld (f_235 a_0) 12 = (v_261 : Int32).toInt := by rw [e_248]; rfl
          have fe_294 : fld (f_235 a_0) 20 = (v_265 : Int32).toInt := by rw [e_248]; rfl
          obtain ⟨v_296, v_297, v_299, v_301, v_303, v_305, v_307, v_308, v_309, v_310, v_312, e_295, b_298, b_300, b_302, b_304, b_306, b_311, b_313⟩ := hW_290.at m_1 t_2
          have fe_314 : fld (f_284 a_0) 8 = (v_301 : Int32).toInt := by rw [e_295]; rfl
          have fe_315 : fld (f_284 a_0) 9 = (v_303 : Int32).toInt := by rw [e_295]; rfl
          have fe_316 : fld (f_284 a_0) 10 = (v_305 : Int32).toInt := by rw [e_295]; rfl
          have fe_317 : fld (f_284 a_0) 12 = (v_308 : Int32).toInt := by rw [e_295]; rfl
          have fe_318 : fld (f_284 a_0) 20 = (v_312 : Int32).toInt := by rw [e_295]; rfl
          rw [fe_292, fe_315, fe_314] at x_286
          rw [fe_316, fe_315, fe_314] at x_287
          rw [fe_317, fe_293] at x_288
          rw [fe_318, fe_294] at x_289
          clear fe_292 fe_293 fe_294 fe_314 fe_315 fe_316 fe_317 fe_318
          refine v_iload_n hC dX12_number_65 rfl ?_
          have fe_319 : fld (f_284 a_0) 12 = (v_308 : Int32).toInt := by rw [e_295]; rfl
          have fe_320 : fld (f_284 a_0) 8 = (v_301 : Int32).toInt := by rw [e_295]; rfl
          have fe_321 : fld (f_284 a_0) 9 = (v_303 : Int32).toInt := by rw [e_295]; rfl
          have fe_322 : fld (f_284 a_0) 12 = (v_308 : Int32).toInt := by rw [e_295]; rfl
          have fe_323 : fld (f_284 a_0) 8 = (v_301 : Int32).toInt := by rw [e_295]; rfl
          have fe_324 : fld (f_284 a_0) 9 = (v_303 : Int32).toInt := by rw [e_295]; rfl
          have fe_325 : fld (f_284 a_0) 10 = (v_305 : Int32).toInt := by rw [e_295]; rfl
          have fe_326 : fld (f_284 a_0) 12 = (v_308 : Int32).toInt := by rw [e_295]; rfl
          have fe_327 : fld (f_284 a_0) 12 = (v_308 : Int32).toInt := by rw [e_295]; rfl
          have fe_328 : fld (f_284 a_0) 20 = (v_312 : Int32).toInt := by rw [e_295]; rfl
          have fe_329 : fld (f_284 a_0) 8 = (v_301 : Int32).toInt := by rw [e_295]; rfl
          have fe_330 : fld (f_284 a_0) 9 = (v_303 : Int32).toInt := by rw [e_295]; rfl
          have fe_331 : fld (f_284 a_0) 10 = (v_305 : Int32).toInt := by rw [e_295]; rfl
          have fe_332 : fld (f_284 a_0) 12 = (v_308 : Int32).toInt := by rw [e_295]; rfl
          exact hR _ _ _ _ _ _ _ dX12_number_66 rfl (Nat.le_of_ble_eq_true rfl) (Nat.le_of_ble_eq_true rfl) ⟨rfl, hW_290, ((hF_243.tr hF_291).mono rfl), (by simp only [fe_319, mz_43, true_and, and_true, or_true, true_or, false_or, or_false, false_and, and_false, not_true_eq_false, not_false_eq_true] <;> first | omega | (simp only [Int32.lt_iff_toInt_lt, Int32.le_iff_toInt_le, Int32.reduceToInt, ← Int32.toInt_inj, true_and, and_true, or_true, true_or, false_or, or_false, false_and, and_false, not_true_eq_false, not_false_eq_true] <;> omega)), (by simp only [fe_320, fe_321, fe_322, mz_41, mz_42, true_and, and_true, or_true, true_or, false_or, or_false, false_and, and_false, not_true_eq_false, not_false_eq_true] <;> first | omega | (simp only [Int32.lt_iff_toInt_lt, Int32.le_iff_toInt_le, Int32.reduceToInt, ← Int32.toInt_inj, true_and, and_true, or_true, true_or, false_or, or_false, false_and, and_false, not_true_eq_false, not_false_eq_true] <;> omega)), (by simp only [fe_323, fe_324, fe_325, fe_326, true_and, and_true, or_true, true_or, false_or, or_false, false_and, and_false, not_true_eq_false, not_false_eq_true] <;> first | omega | (simp only [Int32.lt_iff_toInt_lt, Int32.le_iff_toInt_le, Int32.reduceToInt, ← Int32.toInt_inj, true_and, and_true, or_true, true_or, false_or, or_false, false_and, and_false, not_true_eq_false, not_false_eq_true] <;> omega)), (by simp only [fe_327, true_and, and_true, or_true, true_or, false_or, or_false, false_and, and_false, not_true_eq_false, not_false_eq_true] <;> first | omega | (simp only [Int32.lt_iff_toInt_lt, Int32.le_iff_toInt_le, Int32.reduceToInt, ← Int32.toInt_inj, true_and, and_true, or_true, true_or, false_or, or_false, false_and, and_false, not_true_eq_false, not_false_eq_true] <;> omega)), (by simp only [fe_328, mz_44, true_and, and_true, or_true, true_or, false_or, or_false, false_and, and_false, not_true_eq_false, not_false_eq_true] <;> first | omega | (simp only [Int32.lt_iff_toInt_lt, Int32.le_iff_toInt_le, Int32.reduceToInt, ← Int32.toInt_inj, true_and, and_true, or_true, true_or, false_or, or_false, false_and, and_false, not_true_eq_false, not_false_eq_true] <;> omega)), (by simp only [fe_329, fe_330, fe_331, fe_332, mz_41, mz_42, mz_43, true_and, and_true, or_true, true_or, false_or, or_false, false_and, and_false, not_true_eq_false, not_false_eq_true] <;> first | omega | (simp only [Int32.lt_iff_toInt_lt, Int32.le_iff_toInt_le, Int32.reduceToInt, ← Int32.toInt_inj, true_and, and_true, or_true, true_or, false_or, or_false, false_and, and_false, not_true_eq_false, not_false_eq_true] <;> omega))⟩
        · simp only [Int32.lt_iff_toInt_lt, Int32.le_iff_toInt_le, Int32.reduceToInt, ← Int32.toInt_inj] at h_281
          refine v_iconst hC dX12_number_54 (v := 0) (by decide) ?_
          have fe_333 : fld (f_235 a_0) 12 = (v_261 : Int32).toInt := by rw [e_248]; rfl
          have fe_334 : fld (f_235 a_0) 8 = (v_254 : Int32).toInt := by rw [e_248]; rfl
          have fe_335 : fld (f_235 a_0) 9 = (v_256 : Int32).toInt := by rw [e_248]; rfl
          have fe_336 : fld (f_235 a_0) 12 = (v_261 : Int32).toInt := by rw [e_248]; rfl
          have fe_337 : fld (f_235 a_0) 8 = (v_254 : Int32).toInt := by rw [e_248]; rfl
          have fe_338 : fld (f_235 a_0) 9 = (v_256 : Int32).toInt := by rw [e_248]; rfl
          have fe_339 : fld (f_235 a_0) 10 = (v_258 : Int32).toInt := by rw [e_248]; rfl
          have fe_340 : fld (f_235 a_0) 12 = (v_261 : Int32).toInt := by rw [e_248]; rfl
          have fe_341 : fld (f_235 a_0) 12 = (v_261 : Int32).toInt := by rw [e_248]; rfl
          have fe_342 : fld (f_235 a_0) 20 = (v_265 : Int32).toInt := by rw [e_248]; rfl
          have fe_343 : fld (f_235 a_0) 8 = (v_254 : Int32).toInt := by rw [e_248]; rfl
          have fe_344 : fld (f_235 a_0) 9 = (v_256 : Int32).toInt := by rw [e_248]; rfl
          have fe_345 : fld (f_235 a_0) 10 = (v_258 : Int32).toInt := by rw [e_248]; rfl
          have fe_346 : fld (f_235 a_0) 12 = (v_261 : Int32).toInt := by rw [e_248]; rfl
          exact hR _ _ _ _ _ _ _ dX12_number_55 rfl (Nat.le_of_ble_eq_true rfl) (Nat.le_of_ble_eq_true rfl) ⟨rfl, hW_242, (hF_243.mono rfl), (by simp only [fe_333, mz_43, true_and, and_true, or_true, true_or, false_or, or_false, false_and, and_false, not_true_eq_false, not_false_eq_true] <;> first | omega | (simp only [Int32.lt_iff_toInt_lt, Int32.le_iff_toInt_le, Int32.reduceToInt, ← Int32.toInt_inj, true_and, and_true, or_true, true_or, false_or, or_false, false_and, and_false, not_true_eq_false, not_false_eq_true] <;> omega)), (by simp only [fe_334, fe_335, fe_336, mz_41, mz_42, true_and, and_true, or_true, true_or, false_or, or_false, false_and, and_false, not_true_eq_false, not_false_eq_true] <;> first | omega | (simp only [Int32.lt_iff_toInt_lt, Int32.le_iff_toInt_le, Int32.reduceToInt, ← Int32.toInt_inj, true_and, and_true, or_true, true_or, false_or, or_false, false_and, and_false, not_true_eq_false, not_false_eq_true] <;> omega)), (by simp only [fe_337, fe_338, fe_339, fe_340, true_and, and_true, or_true, true_or, false_or, or_false, false_and, and_false, not_true_eq_false, not_false_eq_true] <;> first | omega | (simp only [Int32.lt_iff_toInt_lt, Int32.le_iff_toInt_le, Int32.reduceToInt, ← Int32.toInt_inj, true_and, and_true, or_true, true_or, false_or, or_false, false_and, and_false, not_true_eq_false, not_false_eq_true] <;> omega)), (by simp only [fe_341, true_and, and_true, or_true, true_or, false_or, or_false, false_and, and_false, not_true_eq_false, not_false_eq_true] <;> first | omega | (simp only [Int32.lt_iff_toInt_lt, Int32.le_iff_toInt_le, Int32.reduceToInt, ← Int32.toInt_inj, true_and, and_true, or_true, true_or, false_or, or_false, false_and, and_false, not_true_eq_false, not_false_eq_true] <;> omega)), (by simp only [fe_342, mz_44, true_and, and_true, or_true, true_or, false_or, or_false, false_and, and_false, not_true_eq_false, not_false_eq_true] <;> first | omega | (simp only [Int32.lt_iff_toInt_lt, Int32.le_iff_toInt_le, Int32.reduceToInt, ← Int32.toInt_inj, true_and, and_true, or_true, true_or, false_or, or_false, false_and, and_false, not_true_eq_false, not_false_eq_true] <;> omega)), (by simp only [fe_343, fe_344, fe_345, fe_346, mz_41, mz_42, mz_43, true_and, and_true, or_true, true_or, false_or, or_false, false_and, and_false, not_true_eq_false, not_false_eq_true] <;> first | omega | (simp only [Int32.lt_iff_toInt_lt, Int32.le_iff_toInt_le, Int32.reduceToInt, ← Int32.toInt_inj, true_and, and_true, or_true, true_or, false_or, or_false, false_and, and_false, not_true_eq_false, not_false_eq_true] <;> omega))⟩
  · simp only [Int32.lt_iff_toInt_lt, Int32.le_iff_toInt_le, Int32.reduceToInt, ← Int32.toInt_inj] at h_54
    refine v_aload_n hC dX12_number_7 rfl ?_
    refine v_get hC fl_X12_120 m_1 e_22 rfl dX12_number_8 ?_
    refine v_iconst hC dX12_number_11 (v := 2) (by decide) ?_
    refine v_icmp_eq hC dX12_number_12 (tgt := 20) (by decide) (fun h_347 => ?_) (fun h_347 => ?_)
    · simp only [Int32.lt_iff_toInt_lt, Int32.le_iff_toInt_le, Int32.reduceToInt, ← Int32.toInt_inj] at h_347
      refine v_aload_n hC dX12_number_20 rfl ?_
      refine v_vi hC (rest := []) m_1 e_22 rfl mi_X12_good ms_X12_good (p_X12_good hW k_0) mx_X12_good ml_X12_139 (by decide) rfl (cells1 := 0) (slots1 := 0) (by decide) (by decide) (Nat.le_of_ble_eq_true rfl) (Nat.le_of_ble_eq_true rfl) rfl (Nat.le_of_ble_eq_true rfl) dX12_number_21 (fun r_348 L_349 f_350 h_351 => ?_)
      obtain ⟨rfl, rfl, b_352, x_353⟩ := h_351
      have fe_356 : fld (f a_0) 12 = (v_35 : Int32).toInt := by rw [e_22]; rfl
      rw [fe_356] at x_353
      clear fe_356
      try simp only [Int32.reduceToInt, Int64.reduceToInt] at x_353
      refine v_if_eq hC dX12_number_24 (tgt := 47) (by decide) (fun h_357 => ?_) (fun h_357 => ?_)
      · simp only [Int32.lt_iff_toInt_lt, Int32.le_iff_toInt_le, Int32.reduceToInt, ← Int32.toInt_inj] at h_357
        refine v_aload_n hC dX12_number_47 rfl ?_
        refine v_vi hC (rest := []) m_1 e_22 rfl mi_X12_good ms_X12_good (p_X12_good hW k_0) mx_X12_good ml_X12_139 (by decide) rfl (cells1 := 0) (slots1 := 0) (by decide) (by decide) (Nat.le_of_ble_eq_true rfl) (Nat.le_of_ble_eq_true rfl) rfl (Nat.le_of_ble_eq_true rfl) dX12_number_48 (fun r_358 L_359 f_360 h_361 => ?_)
        obtain ⟨rfl, rfl, b_362, x_363⟩ := h_361
        have fe_366 : fld (f a_0) 12 = (v_35 : Int32).toInt := by rw [e_22]; rfl
        rw [fe_366] at x_363
        clear fe_366
        try simp only [Int32.reduceToInt, Int64.reduceToInt] at x_363
        refine v_if_ne hC dX12_number_51 (tgt := 56) (by decide) (fun h_367 => ?_) (fun h_367 => ?_)
        · simp only [Int32.lt_iff_toInt_lt, Int32.le_iff_toInt_le, Int32.reduceToInt, ← Int32.toInt_inj] at h_367
          refine v_aload_n hC dX12_number_56 rfl ?_
          refine v_get hC fl_X12_131 m_1 e_22 rfl dX12_number_57 ?_
          refine v_istore_n hC dX12_number_60 (by decide) (lv' := [(3, .int v_34), (0, .ref a_0), (1, .int a_1), (2, .int a_2)]) rfl ?_
          refine v_aload_n hC dX12_number_61 rfl ?_
          refine v_vv hC (rest := []) m_1 e_22 rfl mi_X12_advance ms_X12_advance (p_X12_advance hW k_0) mx_X12_advance ml_X12_156 (by decide) rfl (cells1 := 0) (slots1 := 0) (by decide) (by decide) (Nat.le_of_ble_eq_true rfl) (Nat.le_of_ble_eq_true rfl) rfl (Nat.le_of_ble_eq_true rfl) dX12_number_62 (fun L_369 f_370 h_371 => ?_)
          obtain ⟨rfl, hW_376, hF_377, x_372, x_373, x_374, x_375⟩ := h_371
          have fe_378 : fld (f a_0) 8 = (v_28 : Int32).toInt := by rw [e_22]; rfl
          have fe_379 : fld (f a_0) 12 = (v_35 : Int32).toInt := by rw [e_22]; rfl
          have fe_380 : fld (f a_0) 20 = (v_39 : Int32).toInt := by rw [e_22]; rfl
          obtain ⟨v_382, v_383, v_385, v_387, v_389, v_391, v_393, v_394, v_395, v_396, v_398, e_381, b_384, b_386, b_388, b_390, b_392, b_397, b_399⟩ := hW_376.at m_1 t_2
          have fe_400 : fld (f_370 a_0) 8 = (v_387 : Int32).toInt := by rw [e_381]; rfl
          have fe_401 : fld (f_370 a_0) 9 = (v_389 : Int32).toInt := by rw [e_381]; rfl
          have fe_402 : fld (f_370 a_0) 10 = (v_391 : Int32).toInt := by rw [e_381]; rfl
          have fe_403 : fld (f_370 a_0) 12 = (v_394 : Int32).toInt := by rw [e_381]; rfl
          have fe_404 : fld (f_370 a_0) 20 = (v_398 : Int32).toInt := by rw [e_381]; rfl
          rw [fe_378, fe_401, fe_400] at x_372
          rw [fe_402, fe_401, fe_400] at x_373
          rw [fe_403, fe_379] at x_374
          rw [fe_404, fe_380] at x_375
          clear fe_378 fe_379 fe_380 fe_400 fe_401 fe_402 fe_403 fe_404
          refine v_iload_n hC dX12_number_65 rfl ?_
          have fe_405 : fld (f_370 a_0) 12 = (v_394 : Int32).toInt := by rw [e_381]; rfl
          have fe_406 : fld (f_370 a_0) 8 = (v_387 : Int32).toInt := by rw [e_381]; rfl
          have fe_407 : fld (f_370 a_0) 9 = (v_389 : Int32).toInt := by rw [e_381]; rfl
          have fe_408 : fld (f_370 a_0) 12 = (v_394 : Int32).toInt := by rw [e_381]; rfl
          have fe_409 : fld (f_370 a_0) 8 = (v_387 : Int32).toInt := by rw [e_381]; rfl
          have fe_410 : fld (f_370 a_0) 9 = (v_389 : Int32).toInt := by rw [e_381]; rfl
          have fe_411 : fld (f_370 a_0) 10 = (v_391 : Int32).toInt := by rw [e_381]; rfl
          have fe_412 : fld (f_370 a_0) 12 = (v_394 : Int32).toInt := by rw [e_381]; rfl
          have fe_413 : fld (f_370 a_0) 12 = (v_394 : Int32).toInt := by rw [e_381]; rfl
          have fe_414 : fld (f_370 a_0) 20 = (v_398 : Int32).toInt := by rw [e_381]; rfl
          have fe_415 : fld (f_370 a_0) 8 = (v_387 : Int32).toInt := by rw [e_381]; rfl
          have fe_416 : fld (f_370 a_0) 9 = (v_389 : Int32).toInt := by rw [e_381]; rfl
          have fe_417 : fld (f_370 a_0) 10 = (v_391 : Int32).toInt := by rw [e_381]; rfl
          have fe_418 : fld (f_370 a_0) 12 = (v_394 : Int32).toInt := by rw [e_381]; rfl
          exact hR _ _ _ _ _ _ _ dX12_number_66 rfl (Nat.le_of_ble_eq_true rfl) (Nat.le_of_ble_eq_true rfl) ⟨rfl, hW_376, (hF_377.mono rfl), (by simp only [fe_405, mz_43, true_and, and_true, or_true, true_or, false_or, or_false, false_and, and_false, not_true_eq_false, not_false_eq_true] <;> first | omega | (simp only [Int32.lt_iff_toInt_lt, Int32.le_iff_toInt_le, Int32.reduceToInt, ← Int32.toInt_inj, true_and, and_true, or_true, true_or, false_or, or_false, false_and, and_false, not_true_eq_false, not_false_eq_true] <;> omega)), (by simp only [fe_406, fe_407, fe_408, mz_41, mz_42, true_and, and_true, or_true, true_or, false_or, or_false, false_and, and_false, not_true_eq_false, not_false_eq_true] <;> first | omega | (simp only [Int32.lt_iff_toInt_lt, Int32.le_iff_toInt_le, Int32.reduceToInt, ← Int32.toInt_inj, true_and, and_true, or_true, true_or, false_or, or_false, false_and, and_false, not_true_eq_false, not_false_eq_true] <;> omega)), (by simp only [fe_409, fe_410, fe_411, fe_412, true_and, and_true, or_true, true_or, false_or, or_false, false_and, and_false, not_true_eq_false, not_false_eq_true] <;> first | omega | (simp only [Int32.lt_iff_toInt_lt, Int32.le_iff_toInt_le, Int32.reduceToInt, ← Int32.toInt_inj, true_and, and_true, or_true, true_or, false_or, or_false, false_and, and_false, not_true_eq_false, not_false_eq_true] <;> omega)), (by simp only [fe_413, true_and, and_true, or_true, true_or, false_or, or_false, false_and, and_false, not_true_eq_false, not_false_eq_true] <;> first | omega | (simp only [Int32.lt_iff_toInt_lt, Int32.le_iff_toInt_le, Int32.reduceToInt, ← Int32.toInt_inj, true_and, and_true, or_true, true_or, false_or, or_false, false_and, and_false, not_true_eq_false, not_false_eq_true] <;> omega)), (by simp only [fe_414, mz_44, true_and, and_true, or_true, true_or, false_or, or_false, false_and, and_false, not_true_eq_false, not_false_eq_true] <;> first | omega | (simp only [Int32.lt_iff_toInt_lt, Int32.le_iff_toInt_le, Int32.reduceToInt, ← Int32.toInt_inj, true_and, and_true, or_true, true_or, false_or, or_false, false_and, and_false, not_true_eq_false, not_false_eq_true] <;> omega)), (by simp only [fe_415, fe_416, fe_417, fe_418, mz_41, mz_42, mz_43, true_and, and_true, or_true, true_or, false_or, or_false, false_and, and_false, not_true_eq_false, not_false_eq_true] <;> first | omega | (simp only [Int32.lt_iff_toInt_lt, Int32.le_iff_toInt_le, Int32.reduceToInt, ← Int32.toInt_inj, true_and, and_true, or_true, true_or, false_or, or_false, false_and, and_false, not_true_eq_false, not_false_eq_true] <;> omega))⟩
        · simp only [Int32.lt_iff_toInt_lt, Int32.le_iff_toInt_le, Int32.reduceToInt, ← Int32.toInt_inj] at h_367
          refine v_iconst hC dX12_number_54 (v := 0) (by decide) ?_
          have fe_419 : fld (f a_0) 12 = (v_35 : Int32).toInt := by rw [e_22]; rfl
          have fe_420 : fld (f a_0) 8 = (v_28 : Int32).toInt := by rw [e_22]; rfl
          have fe_421 : fld (f a_0) 9 = (v_30 : Int32).toInt := by rw [e_22]; rfl
          have fe_422 : fld (f a_0) 12 = (v_35 : Int32).toInt := by rw [e_22]; rfl
          have fe_423 : fld (f a_0) 8 = (v_28 : Int32).toInt := by rw [e_22]; rfl
          have fe_424 : fld (f a_0) 9 = (v_30 : Int32).toInt := by rw [e_22]; rfl
          have fe_425 : fld (f a_0) 10 = (v_32 : Int32).toInt := by rw [e_22]; rfl
          have fe_426 : fld (f a_0) 12 = (v_35 : Int32).toInt := by rw [e_22]; rfl
          have fe_427 : fld (f a_0) 12 = (v_35 : Int32).toInt := by rw [e_22]; rfl
          have fe_428 : fld (f a_0) 20 = (v_39 : Int32).toInt := by rw [e_22]; rfl
          have fe_429 : fld (f a_0) 8 = (v_28 : Int32).toInt := by rw [e_22]; rfl
          have fe_430 : fld (f a_0) 9 = (v_30 : Int32).toInt := by rw [e_22]; rfl
          have fe_431 : fld (f a_0) 10 = (v_32 : Int32).toInt := by rw [e_22]; rfl
          have fe_432 : fld (f a_0) 12 = (v_35 : Int32).toInt := by rw [e_22]; rfl
          exact hR _ _ _ _ _ _ _ dX12_number_55 rfl (Nat.le_of_ble_eq_true rfl) (Nat.le_of_ble_eq_true rfl) ⟨rfl, hW, FR.rf, (by simp only [fe_419, mz_43, true_and, and_true, or_true, true_or, false_or, or_false, false_and, and_false, not_true_eq_false, not_false_eq_true] <;> first | omega | (simp only [Int32.lt_iff_toInt_lt, Int32.le_iff_toInt_le, Int32.reduceToInt, ← Int32.toInt_inj, true_and, and_true, or_true, true_or, false_or, or_false, false_and, and_false, not_true_eq_false, not_false_eq_true] <;> omega)), (by simp only [fe_420, fe_421, fe_422, mz_41, mz_42, true_and, and_true, or_true, true_or, false_or, or_false, false_and, and_false, not_true_eq_false, not_false_eq_true] <;> first | omega | (simp only [Int32.lt_iff_toInt_lt, Int32.le_iff_toInt_le, Int32.reduceToInt, ← Int32.toInt_inj, true_and, and_true, or_true, true_or, false_or, or_false, false_and, and_false, not_true_eq_false, not_false_eq_true] <;> omega)), (by simp only [fe_423, fe_424, fe_425, fe_426, true_and, and_true, or_true, true_or, false_or, or_false, false_and, and_false, not_true_eq_false, not_false_eq_true] <;> first | omega | (simp only [Int32.lt_iff_toInt_lt, Int32.le_iff_toInt_le, Int32.reduceToInt, ← Int32.toInt_inj, true_and, and_true, or_true, true_or, false_or, or_false, false_and, and_false, not_true_eq_false, not_false_eq_true] <;> omega)), (by simp only [fe_427, true_and, and_true, or_true, true_or, false_or, or_false, false_and, and_false, not_true_eq_false, not_false_eq_true] <;> first | omega | (simp only [Int32.lt_iff_toInt_lt, Int32.le_iff_toInt_le, Int32.reduceToInt, ← Int32.toInt_inj, true_and, and_true, or_true, true_or, false_or, or_false, false_and, and_false, not_true_eq_false, not_false_eq_true] <;> omega)), (by simp only [fe_428, mz_44, true_and, and_true, or_true, true_or, false_or, or_false, false_and, and_false, not_true_eq_false, not_false_eq_true] <;> first | omega | (simp only [Int32.lt_iff_toInt_lt, Int32.le_iff_toInt_le, Int32.reduceToInt, ← Int32.toInt_inj, true_and, and_true, or_true, true_or, false_or, or_false, false_and, and_false, not_true_eq_false, not_false_eq_true] <;> omega)), (by simp only [fe_429, fe_430, fe_431, fe_432, mz_41, mz_42, mz_43, true_and, and_true, or_true, true_or, false_or, or_false, false_and, and_false, not_true_eq_false, not_false_eq_true] <;> first | omega | (simp only [Int32.lt_iff_toInt_lt, Int32.le_iff_toInt_le, Int32.reduceToInt, ← Int32.toInt_inj, true_and, and_true, or_true, true_or, false_or, or_false, false_and, and_false, not_true_eq_false, not_false_eq_true] <;> omega))⟩
      · simp only [Int32.lt_iff_toInt_lt, Int32.le_iff_toInt_le, Int32.reduceToInt, ← Int32.toInt_inj] at h_357
        refine v_aload_n hC dX12_number_27 rfl ?_
        refine v_get hC fl_X12_131 m_1 e_22 rfl dX12_number_28 ?_
        obtain ⟨v_433, h_434⟩ : ∃ v9 : Int64, v_34.toInt64 = v9 := ⟨_, rfl⟩
        refine v_i2l hC dX12_number_31 h_434 ?_
        have h_435 : v_433.toInt = v_34.toInt := by rw [← h_434]; exact Int32.toInt_toInt64 _
        refine v_iload_n hC dX12_number_32 rfl ?_
        obtain ⟨v_436, h_437⟩ : ∃ v9 : Int64, a_1.toInt64 = v9 := ⟨_, rfl⟩
        refine v_i2l hC dX12_number_33 h_437 ?_
        have h_438 : v_436.toInt = a_1.toInt := by rw [← h_437]; exact Int32.toInt_toInt64 _
        refine v_iload_n hC dX12_number_34 rfl ?_
        obtain ⟨v_439, h_440⟩ : ∃ v9 : Int64, a_2.toInt64 = v9 := ⟨_, rfl⟩
        refine v_i2l hC dX12_number_35 h_440 ?_
        have h_441 : v_439.toInt = a_2.toInt := by rw [← h_440]; exact Int32.toInt_toInt64 _
        refine v_si hC (rest := []) mt_X12_in (p_X12_in hW) mx_X12_in ml_X12_79 (by decide) rfl (cells1 := 0) (slots1 := 0) (by decide) (by decide) (Nat.le_of_ble_eq_true rfl) (Nat.le_of_ble_eq_true rfl) rfl (Nat.le_of_ble_eq_true rfl) dX12_number_36 (fun r_442 L_443 f_444 h_445 => ?_)
        obtain ⟨rfl, rfl, b_446, x_447⟩ := h_445
        try simp only [Int32.reduceToInt, Int64.reduceToInt] at x_447
        refine v_if_ne hC dX12_number_39 (tgt := 47) (by decide) (fun h_450 => ?_) (fun h_450 => ?_)
        · simp only [Int32.lt_iff_toInt_lt, Int32.le_iff_toInt_le, Int32.reduceToInt, ← Int32.toInt_inj] at h_450
          refine v_aload_n hC dX12_number_47 rfl ?_
          refine v_vi hC (rest := []) m_1 e_22 rfl mi_X12_good ms_X12_good (p_X12_good hW k_0) mx_X12_good ml_X12_139 (by decide) rfl (cells1 := 0) (slots1 := 0) (by decide) (by decide) (Nat.le_of_ble_eq_true rfl) (Nat.le_of_ble_eq_true rfl) rfl (Nat.le_of_ble_eq_true rfl) dX12_number_48 (fun r_451 L_452 f_453 h_454 => ?_)
          obtain ⟨rfl, rfl, b_455, x_456⟩ := h_454
          have fe_459 : fld (f a_0) 12 = (v_35 : Int32).toInt := by rw [e_22]; rfl
          rw [fe_459] at x_456
          clear fe_459
          try simp only [Int32.reduceToInt, Int64.reduceToInt] at x_456
          refine v_if_ne hC dX12_number_51 (tgt := 56) (by decide) (fun h_460 => ?_) (fun h_460 => ?_)
          · simp only [Int32.lt_iff_toInt_lt, Int32.le_iff_toInt_le, Int32.reduceToInt, ← Int32.toInt_inj] at h_460
            refine v_aload_n hC dX12_number_56 rfl ?_
            refine v_get hC fl_X12_131 m_1 e_22 rfl dX12_number_57 ?_
            refine v_istore_n hC dX12_number_60 (by decide) (lv' := [(3, .int v_34), (0, .ref a_0), (1, .int a_1), (2, .int a_2)]) rfl ?_
            refine v_aload_n hC dX12_number_61 rfl ?_
            refine v_vv hC (rest := []) m_1 e_22 rfl mi_X12_advance ms_X12_advance (p_X12_advance hW k_0) mx_X12_advance ml_X12_156 (by decide) rfl (cells1 := 0) (slots1 := 0) (by decide) (by decide) (Nat.le_of_ble_eq_true rfl) (Nat.le_of_ble_eq_true rfl) rfl (Nat.le_of_ble_eq_true rfl) dX12_number_62 (fun L_462 f_463 h_464 => ?_)
            obtain ⟨rfl, hW_469, hF_470, x_465, x_466, x_467, x_468⟩ := h_464
            have fe_471 : fld (f a_0) 8 = (v_28 : Int32).toInt := by rw [e_22]; rfl
            have fe_472 : fld (f a_0) 12 = (v_35 : Int32).toInt := by rw [e_22]; rfl
            have fe_473 : fld (f a_0) 20 = (v_39 : Int32).toInt := by rw [e_22]; rfl
            obtain ⟨v_475, v_476, v_478, v_480, v_482, v_484, v_486, v_487, v_488, v_489, v_491, e_474, b_477, b_479, b_481, b_483, b_485, b_490, b_492⟩ := hW_469.at m_1 t_2
            have fe_493 : fld (f_463 a_0) 8 = (v_480 : Int32).toInt := by rw [e_474]; rfl
            have fe_494 : fld (f_463 a_0) 9 = (v_482 : Int32).toInt := by rw [e_474]; rfl
            have fe_495 : fld (f_463 a_0) 10 = (v_484 : Int32).toInt := by rw [e_474]; rfl
            have fe_496 : fld (f_463 a_0) 12 = (v_487 : Int32).toInt := by rw [e_474]; rfl
            have fe_497 : fld (f_463 a_0) 20 = (v_491 : Int32).toInt := by rw [e_474]; rfl
            rw [fe_471, fe_494, fe_493] at x_465
            rw [fe_495, fe_494, fe_493] at x_466
            rw [fe_496, fe_472] at x_467
            rw [fe_497, fe_473] at x_468
            clear fe_471 fe_472 fe_473 fe_493 fe_494 fe_495 fe_496 fe_497
            refine v_iload_n hC dX12_number_65 rfl ?_
            have fe_498 : fld (f_463 a_0) 12 = (v_487 : Int32).toInt := by rw [e_474]; rfl
            have fe_499 : fld (f_463 a_0) 8 = (v_480 : Int32).toInt := by rw [e_474]; rfl
            have fe_500 : fld (f_463 a_0) 9 = (v_482 : Int32).toInt := by rw [e_474]; rfl
            have fe_501 : fld (f_463 a_0) 12 = (v_487 : Int32).toInt := by rw [e_474]; rfl
            have fe_502 : fld (f_463 a_0) 8 = (v_480 : Int32).toInt := by rw [e_474]; rfl
            have fe_503 : fld (f_463 a_0) 9 = (v_482 : Int32).toInt := by rw [e_474]; rfl
            have fe_504 : fld (f_463 a_0) 10 = (v_484 : Int32).toInt := by rw [e_474]; rfl
            have fe_505 : fld (f_463 a_0) 12 = (v_487 : Int32).toInt := by rw [e_474]; rfl
            have fe_506 : fld (f_463 a_0) 12 = (v_487 : Int32).toInt := by rw [e_474]; rfl
            have fe_507 : fld (f_463 a_0) 20 = (v_491 : Int32).toInt := by rw [e_474]; rfl
            have fe_508 : fld (f_463 a_0) 8 = (v_480 : Int32).toInt := by rw [e_474]; rfl
            have fe_509 : fld (f_463 a_0) 9 = (v_482 : Int32).toInt := by rw [e_474]; rfl
            have fe_510 : fld (f_463 a_0) 10 = (v_484 : Int32).toInt := by rw [e_474]; rfl
            have fe_511 : fld (f_463 a_0) 12 = (v_487 : Int32).toInt := by rw [e_474]; rfl
            exact hR _ _ _ _ _ _ _ dX12_number_66 rfl (Nat.le_of_ble_eq_true rfl) (Nat.le_of_ble_eq_true rfl) ⟨rfl, hW_469, (hF_470.mono rfl), (by simp only [fe_498, mz_43, true_and, and_true, or_true, true_or, false_or, or_false, false_and, and_false, not_true_eq_false, not_false_eq_true] <;> first | omega | (simp only [Int32.lt_iff_toInt_lt, Int32.le_iff_toInt_le, Int32.reduceToInt, ← Int32.toInt_inj, true_and, and_true, or_true, true_or, false_or, or_false, false_and, and_false, not_true_eq_false, not_false_eq_true] <;> omega)), (by simp only [fe_499, fe_500, fe_501, mz_41, mz_42, true_and, and_true, or_true, true_or, false_or, or_false, false_and, and_false, not_true_eq_false, not_false_eq_true] <;> first | omega | (simp only [Int32.lt_iff_toInt_lt, Int32.le_iff_toInt_le, Int32.reduceToInt, ← Int32.toInt_inj, true_and, and_true, or_true, true_or, false_or, or_false, false_and, and_false, not_true_eq_false, not_false_eq_true] <;> omega)), (by simp only [fe_502, fe_503, fe_504, fe_505, true_and, and_true, or_true, true_or, false_or, or_false, false_and, and_false, not_true_eq_false, not_false_eq_true] <;> first | omega | (simp only [Int32.lt_iff_toInt_lt, Int32.le_iff_toInt_le, Int32.reduceToInt, ← Int32.toInt_inj, true_and, and_true, or_true, true_or, false_or, or_false, false_and, and_false, not_true_eq_false, not_false_eq_true] <;> omega)), (by simp only [fe_506, true_and, and_true, or_true, true_or, false_or, or_false, false_and, and_false, not_true_eq_false, not_false_eq_true] <;> first | omega | (simp only [Int32.lt_iff_toInt_lt, Int32.le_iff_toInt_le, Int32.reduceToInt, ← Int32.toInt_inj, true_and, and_true, or_true, true_or, false_or, or_false, false_and, and_false, not_true_eq_false, not_false_eq_true] <;> omega)), (by simp only [fe_507, mz_44, true_and, and_true, or_true, true_or, false_or, or_false, false_and, and_false, not_true_eq_false, not_false_eq_true] <;> first | omega | (simp only [Int32.lt_iff_toInt_lt, Int32.le_iff_toInt_le, Int32.reduceToInt, ← Int32.toInt_inj, true_and, and_true, or_true, true_or, false_or, or_false, false_and, and_false, not_true_eq_false, not_false_eq_true] <;> omega)), (by simp only [fe_508, fe_509, fe_510, fe_511, mz_41, mz_42, mz_43, true_and, and_true, or_true, true_or, false_or, or_false, false_and, and_false, not_true_eq_false, not_false_eq_true] <;> first | omega | (simp only [Int32.lt_iff_toInt_lt, Int32.le_iff_toInt_le, Int32.reduceToInt, ← Int32.toInt_inj, true_and, and_true, or_true, true_or, false_or, or_false, false_and, and_false, not_true_eq_false, not_false_eq_true] <;> omega))⟩
          · simp only [Int32.lt_iff_toInt_lt, Int32.le_iff_toInt_le, Int32.reduceToInt, ← Int32.toInt_inj] at h_460
            refine v_iconst hC dX12_number_54 (v := 0) (by decide) ?_
            have fe_512 : fld (f a_0) 12 = (v_35 : Int32).toInt := by rw [e_22]; rfl
            have fe_513 : fld (f a_0) 8 = (v_28 : Int32).toInt := by rw [e_22]; rfl
            have fe_514 : fld (f a_0) 9 = (v_30 : Int32).toInt := by rw [e_22]; rfl
            have fe_515 : fld (f a_0) 12 = (v_35 : Int32).toInt := by rw [e_22]; rfl
            have fe_516 : fld (f a_0) 8 = (v_28 : Int32).toInt := by rw [e_22]; rfl
            have fe_517 : fld (f a_0) 9 = (v_30 : Int32).toInt := by rw [e_22]; rfl
            have fe_518 : fld (f a_0) 10 = (v_32 : Int32).toInt := by rw [e_22]; rfl
            have fe_519 : fld (f a_0) 12 = (v_35 : Int32).toInt := by rw [e_22]; rfl
            have fe_520 : fld (f a_0) 12 = (v_35 : Int32).toInt := by rw [e_22]; rfl
            have fe_521 : fld (f a_0) 20 = (v_39 : Int32).toInt := by rw [e_22]; rfl
            have fe_522 : fld (f a_0) 8 = (v_28 : Int32).toInt := by rw [e_22]; rfl
            have fe_523 : fld (f a_0) 9 = (v_30 : Int32).toInt := by rw [e_22]; rfl
            have fe_524 : fld (f a_0) 10 = (v_32 : Int32).toInt := by rw [e_22]; rfl
            have fe_525 : fld (f a_0) 12 = (v_35 : Int32).toInt := by rw [e_22]; rfl
            exact hR _ _ _ _ _ _ _ dX12_number_55 rfl (Nat.le_of_ble_eq_true rfl) (Nat.le_of_ble_eq_true rfl) ⟨rfl, hW, FR.rf, (by simp only [fe_512, mz_43, true_and, and_true, or_true, true_or, false_or, or_false, false_and, and_false, not_true_eq_false, not_false_eq_true] <;> first | omega | (simp only [Int32.lt_iff_toInt_lt, Int32.le_iff_toInt_le, Int32.reduceToInt, ← Int32.toInt_inj, true_and, and_true, or_true, true_or, false_or, or_false, false_and, and_false, not_true_eq_false, not_false_eq_true] <;> omega)), (by simp only [fe_513, fe_514, fe_515, mz_41, mz_42, true_and, and_true, or_true, true_or, false_or, or_false, false_and, and_false, not_true_eq_false, not_false_eq_true] <;> first | omega | (simp only [Int32.lt_iff_toInt_lt, Int32.le_iff_toInt_le, Int32.reduceToInt, ← Int32.toInt_inj, true_and, and_true, or_true, true_or, false_or, or_false, false_and, and_false, not_true_eq_false, not_false_eq_true] <;> omega)), (by simp only [fe_516, fe_517, fe_518, fe_519, true_and, and_true, or_true, true_or, false_or, or_false, false_and, and_false, not_true_eq_false, not_false_eq_true] <;> first | omega | (simp only [Int32.lt_iff_toInt_lt, Int32.le_iff_toInt_le, Int32.reduceToInt, ← Int32.toInt_inj, true_and, and_true, or_true, true_or, false_or, or_false, false_and, and_false, not_true_eq_false, not_false_eq_true] <;> omega)), (by simp only [fe_520, true_and, and_true, or_true, true_or, false_or, or_false, false_and, and_false, not_true_eq_false, not_false_eq_true] <;> first | omega | (simp only [Int32.lt_iff_toInt_lt, Int32.le_iff_toInt_le, Int32.reduceToInt, ← Int32.toInt_inj, true_and, and_true, or_true, true_or, false_or, or_false, false_and, and_false, not_true_eq_false, not_false_eq_true] <;> omega)), (by simp only [fe_521, mz_44, true_and, and_true, or_true, true_or, false_or, or_false, false_and, and_false, not_true_eq_false, not_false_eq_true] <;> first | omega | (simp only [Int32.lt_iff_toInt_lt, Int32.le_iff_toInt_le, Int32.reduceToInt, ← Int32.toInt_inj, true_and, and_true, or_true, true_or, false_or, or_false, false_and, and_false, not_true_eq_false, not_false_eq_true] <;> omega)), (by simp only [fe_522, fe_523, fe_524, fe_525, mz_41, mz_42, mz_43, true_and, and_true, or_true, true_or, false_or, or_false, false_and, and_false, not_true_eq_false, not_false_eq_true] <;> first | omega | (simp only [Int32.lt_iff_toInt_lt, Int32.le_iff_toInt_le, Int32.reduceToInt, ← Int32.toInt_inj, true_and, and_true, or_true, true_or, false_or, or_false, false_and, and_false, not_true_eq_false, not_false_eq_true] <;> omega))⟩
        · simp only [Int32.lt_iff_toInt_lt, Int32.le_iff_toInt_le, Int32.reduceToInt, ← Int32.toInt_inj] at h_450
          refine v_aload_n hC dX12_number_42 rfl ?_
          refine v_iconst hC dX12_number_43 (v := 2) (by decide) ?_
          refine v_vv hC (rest := []) m_1 e_22 rfl mi_X12_errs ms_X12_errs (p_X12_errs hW k_0 (by decide)) mx_X12_errs ml_X12_162 (by decide) rfl (cells1 := 0) (slots1 := 0) (by decide) (by decide) (Nat.le_of_ble_eq_true rfl) (Nat.le_of_ble_eq_true rfl) rfl (Nat.le_of_ble_eq_true rfl) dX12_number_44 (fun L_527 f_528 h_529 => ?_)
          obtain ⟨rfl, hW_535, hF_536, x_530, x_531, x_532, x_533, x_534⟩ := h_529
          have fe_537 : fld (f a_0) 8 = (v_28 : Int32).toInt := by rw [e_22]; rfl
          have fe_538 : fld (f a_0) 9 = (v_30 : Int32).toInt := by rw [e_22]; rfl
          have fe_539 : fld (f a_0) 10 = (v_32 : Int32).toInt := by rw [e_22]; rfl
          have fe_540 : fld (f a_0) 20 = (v_39 : Int32).toInt := by rw [e_22]; rfl
          obtain ⟨v_542, v_543, v_545, v_547, v_549, v_551, v_553, v_554, v_555, v_556, v_558, e_541, b_544, b_546, b_548, b_550, b_552, b_557, b_559⟩ := hW_535.at m_1 t_2
          have fe_560 : fld (f_528 a_0) 8 = (v_547 : Int32).toInt := by rw [e_541]; rfl
          have fe_561 : fld (f_528 a_0) 9 = (v_549 : Int32).toInt := by rw [e_541]; rfl
          have fe_562 : fld (f_528 a_0) 10 = (v_551 : Int32).toInt := by rw [e_541]; rfl
          have fe_563 : fld (f_528 a_0) 12 = (v_554 : Int32).toInt := by rw [e_541]; rfl
          have fe_564 : fld (f_528 a_0) 20 = (v_558 : Int32).toInt := by rw [e_541]; rfl
          rw [fe_563] at x_530
          rw [fe_560, fe_537] at x_531
          rw [fe_561, fe_538] at x_532
          rw [fe_562, fe_539] at x_533
          rw [fe_564, fe_540] at x_534
          clear fe_537 fe_538 fe_539 fe_540 fe_560 fe_561 fe_562 fe_563 fe_564
          refine v_aload_n hC dX12_number_47 rfl ?_
          refine v_vi hC (rest := []) m_1 e_541 rfl mi_X12_good ms_X12_good (p_X12_good hW_535 k_0) mx_X12_good ml_X12_139 (by decide) rfl (cells1 := 0) (slots1 := 0) (by decide) (by decide) (Nat.le_of_ble_eq_true rfl) (Nat.le_of_ble_eq_true rfl) rfl (Nat.le_of_ble_eq_true rfl) dX12_number_48 (fun r_565 L_566 f_567 h_568 => ?_)
          obtain ⟨rfl, rfl, b_569, x_570⟩ := h_568
          have fe_573 : fld (f_528 a_0) 12 = (v_554 : Int32).toInt := by rw [e_541]; rfl
          rw [fe_573] at x_570
          clear fe_573
          try simp only [Int32.reduceToInt, Int64.reduceToInt] at x_570
          refine v_if_ne hC dX12_number_51 (tgt := 56) (by decide) (fun h_574 => ?_) (fun h_574 => ?_)
          · simp only [Int32.lt_iff_toInt_lt, Int32.le_iff_toInt_le, Int32.reduceToInt, ← Int32.toInt_inj] at h_574
            refine v_aload_n hC dX12_number_56 rfl ?_
            refine v_get hC fl_X12_131 m_1 e_541 rfl dX12_number_57 ?_
            refine v_istore_n hC dX12_number_60 (by decide) (lv' := [(3, .int v_553), (0, .ref a_0), (1, .int a_1), (2, .int a_2)]) rfl ?_
            refine v_aload_n hC dX12_number_61 rfl ?_
            refine v_vv hC (rest := []) m_1 e_541 rfl mi_X12_advance ms_X12_advance (p_X12_advance hW_535 k_0) mx_X12_advance ml_X12_156 (by decide) rfl (cells1 := 0) (slots1 := 0) (by decide) (by decide) (Nat.le_of_ble_eq_true rfl) (Nat.le_of_ble_eq_true rfl) rfl (Nat.le_of_ble_eq_true rfl) dX12_number_62 (fun L_576 f_577 h_578 => ?_)
            obtain ⟨rfl, hW_583, hF_584, x_579, x_580, x_581, x_582⟩ := h_578
            have fe_585 : fld (f_528 a_0) 8 = (v_547 : Int32).toInt := by rw [e_541]; rfl
            have fe_586 : fld (f_528 a_0) 12 = (v_554 : Int32).toInt := by rw [e_541]; rfl
            have fe_587 : fld (f_528 a_0) 20 = (v_558 : Int32).toInt := by rw [e_541]; rfl
            obtain ⟨v_589, v_590, v_592, v_594, v_596, v_598, v_600, v_601, v_602, v_603, v_605, e_588, b_591, b_593, b_595, b_597, b_599, b_604, b_606⟩ := hW_583.at m_1 t_2
            have fe_607 : fld (f_577 a_0) 8 = (v_594 : Int32).toInt := by rw [e_588]; rfl
            have fe_608 : fld (f_577 a_0) 9 = (v_596 : Int32).toInt := by rw [e_588]; rfl
            have fe_609 : fld (f_577 a_0) 10 = (v_598 : Int32).toInt := by rw [e_588]; rfl
            have fe_610 : fld (f_577 a_0) 12 = (v_601 : Int32).toInt := by rw [e_588]; rfl
            have fe_611 : fld (f_577 a_0) 20 = (v_605 : Int32).toInt := by rw [e_588]; rfl
            rw [fe_585, fe_608, fe_607] at x_579
            rw [fe_609, fe_608, fe_607] at x_580
            rw [fe_610, fe_586] at x_581
            rw [fe_611, fe_587] at x_582
            clear fe_585 fe_586 fe_587 fe_607 fe_608 fe_609 fe_610 fe_611
            refine v_iload_n hC dX12_number_65 rfl ?_
            have fe_612 : fld (f_577 a_0) 12 = (v_601 : Int32).toInt := by rw [e_588]; rfl
            have fe_613 : fld (f_577 a_0) 8 = (v_594 : Int32).toInt := by rw [e_588]; rfl
            have fe_614 : fld (f_577 a_0) 9 = (v_596 : Int32).toInt := by rw [e_588]; rfl
            have fe_615 : fld (f_577 a_0) 12 = (v_601 : Int32).toInt := by rw [e_588]; rfl
            have fe_616 : fld (f_577 a_0) 8 = (v_594 : Int32).toInt := by rw [e_588]; rfl
            have fe_617 : fld (f_577 a_0) 9 = (v_596 : Int32).toInt := by rw [e_588]; rfl
            have fe_618 : fld (f_577 a_0) 10 = (v_598 : Int32).toInt := by rw [e_588]; rfl
            have fe_619 : fld (f_577 a_0) 12 = (v_601 : Int32).toInt := by rw [e_588]; rfl
            have fe_620 : fld (f_577 a_0) 12 = (v_601 : Int32).toInt := by rw [e_588]; rfl
            have fe_621 : fld (f_577 a_0) 20 = (v_605 : Int32).toInt := by rw [e_588]; rfl
            have fe_622 : fld (f_577 a_0) 8 = (v_594 : Int32).toInt := by rw [e_588]; rfl
            have fe_623 : fld (f_577 a_0) 9 = (v_596 : Int32).toInt := by rw [e_588]; rfl
            have fe_624 : fld (f_577 a_0) 10 = (v_598 : Int32).toInt := by rw [e_588]; rfl
            have fe_625 : fld (f_577 a_0) 12 = (v_601 : Int32).toInt := by rw [e_588]; rfl
            exact hR _ _ _ _ _ _ _ dX12_number_66 rfl (Nat.le_of_ble_eq_true rfl) (Nat.le_of_ble_eq_true rfl) ⟨rfl, hW_583, ((hF_536.tr hF_584).mono rfl), (by simp only [fe_612, mz_43, true_and, and_true, or_true, true_or, false_or, or_false, false_and, and_false, not_true_eq_false, not_false_eq_true] <;> first | omega | (simp only [Int32.lt_iff_toInt_lt, Int32.le_iff_toInt_le, Int32.reduceToInt, ← Int32.toInt_inj, true_and, and_true, or_true, true_or, false_or, or_false, false_and, and_false, not_true_eq_false, not_false_eq_true] <;> omega)), (by simp only [fe_613, fe_614, fe_615, mz_41, mz_42, true_and, and_true, or_true, true_or, false_or, or_false, false_and, and_false, not_true_eq_false, not_false_eq_true] <;> first | omega | (simp only [Int32.lt_iff_toInt_lt, Int32.le_iff_toInt_le, Int32.reduceToInt, ← Int32.toInt_inj, true_and, and_true, or_true, true_or, false_or, or_false, false_and, and_false, not_true_eq_false, not_false_eq_true] <;> omega)), (by simp only [fe_616, fe_617, fe_618, fe_619, true_and, and_true, or_true, true_or, false_or, or_false, false_and, and_false, not_true_eq_false, not_false_eq_true] <;> first | omega | (simp only [Int32.lt_iff_toInt_lt, Int32.le_iff_toInt_le, Int32.reduceToInt, ← Int32.toInt_inj, true_and, and_true, or_true, true_or, false_or, or_false, false_and, and_false, not_true_eq_false, not_false_eq_true] <;> omega)), (by simp only [fe_620, true_and, and_true, or_true, true_or, false_or, or_false, false_and, and_false, not_true_eq_false, not_false_eq_true] <;> first | omega | (simp only [Int32.lt_iff_toInt_lt, Int32.le_iff_toInt_le, Int32.reduceToInt, ← Int32.toInt_inj, true_and, and_true, or_true, true_or, false_or, or_false, false_and, and_false, not_true_eq_false, not_false_eq_true] <;> omega)), (by simp only [fe_621, mz_44, true_and, and_true, or_true, true_or, false_or, or_false, false_and, and_false, not_true_eq_false, not_false_eq_true] <;> first | omega | (simp only [Int32.lt_iff_toInt_lt, Int32.le_iff_toInt_le, Int32.reduceToInt, ← Int32.toInt_inj, true_and, and_true, or_true, true_or, false_or, or_false, false_and, and_false, not_true_eq_false, not_false_eq_true] <;> omega)), (by simp only [fe_622, fe_623, fe_624, fe_625, mz_41, mz_42, mz_43, true_and, and_true, or_true, true_or, false_or, or_false, false_and, and_false, not_true_eq_false, not_false_eq_true] <;> first | omega | (simp only [Int32.lt_iff_toInt_lt, Int32.le_iff_toInt_le, Int32.reduceToInt, ← Int32.toInt_inj, true_and, and_true, or_true, true_or, false_or, or_false, false_and, and_false, not_true_eq_false, not_false_eq_true] <;> omega))⟩
          · simp only [Int32.lt_iff_toInt_lt, Int32.le_iff_toInt_le, Int32.reduceToInt, ← Int32.toInt_inj] at h_574
            refine v_iconst hC dX12_number_54 (v := 0) (by decide) ?_
            have fe_626 : fld (f_528 a_0) 12 = (v_554 : Int32).toInt := by rw [e_541]; rfl
            have fe_627 : fld (f_528 a_0) 8 = (v_547 : Int32).toInt := by rw [e_541]; rfl
            have fe_628 : fld (f_528 a_0) 9 = (v_549 : Int32).toInt := by rw [e_541]; rfl
            have fe_629 : fld (f_528 a_0) 12 = (v_554 : Int32).toInt := by rw [e_541]; rfl
            have fe_630 : fld (f_528 a_0) 8 = (v_547 : Int32).toInt := by rw [e_541]; rfl
            have fe_631 : fld (f_528 a_0) 9 = (v_549 : Int32).toInt := by rw [e_541]; rfl
            have fe_632 : fld (f_528 a_0) 10 = (v_551 : Int32).toInt := by rw [e_541]; rfl
            have fe_633 : fld (f_528 a_0) 12 = (v_554 : Int32).toInt := by rw [e_541]; rfl
            have fe_634 : fld (f_528 a_0) 12 = (v_554 : Int32).toInt := by rw [e_541]; rfl
            have fe_635 : fld (f_528 a_0) 20 = (v_558 : Int32).toInt := by rw [e_541]; rfl
            have fe_636 : fld (f_528 a_0) 8 = (v_547 : Int32).toInt := by rw [e_541]; rfl
            have fe_637 : fld (f_528 a_0) 9 = (v_549 : Int32).toInt := by rw [e_541]; rfl
            have fe_638 : fld (f_528 a_0) 10 = (v_551 : Int32).toInt := by rw [e_541]; rfl
            have fe_639 : fld (f_528 a_0) 12 = (v_554 : Int32).toInt := by rw [e_541]; rfl
            exact hR _ _ _ _ _ _ _ dX12_number_55 rfl (Nat.le_of_ble_eq_true rfl) (Nat.le_of_ble_eq_true rfl) ⟨rfl, hW_535, (hF_536.mono rfl), (by simp only [fe_626, mz_43, true_and, and_true, or_true, true_or, false_or, or_false, false_and, and_false, not_true_eq_false, not_false_eq_true] <;> first | omega | (simp only [Int32.lt_iff_toInt_lt, Int32.le_iff_toInt_le, Int32.reduceToInt, ← Int32.toInt_inj, true_and, and_true, or_true, true_or, false_or, or_false, false_and, and_false, not_true_eq_false, not_false_eq_true] <;> omega)), (by simp only [fe_627, fe_628, fe_629, mz_41, mz_42, true_and, and_true, or_true, true_or, false_or, or_false, false_and, and_false, not_true_eq_false, not_false_eq_true] <;> first | omega | (simp only [Int32.lt_iff_toInt_lt, Int32.le_iff_toInt_le, Int32.reduceToInt, ← Int32.toInt_inj, true_and, and_true, or_true, true_or, false_or, or_false, false_and, and_false, not_true_eq_false, not_false_eq_true] <;> omega)), (by simp only [fe_630, fe_631, fe_632, fe_633, true_and, and_true, or_true, true_or, false_or, or_false, false_and, and_false, not_true_eq_false, not_false_eq_true] <;> first | omega | (simp only [Int32.lt_iff_toInt_lt, Int32.le_iff_toInt_le, Int32.reduceToInt, ← Int32.toInt_inj, true_and, and_true, or_true, true_or, false_or, or_false, false_and, and_false, not_true_eq_false, not_false_eq_true] <;> omega)), (by simp only [fe_634, true_and, and_true, or_true, true_or, false_or, or_false, false_and, and_false, not_true_eq_false, not_false_eq_true] <;> first | omega | (simp only [Int32.lt_iff_toInt_lt, Int32.le_iff_toInt_le, Int32.reduceToInt, ← Int32.toInt_inj, true_and, and_true, or_true, true_or, false_or, or_false, false_and, and_false, not_true_eq_false, not_false_eq_true] <;> omega)), (by simp only [fe_635, mz_44, true_and, and_true, or_true, true_or, false_or, or_false, false_and, and_false, not_true_eq_false, not_false_eq_true] <;> first | omega | (simp only [Int32.lt_iff_toInt_lt, Int32.le_iff_toInt_le, Int32.reduceToInt, ← Int32.toInt_inj, true_and, and_true, or_true, true_or, false_or, or_false, false_and, and_false, not_true_eq_false, not_false_eq_true] <;> omega)), (by simp only [fe_636, fe_637, fe_638, fe_639, mz_41, mz_42, mz_43, true_and, and_true, or_true, true_or, false_or, or_false, false_and, and_false, not_true_eq_false, not_false_eq_true] <;> first | omega | (simp only [Int32.lt_iff_toInt_lt, Int32.le_iff_toInt_le, Int32.reduceToInt, ← Int32.toInt_inj, true_and, and_true, or_true, true_or, false_or, or_false, false_and, and_false, not_true_eq_false, not_false_eq_true] <;> omega))⟩
    · simp only [Int32.lt_iff_toInt_lt, Int32.le_iff_toInt_le, Int32.reduceToInt, ← Int32.toInt_inj] at h_347
      refine v_aload_n hC dX12_number_15 rfl ?_
      refine v_iconst hC dX12_number_16 (v := 1) (by decide) ?_
      refine v_vv hC (rest := []) m_1 e_22 rfl mi_X12_errs ms_X12_errs (p_X12_errs hW k_0 (by decide)) mx_X12_errs ml_X12_162 (by decide) rfl (cells1 := 0) (slots1 := 0) (by decide) (by decide) (Nat.le_of_ble_eq_true rfl) (Nat.le_of_ble_eq_true rfl) rfl (Nat.le_of_ble_eq_true rfl) dX12_number_17 (fun L_641 f_642 h_643 => ?_)
      obtain ⟨rfl, hW_649, hF_650, x_644, x_645, x_646, x_647, x_648⟩ := h_643
      have fe_651 : fld (f a_0) 8 = (v_28 : Int32).toInt := by rw [e_22]; rfl
      have fe_652 : fld (f a_0) 9 = (v_30 : Int32).toInt := by rw [e_22]; rfl
      have fe_653 : fld (f a_0) 10 = (v_32 : Int32).toInt := by rw [e_22]; rfl
      have fe_654 : fld (f a_0) 20 = (v_39 : Int32).toInt := by rw [e_22]; rfl
      obtain ⟨v_656, v_657, v_659, v_661, v_663, v_665, v_667, v_668, v_669, v_670, v_672, e_655, b_658, b_660, b_662, b_664, b_666, b_671, b_673⟩ := hW_649.at m_1 t_2
      have fe_674 : fld (f_642 a_0) 8 = (v_661 : Int32).toInt := by rw [e_655]; rfl
      have fe_675 : fld (f_642 a_0) 9 = (v_663 : Int32).toInt := by rw [e_655]; rfl
      have fe_676 : fld (f_642 a_0) 10 = (v_665 : Int32).toInt := by rw [e_655]; rfl
      have fe_677 : fld (f_642 a_0) 12 = (v_668 : Int32).toInt := by rw [e_655]; rfl
      have fe_678 : fld (f_642 a_0) 20 = (v_672 : Int32).toInt := by rw [e_655]; rfl
      rw [fe_677] at x_644
      rw [fe_674, fe_651] at x_645
      rw [fe_675, fe_652] at x_646
      rw [fe_676, fe_653] at x_647
      rw [fe_678, fe_654] at x_648
      clear fe_651 fe_652 fe_653 fe_654 fe_674 fe_675 fe_676 fe_677 fe_678
      refine v_aload_n hC dX12_number_20 rfl ?_
      refine v_vi hC (rest := []) m_1 e_655 rfl mi_X12_good ms_X12_good (p_X12_good hW_649 k_0) mx_X12_good ml_X12_139 (by decide) rfl (cells1 := 0) (slots1 := 0) (by decide) (by decide) (Nat.le_of_ble_eq_true rfl) (Nat.le_of_ble_eq_true rfl) rfl (Nat.le_of_ble_eq_true rfl) dX12_number_21 (fun r_679 L_680 f_681 h_682 => ?_)
      obtain ⟨rfl, rfl, b_683, x_684⟩ := h_682
      have fe_687 : fld (f_642 a_0) 12 = (v_668 : Int32).toInt := by rw [e_655]; rfl
      rw [fe_687] at x_684
      clear fe_687
      try simp only [Int32.reduceToInt, Int64.reduceToInt] at x_684
      refine v_if_eq hC dX12_number_24 (tgt := 47) (by decide) (fun h_688 => ?_) (fun h_688 => ?_)
      · simp only [Int32.lt_iff_toInt_lt, Int32.le_iff_toInt_le, Int32.reduceToInt, ← Int32.toInt_inj] at h_688
        refine v_aload_n hC dX12_number_47 rfl ?_
        refine v_vi hC (rest := []) m_1 e_655 rfl mi_X12_good ms_X12_good (p_X12_good hW_649 k_0) mx_X12_good ml_X12_139 (by decide) rfl (cells1 := 0) (slots1 := 0) (by decide) (by decide) (Nat.le_of_ble_eq_true rfl) (Nat.le_of_ble_eq_true rfl) rfl (Nat.le_of_ble_eq_true rfl) dX12_number_48 (fun r_689 L_690 f_691 h_692 => ?_)
        obtain ⟨rfl, rfl, b_693, x_694⟩ := h_692
        have fe_697 : fld (f_642 a_0) 12 = (v_668 : Int32).toInt := by rw [e_655]; rfl
        rw [fe_697] at x_694
        clear fe_697
        try simp only [Int32.reduceToInt, Int64.reduceToInt] at x_694
        refine v_if_ne hC dX12_number_51 (tgt := 56) (by decide) (fun h_698 => ?_) (fun h_698 => ?_)
        · simp only [Int32.lt_iff_toInt_lt, Int32.le_iff_toInt_le, Int32.reduceToInt, ← Int32.toInt_inj] at h_698
          refine v_aload_n hC dX12_number_56 rfl ?_
          refine v_get hC fl_X12_131 m_1 e_655 rfl dX12_number_57 ?_
          refine v_istore_n hC dX12_number_60 (by decide) (lv' := [(3, .int v_667), (0, .ref a_0), (1, .int a_1), (2, .int a_2)]) rfl ?_
          refine v_aload_n hC dX12_number_61 rfl ?_
          refine v_vv hC (rest := []) m_1 e_655 rfl mi_X12_advance ms_X12_advance (p_X12_advance hW_649 k_0) mx_X12_advance ml_X12_156 (by decide) rfl (cells1 := 0) (slots1 := 0) (by decide) (by decide) (Nat.le_of_ble_eq_true rfl) (Nat.le_of_ble_eq_true rfl) rfl (Nat.le_of_ble_eq_true rfl) dX12_number_62 (fun L_700 f_701 h_702 => ?_)
          obtain ⟨rfl, hW_707, hF_708, x_703, x_704, x_705, x_706⟩ := h_702
          have fe_709 : fld (f_642 a_0) 8 = (v_661 : Int32).toInt := by rw [e_655]; rfl
          have fe_710 : fld (f_642 a_0) 12 = (v_668 : Int32).toInt := by rw [e_655]; rfl
          have fe_711 : fld (f_642 a_0) 20 = (v_672 : Int32).toInt := by rw [e_655]; rfl
          obtain ⟨v_713, v_714, v_716, v_718, v_720, v_722, v_724, v_725, v_726, v_727, v_729, e_712, b_715, b_717, b_719, b_721, b_723, b_728, b_730⟩ := hW_707.at m_1 t_2
          have fe_731 : fld (f_701 a_0) 8 = (v_718 : Int32).toInt := by rw [e_712]; rfl
          have fe_732 : fld (f_701 a_0) 9 = (v_720 : Int32).toInt := by rw [e_712]; rfl
          have fe_733 : fld (f_701 a_0) 10 = (v_722 : Int32).toInt := by rw [e_712]; rfl
          have fe_734 : fld (f_701 a_0) 12 = (v_725 : Int32).toInt := by rw [e_712]; rfl
          have fe_735 : fld (f_701 a_0) 20 = (v_729 : Int32).toInt := by rw [e_712]; rfl
          rw [fe_709, fe_732, fe_731] at x_703
          rw [fe_733, fe_732, fe_731] at x_704
          rw [fe_734, fe_710] at x_705
          rw [fe_735, fe_711] at x_706
          clear fe_709 fe_710 fe_711 fe_731 fe_732 fe_733 fe_734 fe_735
          refine v_iload_n hC dX12_number_65 rfl ?_
          have fe_736 : fld (f_701 a_0) 12 = (v_725 : Int32).toInt := by rw [e_712]; rfl
          have fe_737 : fld (f_701 a_0) 8 = (v_718 : Int32).toInt := by rw [e_712]; rfl
          have fe_738 : fld (f_701 a_0) 9 = (v_720 : Int32).toInt := by rw [e_712]; rfl
          have fe_739 : fld (f_701 a_0) 12 = (v_725 : Int32).toInt := by rw [e_712]; rfl
          have fe_740 : fld (f_701 a_0) 8 = (v_718 : Int32).toInt := by rw [e_712]; rfl
          have fe_741 : fld (f_701 a_0) 9 = (v_720 : Int32).toInt := by rw [e_712]; rfl
          have fe_742 : fld (f_701 a_0) 10 = (v_722 : Int32).toInt := by rw [e_712]; rfl
          have fe_743 : fld (f_701 a_0) 12 = (v_725 : Int32).toInt := by rw [e_712]; rfl
          have fe_744 : fld (f_701 a_0) 12 = (v_725 : Int32).toInt := by rw [e_712]; rfl
          have fe_745 : fld (f_701 a_0) 20 = (v_729 : Int32).toInt := by rw [e_712]; rfl
          have fe_746 : fld (f_701 a_0) 8 = (v_718 : Int32).toInt := by rw [e_712]; rfl
          have fe_747 : fld (f_701 a_0) 9 = (v_720 : Int32).toInt := by rw [e_712]; rfl
          have fe_748 : fld (f_701 a_0) 10 = (v_722 : Int32).toInt := by rw [e_712]; rfl
          have fe_749 : fld (f_701 a_0) 12 = (v_725 : Int32).toInt := by rw [e_712]; rfl
          exact hR _ _ _ _ _ _ _ dX12_number_66 rfl (Nat.le_of_ble_eq_true rfl) (Nat.le_of_ble_eq_true rfl) ⟨rfl, hW_707, ((hF_650.tr hF_708).mono rfl), (by simp only [fe_736, mz_43, true_and, and_true, or_true, true_or, false_or, or_false, false_and, and_false, not_true_eq_false, not_false_eq_true] <;> first | omega | (simp only [Int32.lt_iff_toInt_lt, Int32.le_iff_toInt_le, Int32.reduceToInt, ← Int32.toInt_inj, true_and, and_true, or_true, true_or, false_or, or_false, false_and, and_false, not_true_eq_false, not_false_eq_true] <;> omega)), (by simp only [fe_737, fe_738, fe_739, mz_41, mz_42, true_and, and_true, or_true, true_or, false_or, or_false, false_and, and_false, not_true_eq_false, not_false_eq_true] <;> first | omega | (simp only [Int32.lt_iff_toInt_lt, Int32.le_iff_toInt_le, Int32.reduceToInt, ← Int32.toInt_inj, true_and, and_true, or_true, true_or, false_or, or_false, false_and, and_false, not_true_eq_false, not_false_eq_true] <;> omega)), (by simp only [fe_740, fe_741, fe_742, fe_743, true_and, and_true, or_true, true_or, false_or, or_false, false_and, and_false, not_true_eq_false, not_false_eq_true] <;> first | omega | (simp only [Int32.lt_iff_toInt_lt, Int32.le_iff_toInt_le, Int32.reduceToInt, ← Int32.toInt_inj, true_and, and_true, or_true, true_or, false_or, or_false, false_and, and_false, not_true_eq_false, not_false_eq_true] <;> omega)), (by simp only [fe_744, true_and, and_true, or_true, true_or, false_or, or_false, false_and, and_false, not_true_eq_false, not_false_eq_true] <;> first | omega | (simp only [Int32.lt_iff_toInt_lt, Int32.le_iff_toInt_le, Int32.reduceToInt, ← Int32.toInt_inj, true_and, and_true, or_true, true_or, false_or, or_false, false_and, and_false, not_true_eq_false, not_false_eq_true] <;> omega)), (by simp only [fe_745, mz_44, true_and, and_true, or_true, true_or, false_or, or_false, false_and, and_false, not_true_eq_false, not_false_eq_true] <;> first | omega | (simp only [Int32.lt_iff_toInt_lt, Int32.le_iff_toInt_le, Int32.reduceToInt, ← Int32.toInt_inj, true_and, and_true, or_true, true_or, false_or, or_false, false_and, and_false, not_true_eq_false, not_false_eq_true] <;> omega)), (by simp only [fe_746, fe_747, fe_748, fe_749, mz_41, mz_42, mz_43, true_and, and_true, or_true, true_or, false_or, or_false, false_and, and_false, not_true_eq_false, not_false_eq_true] <;> first | omega | (simp only [Int32.lt_iff_toInt_lt, Int32.le_iff_toInt_le, Int32.reduceToInt, ← Int32.toInt_inj, true_and, and_true, or_true, true_or, false_or, or_false, false_and, and_false, not_true_eq_false, not_false_eq_true] <;> omega))⟩
        · simp only [Int32.lt_iff_toInt_lt, Int32.le_iff_toInt_le, Int32.reduceToInt, ← Int32.toInt_inj] at h_698
          refine v_iconst hC dX12_number_54 (v := 0) (by decide) ?_
          have fe_750 : fld (f_642 a_0) 12 = (v_668 : Int32).toInt := by rw [e_655]; rfl
          have fe_751 : fld (f_642 a_0) 8 = (v_661 : Int32).toInt := by rw [e_655]; rfl
          have fe_752 : fld (f_642 a_0) 9 = (v_663 : Int32).toInt := by rw [e_655]; rfl
          have fe_753 : fld (f_642 a_0) 12 = (v_668 : Int32).toInt := by rw [e_655]; rfl
          have fe_754 : fld (f_642 a_0) 8 = (v_661 : Int32).toInt := by rw [e_655]; rfl
          have fe_755 : fld (f_642 a_0) 9 = (v_663 : Int32).toInt := by rw [e_655]; rfl
          have fe_756 : fld (f_642 a_0) 10 = (v_665 : Int32).toInt := by rw [e_655]; rfl
          have fe_757 : fld (f_642 a_0) 12 = (v_668 : Int32).toInt := by rw [e_655]; rfl
          have fe_758 : fld (f_642 a_0) 12 = (v_668 : Int32).toInt := by rw [e_655]; rfl
          have fe_759 : fld (f_642 a_0) 20 = (v_672 : Int32).toInt := by rw [e_655]; rfl
          have fe_760 : fld (f_642 a_0) 8 = (v_661 : Int32).toInt := by rw [e_655]; rfl
          have fe_761 : fld (f_642 a_0) 9 = (v_663 : Int32).toInt := by rw [e_655]; rfl
          have fe_762 : fld (f_642 a_0) 10 = (v_665 : Int32).toInt := by rw [e_655]; rfl
          have fe_763 : fld (f_642 a_0) 12 = (v_668 : Int32).toInt := by rw [e_655]; rfl
          exact hR _ _ _ _ _ _ _ dX12_number_55 rfl (Nat.le_of_ble_eq_true rfl) (Nat.le_of_ble_eq_true rfl) ⟨rfl, hW_649, (hF_650.mono rfl), (by simp only [fe_750, mz_43, true_and, and_true, or_true, true_or, false_or, or_false, false_and, and_false, not_true_eq_false, not_false_eq_true] <;> first | omega | (simp only [Int32.lt_iff_toInt_lt, Int32.le_iff_toInt_le, Int32.reduceToInt, ← Int32.toInt_inj, true_and, and_true, or_true, true_or, false_or, or_false, false_and, and_false, not_true_eq_false, not_false_eq_true] <;> omega)), (by simp only [fe_751, fe_752, fe_753, mz_41, mz_42, true_and, and_true, or_true, true_or, false_or, or_false, false_and, and_false, not_true_eq_false, not_false_eq_true] <;> first | omega | (simp only [Int32.lt_iff_toInt_lt, Int32.le_iff_toInt_le, Int32.reduceToInt, ← Int32.toInt_inj, true_and, and_true, or_true, true_or, false_or, or_false, false_and, and_false, not_true_eq_false, not_false_eq_true] <;> omega)), (by simp only [fe_754, fe_755, fe_756, fe_757, true_and, and_true, or_true, true_or, false_or, or_false, false_and, and_false, not_true_eq_false, not_false_eq_true] <;> first | omega | (simp only [Int32.lt_iff_toInt_lt, Int32.le_iff_toInt_le, Int32.reduceToInt, ← Int32.toInt_inj, true_and, and_true, or_true, true_or, false_or, or_false, false_and, and_false, not_true_eq_false, not_false_eq_true] <;> omega)), (by simp only [fe_758, true_and, and_true, or_true, true_or, false_or, or_false, false_and, and_false, not_true_eq_false, not_false_eq_true] <;> first | omega | (simp only [Int32.lt_iff_toInt_lt, Int32.le_iff_toInt_le, Int32.reduceToInt, ← Int32.toInt_inj, true_and, and_true, or_true, true_or, false_or, or_false, false_and, and_false, not_true_eq_false, not_false_eq_true] <;> omega)), (by simp only [fe_759, mz_44, true_and, and_true, or_true, true_or, false_or, or_false, false_and, and_false, not_true_eq_false, not_false_eq_true] <;> first | omega | (simp only [Int32.lt_iff_toInt_lt, Int32.le_iff_toInt_le, Int32.reduceToInt, ← Int32.toInt_inj, true_and, and_true, or_true, true_or, false_or, or_false, false_and, and_false, not_true_eq_false, not_false_eq_true] <;> omega)), (by simp only [fe_760, fe_761, fe_762, fe_763, mz_41, mz_42, mz_43, true_and, and_true, or_true, true_or, false_or, or_false, false_and, and_false, not_true_eq_false, not_false_eq_true] <;> first | omega | (simp only [Int32.lt_iff_toInt_lt, Int32.le_iff_toInt_le, Int32.reduceToInt, ← Int32.toInt_inj, true_and, and_true, or_true, true_or, false_or, or_false, false_and, and_false, not_true_eq_false, not_false_eq_true] <;> omega))⟩
      · simp only [Int32.lt_iff_toInt_lt, Int32.le_iff_toInt_le, Int32.reduceToInt, ← Int32.toInt_inj] at h_688
        refine v_aload_n hC dX12_number_27 rfl ?_
        refine v_get hC fl_X12_131 m_1 e_655 rfl dX12_number_28 ?_
        obtain ⟨v_764, h_765⟩ : ∃ v9 : Int64, v_667.toInt64 = v9 := ⟨_, rfl⟩
        refine v_i2l hC dX12_number_31 h_765 ?_
        have h_766 : v_764.toInt = v_667.toInt := by rw [← h_765]; exact Int32.toInt_toInt64 _
        refine v_iload_n hC dX12_number_32 rfl ?_
        obtain ⟨v_767, h_768⟩ : ∃ v9 : Int64, a_1.toInt64 = v9 := ⟨_, rfl⟩
        refine v_i2l hC dX12_number_33 h_768 ?_
        have h_769 : v_767.toInt = a_1.toInt := by rw [← h_768]; exact Int32.toInt_toInt64 _
        refine v_iload_n hC dX12_number_34 rfl ?_
        obtain ⟨v_770, h_771⟩ : ∃ v9 : Int64, a_2.toInt64 = v9 := ⟨_, rfl⟩
        refine v_i2l hC dX12_number_35 h_771 ?_
        have h_772 : v_770.toInt = a_2.toInt := by rw [← h_771]; exact Int32.toInt_toInt64 _
        refine v_si hC (rest := []) mt_X12_in (p_X12_in hW_649) mx_X12_in ml_X12_79 (by decide) rfl (cells1 := 0) (slots1 := 0) (by decide) (by decide) (Nat.le_of_ble_eq_true rfl) (Nat.le_of_ble_eq_true rfl) rfl (Nat.le_of_ble_eq_true rfl) dX12_number_36 (fun r_773 L_774 f_775 h_776 => ?_)
        obtain ⟨rfl, rfl, b_777, x_778⟩ := h_776
        try simp only [Int32.reduceToInt, Int64.reduceToInt] at x_778
        refine v_if_ne hC dX12_number_39 (tgt := 47) (by decide) (fun h_781 => ?_) (fun h_781 => ?_)
        · simp only [Int32.lt_iff_toInt_lt, Int32.le_iff_toInt_le, Int32.reduceToInt, ← Int32.toInt_inj] at h_781
          refine v_aload_n hC dX12_number_47 rfl ?_
          refine v_vi hC (rest := []) m_1 e_655 rfl mi_X12_good ms_X12_good (p_X12_good hW_649 k_0) mx_X12_good ml_X12_139 (by decide) rfl (cells1 := 0) (slots1 := 0) (by decide) (by decide) (Nat.le_of_ble_eq_true rfl) (Nat.le_of_ble_eq_true rfl) rfl (Nat.le_of_ble_eq_true rfl) dX12_number_48 (fun r_782 L_783 f_784 h_785 => ?_)
          obtain ⟨rfl, rfl, b_786, x_787⟩ := h_785
          have fe_790 : fld (f_642 a_0) 12 = (v_668 : Int32).toInt := by rw [e_655]; rfl
          rw [fe_790] at x_787
          clear fe_790
          try simp only [Int32.reduceToInt, Int64.reduceToInt] at x_787
          refine v_if_ne hC dX12_number_51 (tgt := 56) (by decide) (fun h_791 => ?_) (fun h_791 => ?_)
          · simp only [Int32.lt_iff_toInt_lt, Int32.le_iff_toInt_le, Int32.reduceToInt, ← Int32.toInt_inj] at h_791
            refine v_aload_n hC dX12_number_56 rfl ?_
            refine v_get hC fl_X12_131 m_1 e_655 rfl dX12_number_57 ?_
            refine v_istore_n hC dX12_number_60 (by decide) (lv' := [(3, .int v_667), (0, .ref a_0), (1, .int a_1), (2, .int a_2)]) rfl ?_
            refine v_aload_n hC dX12_number_61 rfl ?_
            refine v_vv hC (rest := []) m_1 e_655 rfl mi_X12_advance ms_X12_advance (p_X12_advance hW_649 k_0) mx_X12_advance ml_X12_156 (by decide) rfl (cells1 := 0) (slots1 := 0) (by decide) (by decide) (Nat.le_of_ble_eq_true rfl) (Nat.le_of_ble_eq_true rfl) rfl (Nat.le_of_ble_eq_true rfl) dX12_number_62 (fun L_793 f_794 h_795 => ?_)
            obtain ⟨rfl, hW_800, hF_801, x_796, x_797, x_798, x_799⟩ := h_795
            have fe_802 : fld (f_642 a_0) 8 = (v_661 : Int32).toInt := by rw [e_655]; rfl
            have fe_803 : fld (f_642 a_0) 12 = (v_668 : Int32).toInt := by rw [e_655]; rfl
            have fe_804 : fld (f_642 a_0) 20 = (v_672 : Int32).toInt := by rw [e_655]; rfl
            obtain ⟨v_806, v_807, v_809, v_811, v_813, v_815, v_817, v_818, v_819, v_820, v_822, e_805, b_808, b_810, b_812, b_814, b_816, b_821, b_823⟩ := hW_800.at m_1 t_2
            have fe_824 : fld (f_794 a_0) 8 = (v_811 : Int32).toInt := by rw [e_805]; rfl
            have fe_825 : fld (f_794 a_0) 9 = (v_813 : Int32).toInt := by rw [e_805]; rfl
            have fe_826 : fld (f_794 a_0) 10 = (v_815 : Int32).toInt := by rw [e_805]; rfl
            have fe_827 : fld (f_794 a_0) 12 = (v_818 : Int32).toInt := by rw [e_805]; rfl
            have fe_828 : fld (f_794 a_0) 20 = (v_822 : Int32).toInt := by rw [e_805]; rfl
            rw [fe_802, fe_825, fe_824] at x_796
            rw [fe_826, fe_825, fe_824] at x_797
            rw [fe_827, fe_803] at x_798
            rw [fe_828, fe_804] at x_799
            clear fe_802 fe_803 fe_804 fe_824 fe_825 fe_826 fe_827 fe_828
            refine v_iload_n hC dX12_number_65 rfl ?_
            have fe_829 : fld (f_794 a_0) 12 = (v_818 : Int32).toInt := by rw [e_805]; rfl
            have fe_830 : fld (f_794 a_0) 8 = (v_811 : Int32).toInt := by rw [e_805]; rfl
            have fe_831 : fld (f_794 a_0) 9 = (v_813 : Int32).toInt := by rw [e_805]; rfl
            have fe_832 : fld (f_794 a_0) 12 = (v_818 : Int32).toInt := by rw [e_805]; rfl
            have fe_833 : fld (f_794 a_0) 8 = (v_811 : Int32).toInt := by rw [e_805]; rfl
            have fe_834 : fld (f_794 a_0) 9 = (v_813 : Int32).toInt := by rw [e_805]; rfl
            have fe_835 : fld (f_794 a_0) 10 = (v_815 : Int32).toInt := by rw [e_805]; rfl
            have fe_836 : fld (f_794 a_0) 12 = (v_818 : Int32).toInt := by rw [e_805]; rfl
            have fe_837 : fld (f_794 a_0) 12 = (v_818 : Int32).toInt := by rw [e_805]; rfl
            have fe_838 : fld (f_794 a_0) 20 = (v_822 : Int32).toInt := by rw [e_805]; rfl
            have fe_839 : fld (f_794 a_0) 8 = (v_811 : Int32).toInt := by rw [e_805]; rfl
            have fe_840 : fld (f_794 a_0) 9 = (v_813 : Int32).toInt := by rw [e_805]; rfl
            have fe_841 : fld (f_794 a_0) 10 = (v_815 : Int32).toInt := by rw [e_805]; rfl
            have fe_842 : fld (f_794 a_0) 12 = (v_818 : Int32).toInt := by rw [e_805]; rfl
            exact hR _ _ _ _ _ _ _ dX12_number_66 rfl (Nat.le_of_ble_eq_true rfl) (Nat.le_of_ble_eq_true rfl) ⟨rfl, hW_800, ((hF_650.tr hF_801).mono rfl), (by simp only [fe_829, mz_43, true_and, and_true, or_true, true_or, false_or, or_false, false_and, and_false, not_true_eq_false, not_false_eq_true] <;> first | omega | (simp only [Int32.lt_iff_toInt_lt, Int32.le_iff_toInt_le, Int32.reduceToInt, ← Int32.toInt_inj, true_and, and_true, or_true, true_or, false_or, or_false, false_and, and_false, not_true_eq_false, not_false_eq_true] <;> omega)), (by simp only [fe_830, fe_831, fe_832, mz_41, mz_42, true_and, and_true, or_true, true_or, false_or, or_false, false_and, and_false, not_true_eq_false, not_false_eq_true] <;> first | omega | (simp only [Int32.lt_iff_toInt_lt, Int32.le_iff_toInt_le, Int32.reduceToInt, ← Int32.toInt_inj, true_and, and_true, or_true, true_or, false_or, or_false, false_and, and_false, not_true_eq_false, not_false_eq_true] <;> omega)), (by simp only [fe_833, fe_834, fe_835, fe_836, true_and, and_true, or_true, true_or, false_or, or_false, false_and, and_false, not_true_eq_false, not_false_eq_true] <;> first | omega | (simp only [Int32.lt_iff_toInt_lt, Int32.le_iff_toInt_le, Int32.reduceToInt, ← Int32.toInt_inj, true_and, and_true, or_true, true_or, false_or, or_false, false_and, and_false, not_true_eq_false, not_false_eq_true] <;> omega)), (by simp only [fe_837, true_and, and_true, or_true, true_or, false_or, or_false, false_and, and_false, not_true_eq_false, not_false_eq_true] <;> first | omega | (simp only [Int32.lt_iff_toInt_lt, Int32.le_iff_toInt_le, Int32.reduceToInt, ← Int32.toInt_inj, true_and, and_true, or_true, true_or, false_or, or_false, false_and, and_false, not_true_eq_false, not_false_eq_true] <;> omega)), (by simp only [fe_838, mz_44, true_and, and_true, or_true, true_or, false_or, or_false, false_and, and_false, not_true_eq_false, not_false_eq_true] <;> first | omega | (simp only [Int32.lt_iff_toInt_lt, Int32.le_iff_toInt_le, Int32.reduceToInt, ← Int32.toInt_inj, true_and, and_true, or_true, true_or, false_or, or_false, false_and, and_false, not_true_eq_false, not_false_eq_true] <;> omega)), (by simp only [fe_839, fe_840, fe_841, fe_842, mz_41, mz_42, mz_43, true_and, and_true, or_true, true_or, false_or, or_false, false_and, and_false, not_true_eq_false, not_false_eq_true] <;> first | omega | (simp only [Int32.lt_iff_toInt_lt, Int32.le_iff_toInt_le, Int32.reduceToInt, ← Int32.toInt_inj, true_and, and_true, or_true, true_or, false_or, or_false, false_and, and_false, not_true_eq_false, not_false_eq_true] <;> omega))⟩
          · simp only [Int32.lt_iff_toInt_lt, Int32.le_iff_toInt_le, Int32.reduceToInt, ← Int32.toInt_inj] at h_791
            refine v_iconst hC dX12_number_54 (v := 0) (by decide) ?_
            have fe_843 : fld (f_642 a_0) 12 = (v_668 : Int32).toInt := by rw [e_655]; rfl
            have fe_844 : fld (f_642 a_0) 8 = (v_661 : Int32).toInt := by rw [e_655]; rfl
            have fe_845 : fld (f_642 a_0) 9 = (v_663 : Int32).toInt := by rw [e_655]; rfl
            have fe_846 : fld (f_642 a_0) 12 = (v_668 : Int32).toInt := by rw [e_655]; rfl
            have fe_847 : fld (f_642 a_0) 8 = (v_661 : Int32).toInt := by rw [e_655]; rfl
            have fe_848 : fld (f_642 a_0) 9 = (v_663 : Int32).toInt := by rw [e_655]; rfl
            have fe_849 : fld (f_642 a_0) 10 = (v_665 : Int32).toInt := by rw [e_655]; rfl
            have fe_850 : fld (f_642 a_0) 12 = (v_668 : Int32).toInt := by rw [e_655]; rfl
            have fe_851 : fld (f_642 a_0) 12 = (v_668 : Int32).toInt := by rw [e_655]; rfl
            have fe_852 : fld (f_642 a_0) 20 = (v_672 : Int32).toInt := by rw [e_655]; rfl
            have fe_853 : fld (f_642 a_0) 8 = (v_661 : Int32).toInt := by rw [e_655]; rfl
            have fe_854 : fld (f_642 a_0) 9 = (v_663 : Int32).toInt := by rw [e_655]; rfl
            have fe_855 : fld (f_642 a_0) 10 = (v_665 : Int32).toInt := by rw [e_655]; rfl
            have fe_856 : fld (f_642 a_0) 12 = (v_668 : Int32).toInt := by rw [e_655]; rfl
            exact hR _ _ _ _ _ _ _ dX12_number_55 rfl (Nat.le_of_ble_eq_true rfl) (Nat.le_of_ble_eq_true rfl) ⟨rfl, hW_649, (hF_650.mono rfl), (by simp only [fe_843, mz_43, true_and, and_true, or_true, true_or, false_or, or_false, false_and, and_false, not_true_eq_false, not_false_eq_true] <;> first | omega | (simp only [Int32.lt_iff_toInt_lt, Int32.le_iff_toInt_le, Int32.reduceToInt, ← Int32.toInt_inj, true_and, and_true, or_true, true_or, false_or, or_false, false_and, and_false, not_true_eq_false, not_false_eq_true] <;> omega)), (by simp only [fe_844, fe_845, fe_846, mz_41, mz_42, true_and, and_true, or_true, true_or, false_or, or_false, false_and, and_false, not_true_eq_false, not_false_eq_true] <;> first | omega | (simp only [Int32.lt_iff_toInt_lt, Int32.le_iff_toInt_le, Int32.reduceToInt, ← Int32.toInt_inj, true_and, and_true, or_true, true_or, false_or, or_false, false_and, and_false, not_true_eq_false, not_false_eq_true] <;> omega)), (by simp only [fe_847, fe_848, fe_849, fe_850, true_and, and_true, or_true, true_or, false_or, or_false, false_and, and_false, not_true_eq_false, not_false_eq_true] <;> first | omega | (simp only [Int32.lt_iff_toInt_lt, Int32.le_iff_toInt_le, Int32.reduceToInt, ← Int32.toInt_inj, true_and, and_true, or_true, true_or, false_or, or_false, false_and, and_false, not_true_eq_false, not_false_eq_true] <;> omega)), (by simp only [fe_851, true_and, and_true, or_true, true_or, false_or, or_false, false_and, and_false, not_true_eq_false, not_false_eq_true] <;> first | omega | (simp only [Int32.lt_iff_toInt_lt, Int32.le_iff_toInt_le, Int32.reduceToInt, ← Int32.toInt_inj, true_and, and_true, or_true, true_or, false_or, or_false, false_and, and_false, not_true_eq_false, not_false_eq_true] <;> omega)), (by simp only [fe_852, mz_44, true_and, and_true, or_true, true_or, false_or, or_false, false_and, and_false, not_true_eq_false, not_false_eq_true] <;> first | omega | (simp only [Int32.lt_iff_toInt_lt, Int32.le_iff_toInt_le, Int32.reduceToInt, ← Int32.toInt_inj, true_and, and_true, or_true, true_or, false_or, or_false, false_and, and_false, not_true_eq_false, not_false_eq_true] <;> omega)), (by simp only [fe_853, fe_854, fe_855, fe_856, mz_41, mz_42, mz_43, true_and, and_true, or_true, true_or, false_or, or_false, false_and, and_false, not_true_eq_false, not_false_eq_true] <;> first | omega | (simp only [Int32.lt_iff_toInt_lt, Int32.le_iff_toInt_le, Int32.reduceToInt, ← Int32.toInt_inj, true_and, and_true, or_true, true_or, false_or, or_false, false_and, and_false, not_true_eq_false, not_false_eq_true] <;> omega))⟩
        · simp only [Int32.lt_iff_toInt_lt, Int32.le_iff_toInt_le, Int32.reduceToInt, ← Int32.toInt_inj] at h_781
          refine v_aload_n hC dX12_number_42 rfl ?_
          refine v_iconst hC dX12_number_43 (v := 2) (by decide) ?_
          refine v_vv hC (rest := []) m_1 e_655 rfl mi_X12_errs ms_X12_errs (p_X12_errs hW_649 k_0 (by decide)) mx_X12_errs ml_X12_162 (by decide) rfl (cells1 := 0) (slots1 := 0) (by decide) (by decide) (Nat.le_of_ble_eq_true rfl) (Nat.le_of_ble_eq_true rfl) rfl (Nat.le_of_ble_eq_true rfl) dX12_number_44 (fun L_858 f_859 h_860 => ?_)
          obtain ⟨rfl, hW_866, hF_867, x_861, x_862, x_863, x_864, x_865⟩ := h_860
          have fe_868 : fld (f_642 a_0) 8 = (v_661 : Int32).toInt := by rw [e_655]; rfl
          have fe_869 : fld (f_642 a_0) 9 = (v_663 : Int32).toInt := by rw [e_655]; rfl
          have fe_870 : fld (f_642 a_0) 10 = (v_665 : Int32).toInt := by rw [e_655]; rfl
          have fe_871 : fld (f_642 a_0) 20 = (v_672 : Int32).toInt := by rw [e_655]; rfl
          obtain ⟨v_873, v_874, v_876, v_878, v_880, v_882, v_884, v_885, v_886, v_887, v_889, e_872, b_875, b_877, b_879, b_881, b_883, b_888, b_890⟩ := hW_866.at m_1 t_2
          have fe_891 : fld (f_859 a_0) 8 = (v_878 : Int32).toInt := by rw [e_872]; rfl
          have fe_892 : fld (f_859 a_0) 9 = (v_880 : Int32).toInt := by rw [e_872]; rfl
          have fe_893 : fld (f_859 a_0) 10 = (v_882 : Int32).toInt := by rw [e_872]; rfl
          have fe_894 : fld (f_859 a_0) 12 = (v_885 : Int32).toInt := by rw [e_872]; rfl
          have fe_895 : fld (f_859 a_0) 20 = (v_889 : Int32).toInt := by rw [e_872]; rfl
          rw [fe_894] at x_861
          rw [fe_891, fe_868] at x_862
          rw [fe_892, fe_869] at x_863
          rw [fe_893, fe_870] at x_864
          rw [fe_895, fe_871] at x_865
          clear fe_868 fe_869 fe_870 fe_871 fe_891 fe_892 fe_893 fe_894 fe_895
          refine v_aload_n hC dX12_number_47 rfl ?_
          refine v_vi hC (rest := []) m_1 e_872 rfl mi_X12_good ms_X12_good (p_X12_good hW_866 k_0) mx_X12_good ml_X12_139 (by decide) rfl (cells1 := 0) (slots1 := 0) (by decide) (by decide) (Nat.le_of_ble_eq_true rfl) (Nat.le_of_ble_eq_true rfl) rfl (Nat.le_of_ble_eq_true rfl) dX12_number_48 (fun r_896 L_897 f_898 h_899 => ?_)
          obtain ⟨rfl, rfl, b_900, x_901⟩ := h_899
          have fe_904 : fld (f_859 a_0) 12 = (v_885 : Int32).toInt := by rw [e_872]; rfl
          rw [fe_904] at x_901
          clear fe_904
          try simp only [Int32.reduceToInt, Int64.reduceToInt] at x_901
          refine v_if_ne hC dX12_number_51 (tgt := 56) (by decide) (fun h_905 => ?_) (fun h_905 => ?_)
          · simp only [Int32.lt_iff_toInt_lt, Int32.le_iff_toInt_le, Int32.reduceToInt, ← Int32.toInt_inj] at h_905
            refine v_aload_n hC dX12_number_56 rfl ?_
            refine v_get hC fl_X12_131 m_1 e_872 rfl dX12_number_57 ?_
            refine v_istore_n hC dX12_number_60 (by decide) (lv' := [(3, .int v_884), (0, .ref a_0), (1, .int a_1), (2, .int a_2)]) rfl ?_
            refine v_aload_n hC dX12_number_61 rfl ?_
            refine v_vv hC (rest := []) m_1 e_872 rfl mi_X12_advance ms_X12_advance (p_X12_advance hW_866 k_0) mx_X12_advance ml_X12_156 (by decide) rfl (cells1 := 0) (slots1 := 0) (by decide) (by decide) (Nat.le_of_ble_eq_true rfl) (Nat.le_of_ble_eq_true rfl) rfl (Nat.le_of_ble_eq_true rfl) dX12_number_62 (fun L_907 f_908 h_909 => ?_)
            obtain ⟨rfl, hW_914, hF_915, x_910, x_911, x_912, x_913⟩ := h_909
            have fe_916 : fld (f_859 a_0) 8 = (v_878 : Int32).toInt := by rw [e_872]; rfl
            have fe_917 : fld (f_859 a_0) 12 = (v_885 : Int32).toInt := by rw [e_872]; rfl
            have fe_918 : fld (f_859 a_0) 20 = (v_889 : Int32).toInt := by rw [e_872]; rfl
            obtain ⟨v_920, v_921, v_923, v_925, v_927, v_929, v_931, v_932, v_933, v_934, v_936, e_919, b_922, b_924, b_926, b_928, b_930, b_935, b_937⟩ := hW_914.at m_1 t_2
            have fe_938 : fld (f_908 a_0) 8 = (v_925 : Int32).toInt := by rw [e_919]; rfl
            have fe_939 : fld (f_908 a_0) 9 = (v_927 : Int32).toInt := by rw [e_919]; rfl
            have fe_940 : fld (f_908 a_0) 10 = (v_929 : Int32).toInt := by rw [e_919]; rfl
            have fe_941 : fld (f_908 a_0) 12 = (v_932 : Int32).toInt := by rw [e_919]; rfl
            have fe_942 : fld (f_908 a_0) 20 = (v_936 : Int32).toInt := by rw [e_919]; rfl
            rw [fe_916, fe_939, fe_938] at x_910
            rw [fe_940, fe_939, fe_938] at x_911
            rw [fe_941, fe_917] at x_912
            rw [fe_942, fe_918] at x_913
            clear fe_916 fe_917 fe_918 fe_938 fe_939 fe_940 fe_941 fe_942
            refine v_iload_n hC dX12_number_65 rfl ?_
            have fe_943 : fld (f_908 a_0) 12 = (v_932 : Int32).toInt := by rw [e_919]; rfl
            have fe_944 : fld (f_908 a_0) 8 = (v_925 : Int32).toInt := by rw [e_919]; rfl
            have fe_945 : fld (f_908 a_0) 9 = (v_927 : Int32).toInt := by rw [e_919]; rfl
            have fe_946 : fld (f_908 a_0) 12 = (v_932 : Int32).toInt := by rw [e_919]; rfl
            have fe_947 : fld (f_908 a_0) 8 = (v_925 : Int32).toInt := by rw [e_919]; rfl
            have fe_948 : fld (f_908 a_0) 9 = (v_927 : Int32).toInt := by rw [e_919]; rfl
            have fe_949 : fld (f_908 a_0) 10 = (v_929 : Int32).toInt := by rw [e_919]; rfl
            have fe_950 : fld (f_908 a_0) 12 = (v_932 : Int32).toInt := by rw [e_919]; rfl
            have fe_951 : fld (f_908 a_0) 12 = (v_932 : Int32).toInt := by rw [e_919]; rfl
            have fe_952 : fld (f_908 a_0) 20 = (v_936 : Int32).toInt := by rw [e_919]; rfl
            have fe_953 : fld (f_908 a_0) 8 = (v_925 : Int32).toInt := by rw [e_919]; rfl
            have fe_954 : fld (f_908 a_0) 9 = (v_927 : Int32).toInt := by rw [e_919]; rfl
            have fe_955 : fld (f_908 a_0) 10 = (v_929 : Int32).toInt := by rw [e_919]; rfl
            have fe_956 : fld (f_908 a_0) 12 = (v_932 : Int32).toInt := by rw [e_919]; rfl
            exact hR _ _ _ _ _ _ _ dX12_number_66 rfl (Nat.le_of_ble_eq_true rfl) (Nat.le_of_ble_eq_true rfl) ⟨rfl, hW_914, (((hF_650.tr hF_867).tr hF_915).mono rfl), (by simp only [fe_943, mz_43, true_and, and_true, or_true, true_or, false_or, or_false, false_and, and_false, not_true_eq_false, not_false_eq_true] <;> first | omega | (simp only [Int32.lt_iff_toInt_lt, Int32.le_iff_toInt_le, Int32.reduceToInt, ← Int32.toInt_inj, true_and, and_true, or_true, true_or, false_or, or_false, false_and, and_false, not_true_eq_false, not_false_eq_true] <;> omega)), (by simp only [fe_944, fe_945, fe_946, mz_41, mz_42, true_and, and_true, or_true, true_or, false_or, or_false, false_and, and_false, not_true_eq_false, not_false_eq_true] <;> first | omega | (simp only [Int32.lt_iff_toInt_lt, Int32.le_iff_toInt_le, Int32.reduceToInt, ← Int32.toInt_inj, true_and, and_true, or_true, true_or, false_or, or_false, false_and, and_false, not_true_eq_false, not_false_eq_true] <;> omega)), (by simp only [fe_947, fe_948, fe_949, fe_950, true_and, and_true, or_true, true_or, false_or, or_false, false_and, and_false, not_true_eq_false, not_false_eq_true] <;> first | omega | (simp only [Int32.lt_iff_toInt_lt, Int32.le_iff_toInt_le, Int32.reduceToInt, ← Int32.toInt_inj, true_and, and_true, or_true, true_or, false_or, or_false, false_and, and_false, not_true_eq_false, not_false_eq_true] <;> omega)), (by simp only [fe_951, true_and, and_true, or_true, true_or, false_or, or_false, false_and, and_false, not_true_eq_false, not_false_eq_true] <;> first | omega | (simp only [Int32.lt_iff_toInt_lt, Int32.le_iff_toInt_le, Int32.reduceToInt, ← Int32.toInt_inj, true_and, and_true, or_true, true_or, false_or, or_false, false_and, and_false, not_true_eq_false, not_false_eq_true] <;> omega)), (by simp only [fe_952, mz_44, true_and, and_true, or_true, true_or, false_or, or_false, false_and, and_false, not_true_eq_false, not_false_eq_true] <;> first | omega | (simp only [Int32.lt_iff_toInt_lt, Int32.le_iff_toInt_le, Int32.reduceToInt, ← Int32.toInt_inj, true_and, and_true, or_true, true_or, false_or, or_false, false_and, and_false, not_true_eq_false, not_false_eq_true] <;> omega)), (by simp only [fe_953, fe_954, fe_955, fe_956, mz_41, mz_42, mz_43, true_and, and_true, or_true, true_or, false_or, or_false, false_and, and_false, not_true_eq_false, not_false_eq_true] <;> first | omega | (simp only [Int32.lt_iff_toInt_lt, Int32.le_iff_toInt_le, Int32.reduceToInt, ← Int32.toInt_inj, true_and, and_true, or_true, true_or, false_or, or_false, false_and, and_false, not_true_eq_false, not_false_eq_true] <;> omega))⟩
          · simp only [Int32.lt_iff_toInt_lt, Int32.le_iff_toInt_le, Int32.reduceToInt, ← Int32.toInt_inj] at h_905
            refine v_iconst hC dX12_number_54 (v := 0) (by decide) ?_
            have fe_957 : fld (f_859 a_0) 12 = (v_885 : Int32).toInt := by rw [e_872]; rfl
            have fe_958 : fld (f_859 a_0) 8 = (v_878 : Int32).toInt := by rw [e_872]; rfl
            have fe_959 : fld (f_859 a_0) 9 = (v_880 : Int32).toInt := by rw [e_872]; rfl
            have fe_960 : fld (f_859 a_0) 12 = (v_885 : Int32).toInt := by rw [e_872]; rfl
            have fe_961 : fld (f_859 a_0) 8 = (v_878 : Int32).toInt := by rw [e_872]; rfl
            have fe_962 : fld (f_859 a_0) 9 = (v_880 : Int32).toInt := by rw [e_872]; rfl
            have fe_963 : fld (f_859 a_0) 10 = (v_882 : Int32).toInt := by rw [e_872]; rfl
            have fe_964 : fld (f_859 a_0) 12 = (v_885 : Int32).toInt := by rw [e_872]; rfl
            have fe_965 : fld (f_859 a_0) 12 = (v_885 : Int32).toInt := by rw [e_872]; rfl
            have fe_966 : fld (f_859 a_0) 20 = (v_889 : Int32).toInt := by rw [e_872]; rfl
            have fe_967 : fld (f_859 a_0) 8 = (v_878 : Int32).toInt := by rw [e_872]; rfl
            have fe_968 : fld (f_859 a_0) 9 = (v_880 : Int32).toInt := by rw [e_872]; rfl
            have fe_969 : fld (f_859 a_0) 10 = (v_882 : Int32).toInt := by rw [e_872]; rfl
            have fe_970 : fld (f_859 a_0) 12 = (v_885 : Int32).toInt := by rw [e_872]; rfl
            exact hR _ _ _ _ _ _ _ dX12_number_55 rfl (Nat.le_of_ble_eq_true rfl) (Nat.le_of_ble_eq_true rfl) ⟨rfl, hW_866, ((hF_650.tr hF_867).mono rfl), (by simp only [fe_957, mz_43, true_and, and_true, or_true, true_or, false_or, or_false, false_and, and_false, not_true_eq_false, not_false_eq_true] <;> first | omega | (simp only [Int32.lt_iff_toInt_lt, Int32.le_iff_toInt_le, Int32.reduceToInt, ← Int32.toInt_inj, true_and, and_true, or_true, true_or, false_or, or_false, false_and, and_false, not_true_eq_false, not_false_eq_true] <;> omega)), (by simp only [fe_958, fe_959, fe_960, mz_41, mz_42, true_and, and_true, or_true, true_or, false_or, or_false, false_and, and_false, not_true_eq_false, not_false_eq_true] <;> first | omega | (simp only [Int32.lt_iff_toInt_lt, Int32.le_iff_toInt_le, Int32.reduceToInt, ← Int32.toInt_inj, true_and, and_true, or_true, true_or, false_or, or_false, false_and, and_false, not_true_eq_false, not_false_eq_true] <;> omega)), (by simp only [fe_961, fe_962, fe_963, fe_964, true_and, and_true, or_true, true_or, false_or, or_false, false_and, and_false, not_true_eq_false, not_false_eq_true] <;> first | omega | (simp only [Int32.lt_iff_toInt_lt, Int32.le_iff_toInt_le, Int32.reduceToInt, ← Int32.toInt_inj, true_and, and_true, or_true, true_or, false_or, or_false, false_and, and_false, not_true_eq_false, not_false_eq_true] <;> omega)), (by simp only [fe_965, true_and, and_true, or_true, true_or, false_or, or_false, false_and, and_false, not_true_eq_false, not_false_eq_true] <;> first | omega | (simp only [Int32.lt_iff_toInt_lt, Int32.le_iff_toInt_le, Int32.reduceToInt, ← Int32.toInt_inj, true_and, and_true, or_true, true_or, false_or, or_false, false_and, and_false, not_true_eq_false, not_false_eq_true] <;> omega)), (by simp only [fe_966, mz_44, true_and, and_true, or_true, true_or, false_or, or_false, false_and, and_false, not_true_eq_false, not_false_eq_true] <;> first | omega | (simp only [Int32.lt_iff_toInt_lt, Int32.le_iff_toInt_le, Int32.reduceToInt, ← Int32.toInt_inj, true_and, and_true, or_true, true_or, false_or, or_false, false_and, and_false, not_true_eq_false, not_false_eq_true] <;> omega)), (by simp only [fe_967, fe_968, fe_969, fe_970, mz_41, mz_42, mz_43, true_and, and_true, or_true, true_or, false_or, or_false, false_and, and_false, not_true_eq_false, not_false_eq_true] <;> first | omega | (simp only [Int32.lt_iff_toInt_lt, Int32.le_iff_toInt_le, Int32.reduceToInt, ← Int32.toInt_inj, true_and, and_true, or_true, true_or, false_or, or_false, false_and, and_false, not_true_eq_false, not_false_eq_true] <;> omega))⟩
set_option maxRecDepth 100000 in
set_option maxHeartbeats 1500000 in
theorem p_X12_needs {l : Launch} {E : Ez} {L : List Nat} {f : Nat → va_E} {T : Nat → va_E → Prop} {a_0 : Nat} {a_1 : Nat} {q : Nat → Nat} (hW : WT T L f) (k_0 : isM T L E a_0 q) (ha_1 : a_1 < 77) : CV l yX12_needs cX12_needs 2 6 0 0 E [.ref a_0, .ref (eK E a_1)] L f (fun L1 f1 => L = L1 ∧ WT T L f1 ∧ FR [12] f f1 ∧ (¬ fld (f1 a_0) 12 = 0 ∨ ((iw (f a_0) (f (q 4)) a_1).toInt = 1 ∧ fld (f a_0) 8 ≤ fld (f1 a_0) 9 ∧ fld (f1 a_0) 9 ≤ fld (f1 a_0) 8)) ∧ (¬ fld (f1 a_0) 12 = 0 ∨ fld (f1 a_0) 10 = 0 ∨ fld (f1 a_0) 9 < fld (f1 a_0) 8) ∧ (¬ fld (f1 a_0) 12 = 0 ∨ fld (f a_0) 12 = 0) ∧ fld (f1 a_0) 20 = fld (f a_0) 20 ∧ (¬ fld (f1 a_0) 12 = 0 ∨ (fld (f a_0) 12 = 0 ∧ (iw (f a_0) (f (q 4)) a_1).toInt = 1 ∧ fld (f a_0) 8 ≤ fld (f1 a_0) 9 ∧ fld (f1 a_0) 9 ≤ fld (f1 a_0) 8 ∧ (fld (f1 a_0) 10 = 0 ∨ fld (f1 a_0) 9 < fld (f1 a_0) 8)))) := by
  refine cv_of (by decide) (Nat.le_of_ble_eq_true rfl) (fun z hz hnm hC hR => ?_)
  have hC : Cx z E cX12_needs RX12 2 6 0 0 := hC
  subst hz
  show V z E 2 0 0 L f 0 [(0, .ref a_0), (1, .ref (eK E a_1))] []
  obtain ⟨m_1, t_2, nq_21, k_3, k_4, k_5, k_6, k_7, k_8, k_9, k_10, k_11, k_12, k_13, k_14, k_15, k_16, k_17, k_18, k_19, k_20⟩ := id k_0
  obtain ⟨v_23, v_24, v_26, v_28, v_30, v_32, v_34, v_35, v_36, v_37, v_39, e_22, b_25, b_27, b_29, b_31, b_33, b_38, b_40⟩ := hW.at m_1 t_2
  have mz_41 : fld (f a_0) 8 = v_28.toInt := by rw [e_22]; rfl
  have mz_42 : fld (f a_0) 12 = v_35.toInt := by rw [e_22]; rfl
  have mz_43 : fld (f a_0) 20 = v_39.toInt := by rw [e_22]; rfl
  refine v_aload_n hC dX12_needs_0 rfl ?_
  refine v_aload_n hC dX12_needs_1 rfl ?_
  refine v_vi hC (rest := []) m_1 e_22 rfl mi_X12_takes ms_X12_takes (p_X12_takes hW k_0 ha_1) mx_X12_takes ml_X12_159 (by decide) rfl (cells1 := 0) (slots1 := 0) (by decide) (by decide) (Nat.le_of_ble_eq_true rfl) (Nat.le_of_ble_eq_true rfl) rfl (Nat.le_of_ble_eq_true rfl) dX12_needs_2 (fun r_44 L_45 f_46 h_47 => ?_)
  obtain ⟨rfl, hW_52, hF_53, rfl, x_48, x_49, x_50, x_51⟩ := h_47
  have fe_54 : fld (f a_0) 8 = (v_28 : Int32).toInt := by rw [e_22]; rfl
  have fe_55 : fld (f a_0) 9 = (v_30 : Int32).toInt := by rw [e_22]; rfl
  have fe_56 : fld (f a_0) 10 = (v_32 : Int32).toInt := by rw [e_22]; rfl
  have fe_57 : fld (f a_0) 12 = (v_35 : Int32).toInt := by rw [e_22]; rfl
  have fe_58 : fld (f a_0) 20 = (v_39 : Int32).toInt := by rw [e_22]; rfl
  have ib_59 := iw_b (f a_0) (f (q 4)) a_1
  rw [fe_57, fe_56, fe_54, fe_55] at ib_59
  obtain ⟨v_61, v_62, v_64, v_66, v_68, v_70, v_72, v_73, v_74, v_75, v_77, e_60, b_63, b_65, b_67, b_69, b_71, b_76, b_78⟩ := hW_52.at m_1 t_2
  have fe_79 : fld (f_46 a_0) 8 = (v_66 : Int32).toInt := by rw [e_60]; rfl
  have fe_80 : fld (f_46 a_0) 9 = (v_68 : Int32).toInt := by rw [e_60]; rfl
  have fe_81 : fld (f_46 a_0) 10 = (v_70 : Int32).toInt := by rw [e_60]; rfl
  have fe_82 : fld (f_46 a_0) 12 = (v_73 : Int32).toInt := by rw [e_60]; rfl
  have fe_83 : fld (f_46 a_0) 20 = (v_77 : Int32).toInt := by rw [e_60]; rfl
  rw [fe_54, fe_80, fe_79, fe_81] at x_48
  rw [fe_79, fe_54, fe_80, fe_55, fe_81, fe_56] at x_49
  rw [fe_82, fe_57] at x_50
  rw [fe_83, fe_58] at x_51
  clear fe_54 fe_55 fe_56 fe_57 fe_58 fe_79 fe_80 fe_81 fe_82 fe_83
  try simp only [Int32.reduceToInt, Int64.reduceToInt] at x_48
  try simp only [Int32.reduceToInt, Int64.reduceToInt] at x_49
  try simp only [Int32.reduceToInt, Int64.reduceToInt] at x_50
  try simp only [Int32.reduceToInt, Int64.reduceToInt] at x_51
  refine v_if_ne hC dX12_needs_5 (tgt := 13) (by decide) (fun h_84 => ?_) (fun h_84 => ?_)
  · simp only [Int32.lt_iff_toInt_lt, Int32.le_iff_toInt_le, Int32.reduceToInt, ← Int32.toInt_inj] at h_84
    have fe_85 : fld (f_46 a_0) 8 = (v_66 : Int32).toInt := by rw [e_60]; rfl
    have fe_86 : fld (f_46 a_0) 9 = (v_68 : Int32).toInt := by rw [e_60]; rfl
    have fe_87 : fld (f_46 a_0) 12 = (v_73 : Int32).toInt := by rw [e_60]; rfl
    have fe_88 : fld (f_46 a_0) 8 = (v_66 : Int32).toInt := by rw [e_60]; rfl
    have fe_89 : fld (f_46 a_0) 9 = (v_68 : Int32).toInt := by rw [e_60]; rfl
    have fe_90 : fld (f_46 a_0) 10 = (v_70 : Int32).toInt := by rw [e_60]; rfl
    have fe_91 : fld (f_46 a_0) 12 = (v_73 : Int32).toInt := by rw [e_60]; rfl
    have fe_92 : fld (f_46 a_0) 12 = (v_73 : Int32).toInt := by rw [e_60]; rfl
    have fe_93 : fld (f_46 a_0) 20 = (v_77 : Int32).toInt := by rw [e_60]; rfl
    have fe_94 : fld (f_46 a_0) 8 = (v_66 : Int32).toInt := by rw [e_60]; rfl
    have fe_95 : fld (f_46 a_0) 9 = (v_68 : Int32).toInt := by rw [e_60]; rfl
    have fe_96 : fld (f_46 a_0) 10 = (v_70 : Int32).toInt := by rw [e_60]; rfl
    have fe_97 : fld (f_46 a_0) 12 = (v_73 : Int32).toInt := by rw [e_60]; rfl
    exact hR _ _ _ _ _ _ dX12_needs_13 (Nat.le_of_ble_eq_true rfl) (Nat.le_of_ble_eq_true rfl) ⟨rfl, hW_52, (hF_53.mono rfl), (by simp only [fe_85, fe_86, fe_87, mz_41, true_and, and_true, or_true, true_or, false_or, or_false, false_and, and_false, not_true_eq_false, not_false_eq_true] <;> first | omega | (simp only [Int32.lt_iff_toInt_lt, Int32.le_iff_toInt_le, Int32.reduceToInt, ← Int32.toInt_inj, true_and, and_true, or_true, true_or, false_or, or_false, false_and, and_false, not_true_eq_false, not_false_eq_true] <;> omega)), (by simp only [fe_88, fe_89, fe_90, fe_91, true_and, and_true, or_true, true_or, false_or, or_false, false_and, and_false, not_true_eq_false, not_false_eq_true] <;> first | omega | (simp only [Int32.lt_iff_toInt_lt, Int32.le_iff_toInt_le, Int32.reduceToInt, ← Int32.toInt_inj, true_and, and_true, or_true, true_or, false_or, or_false, false_and, and_false, not_true_eq_false, not_false_eq_true] <;> omega)), (by simp only [fe_92, mz_42, true_and, and_true, or_true, true_or, false_or, or_false, false_and, and_false, not_true_eq_false, not_false_eq_true] <;> first | omega | (simp only [Int32.lt_iff_toInt_lt, Int32.le_iff_toInt_le, Int32.reduceToInt, ← Int32.toInt_inj, true_and, and_true, or_true, true_or, false_or, or_false, false_and, and_false, not_true_eq_false, not_false_eq_true] <;> omega)), (by simp only [fe_93, mz_43, true_and, and_true, or_true, true_or, false_or, or_false, false_and, and_false, not_true_eq_false, not_false_eq_true] <;> first | omega | (simp only [Int32.lt_iff_toInt_lt, Int32.le_iff_toInt_le, Int32.reduceToInt, ← Int32.toInt_inj, true_and, and_true, or_true, true_or, false_or, or_false, false_and, and_false, not_true_eq_false, not_false_eq_true] <;> omega)), (by simp only [fe_94, fe_95, fe_96, fe_97, mz_41, mz_42, true_and, and_true, or_true, true_or, false_or, or_false, false_and, and_false, not_true_eq_false, not_false_eq_true] <;> first | omega | (simp only [Int32.lt_iff_toInt_lt, Int32.le_iff_toInt_le, Int32.reduceToInt, ← Int32.toInt_inj, true_and, and_true, or_true, true_or, false_or, or_false, false_and, and_false, not_true_eq_false, not_false_eq_true] <;> omega))⟩
  · simp only [Int32.lt_iff_toInt_lt, Int32.le_iff_toInt_le, Int32.reduceToInt, ← Int32.toInt_inj] at h_84
    refine v_aload_n hC dX12_needs_8 rfl ?_
    refine v_iconst hC dX12_needs_9 (v := 1) (by decide) ?_
    refine v_vv hC (rest := []) m_1 e_60 rfl mi_X12_errs ms_X12_errs (p_X12_errs hW_52 k_0 (by decide)) mx_X12_errs ml_X12_162 (by decide) rfl (cells1 := 0) (slots1 := 0) (by decide) (by decide) (Nat.le_of_ble_eq_true rfl) (Nat.le_of_ble_eq_true rfl) rfl (Nat.le_of_ble_eq_true rfl) dX12_needs_10 (fun L_99 f_100 h_101 => ?_)
    obtain ⟨rfl, hW_107, hF_108, x_102, x_103, x_104, x_105, x_106⟩ := h_101
    have fe_109 : fld (f_46 a_0) 8 = (v_66 : Int32).toInt := by rw [e_60]; rfl
    have fe_110 : fld (f_46 a_0) 9 = (v_68 : Int32).toInt := by rw [e_60]; rfl
    have fe_111 : fld (f_46 a_0) 10 = (v_70 : Int32).toInt := by rw [e_60]; rfl
    have fe_112 : fld (f_46 a_0) 20 = (v_77 : Int32).toInt := by rw [e_60]; rfl
    obtain ⟨v_114, v_115, v_117, v_119, v_121, v_123, v_125, v_126, v_127, v_128, v_130, e_113, b_116, b_118, b_120, b_122, b_124, b_129, b_131⟩ := hW_107.at m_1 t_2
    have fe_132 : fld (f_100 a_0) 8 = (v_119 : Int32).toInt := by rw [e_113]; rfl
    have fe_133 : fld (f_100 a_0) 9 = (v_121 : Int32).toInt := by rw [e_113]; rfl
    have fe_134 : fld (f_100 a_0) 10 = (v_123 : Int32).toInt := by rw [e_113]; rfl
    have fe_135 : fld (f_100 a_0) 12 = (v_126 : Int32).toInt := by rw [e_113]; rfl
    have fe_136 : fld (f_100 a_0) 20 = (v_130 : Int32).toInt := by rw [e_113]; rfl
    rw [fe_135] at x_102
    rw [fe_132, fe_109] at x_103
    rw [fe_133, fe_110] at x_104
    rw [fe_134, fe_111] at x_105
    rw [fe_136, fe_112] at x_106
    clear fe_109 fe_110 fe_111 fe_112 fe_132 fe_133 fe_134 fe_135 fe_136
    have fe_137 : fld (f_100 a_0) 8 = (v_119 : Int32).toInt := by rw [e_113]; rfl
    have fe_138 : fld (f_100 a_0) 9 = (v_121 : Int32).toInt := by rw [e_113]; rfl
    have fe_139 : fld (f_100 a_0) 12 = (v_126 : Int32).toInt := by rw [e_113]; rfl
    have fe_140 : fld (f_100 a_0) 8 = (v_119 : Int32).toInt := by rw [e_113]; rfl
    have fe_141 : fld (f_100 a_0) 9 = (v_121 : Int32).toInt := by rw [e_113]; rfl
    have fe_142 : fld (f_100 a_0) 10 = (v_123 : Int32).toInt := by rw [e_113]; rfl
    have fe_143 : fld (f_100 a_0) 12 = (v_126 : Int32).toInt := by rw [e_113]; rfl
    have fe_144 : fld (f_100 a_0) 12 = (v_126 : Int32).toInt := by rw [e_113]; rfl
    have fe_145 : fld (f_100 a_0) 20 = (v_130 : Int32).toInt := by rw [e_113]; rfl
    have fe_146 : fld (f_100 a_0) 8 = (v_119 : Int32).toInt := by rw [e_113]; rfl
    have fe_147 : fld (f_100 a_0) 9 = (v_121 : Int32).toInt := by rw [e_113]; rfl
    have fe_148 : fld (f_100 a_0) 10 = (v_123 : Int32).toInt := by rw [e_113]; rfl
    have fe_149 : fld (f_100 a_0) 12 = (v_126 : Int32).toInt := by rw [e_113]; rfl
    exact hR _ _ _ _ _ _ dX12_needs_13 (Nat.le_of_ble_eq_true rfl) (Nat.le_of_ble_eq_true rfl) ⟨rfl, hW_107, ((hF_53.tr hF_108).mono rfl), (by simp only [fe_137, fe_138, fe_139, mz_41, true_and, and_true, or_true, true_or, false_or, or_false, false_and, and_false, not_true_eq_false, not_false_eq_true] <;> first | omega | (simp only [Int32.lt_iff_toInt_lt, Int32.le_iff_toInt_le, Int32.reduceToInt, ← Int32.toInt_inj, true_and, and_true, or_true, true_or, false_or, or_false, false_and, and_false, not_true_eq_false, not_false_eq_true] <;> omega)), (by simp only [fe_140, fe_141, fe_142, fe_143, true_and, and_true, or_true, true_or, false_or, or_false, false_and, and_false, not_true_eq_false, not_false_eq_true] <;> first | omega | (simp only [Int32.lt_iff_toInt_lt, Int32.le_iff_toInt_le, Int32.reduceToInt, ← Int32.toInt_inj, true_and, and_true, or_true, true_or, false_or, or_false, false_and, and_false, not_true_eq_false, not_false_eq_true] <;> omega)), (by simp only [fe_144, mz_42, true_and, and_true, or_true, true_or, false_or, or_false, false_and, and_false, not_true_eq_false, not_false_eq_true] <;> first | omega | (simp only [Int32.lt_iff_toInt_lt, Int32.le_iff_toInt_le, Int32.reduceToInt, ← Int32.toInt_inj, true_and, and_true, or_true, true_or, false_or, or_false, false_and, and_false, not_true_eq_false, not_false_eq_true] <;> omega)), (by simp only [fe_145, mz_43, true_and, and_true, or_true, true_or, false_or, or_false, false_and, and_false, not_true_eq_false, not_false_eq_true] <;> first | omega | (simp only [Int32.lt_iff_toInt_lt, Int32.le_iff_toInt_le, Int32.reduceToInt, ← Int32.toInt_inj, true_and, and_true, or_true, true_or, false_or, or_false, false_and, and_false, not_true_eq_false, not_false_eq_true] <;> omega)), (by simp only [fe_146, fe_147, fe_148, fe_149, mz_41, mz_42, true_and, and_true, or_true, true_or, false_or, or_false, false_and, and_false, not_true_eq_false, not_false_eq_true] <;> first | omega | (simp only [Int32.lt_iff_toInt_lt, Int32.le_iff_toInt_le, Int32.reduceToInt, ← Int32.toInt_inj, true_and, and_true, or_true, true_or, false_or, or_false, false_and, and_false, not_true_eq_false, not_false_eq_true] <;> omega))⟩
set_option maxRecDepth 100000 in
set_option maxHeartbeats 1500000 in
theorem p_X12_told {l : Launch} {E : Ez} {L : List Nat} {f : Nat → va_E} {T : Nat → va_E → Prop} {a_0 : Nat} {a_1 : Nat} {a_2 : Int32} {a_3 : Int32} {q : Nat → Nat} (hW : WT T L f) (k_0 : isM T L E a_0 q) (ha_1 : a_1 < 77) : CI l yX12_told cX12_told 4 .int 7 0 0 E [.ref a_0, .ref (eK E a_1), .int a_2, .int a_3] L f (fun r L1 f1 => L = L1 ∧ WT T L f1 ∧ FR [12] f f1 ∧ (¬ fld (f1 a_0) 12 = 0 ∨ (fld (f a_0) 12 = 0 ∧ a_2.toInt ≤ r.toInt ∧ r.toInt ≤ a_3.toInt)) ∧ (¬ fld (f1 a_0) 12 = 0 ∨ (fld (f a_0) 8 ≤ fld (f1 a_0) 9 ∧ fld (f1 a_0) 9 ≤ fld (f1 a_0) 8)) ∧ (¬ fld (f1 a_0) 12 = 0 ∨ fld (f1 a_0) 10 = 0 ∨ fld (f1 a_0) 9 < fld (f1 a_0) 8) ∧ (fld (f1 a_0) 12 = 0 ∨ r.toInt = 0) ∧ fld (f1 a_0) 20 = fld (f a_0) 20 ∧ (¬ fld (f1 a_0) 12 = 0 ∨ (fld (f a_0) 12 = 0 ∧ a_2.toInt ≤ r.toInt ∧ r.toInt ≤ a_3.toInt ∧ fld (f a_0) 8 ≤ fld (f1 a_0) 9 ∧ fld (f1 a_0) 9 ≤ fld (f1 a_0) 8 ∧ (fld (f1 a_0) 10 = 0 ∨ fld (f1 a_0) 9 < fld (f1 a_0) 8)))) := by
  refine ci_of (by decide) (Nat.le_of_ble_eq_true rfl) (fun z hz hnm hC hR => ?_)
  have hC : Cx z E cX12_told RX12 4 7 0 0 := hC
  subst hz
  show V z E 4 0 0 L f 0 [(0, .ref a_0), (1, .ref (eK E a_1)), (2, .int a_2), (3, .int a_3)] []
  obtain ⟨m_1, t_2, nq_21, k_3, k_4, k_5, k_6, k_7, k_8, k_9, k_10, k_11, k_12, k_13, k_14, k_15, k_16, k_17, k_18, k_19, k_20⟩ := id k_0
  obtain ⟨v_23, v_24, v_26, v_28, v_30, v_32, v_34, v_35, v_36, v_37, v_39, e_22, b_25, b_27, b_29, b_31, b_33, b_38, b_40⟩ := hW.at m_1 t_2
  have mz_41 : fld (f a_0) 8 = v_28.toInt := by rw [e_22]; rfl
  have mz_42 : fld (f a_0) 12 = v_35.toInt := by rw [e_22]; rfl
  have mz_43 : fld (f a_0) 20 = v_39.toInt := by rw [e_22]; rfl
  refine v_aload_n hC dX12_told_0 rfl ?_
  refine v_aload_n hC dX12_told_1 rfl ?_
  refine v_vv hC (rest := []) m_1 e_22 rfl mi_X12_needs ms_X12_needs (p_X12_needs hW k_0 ha_1) mx_X12_needs ml_X12_166 (by decide) rfl (cells1 := 0) (slots1 := 0) (by decide) (by decide) (Nat.le_of_ble_eq_true rfl) (Nat.le_of_ble_eq_true rfl) rfl (Nat.le_of_ble_eq_true rfl) dX12_told_2 (fun L_45 f_46 h_47 => ?_)
  obtain ⟨rfl, hW_52, hF_53, x_48, x_49, x_50, x_51, -⟩ := h_47
  have fe_54 : fld (f a_0) 8 = (v_28 : Int32).toInt := by rw [e_22]; rfl
  have fe_55 : fld (f a_0) 9 = (v_30 : Int32).toInt := by rw [e_22]; rfl
  have fe_56 : fld (f a_0) 10 = (v_32 : Int32).toInt := by rw [e_22]; rfl
  have fe_57 : fld (f a_0) 12 = (v_35 : Int32).toInt := by rw [e_22]; rfl
  have fe_58 : fld (f a_0) 20 = (v_39 : Int32).toInt := by rw [e_22]; rfl
  have ib_59 := iw_b (f a_0) (f (q 4)) a_1
  rw [fe_57, fe_56, fe_54, fe_55] at ib_59
  obtain ⟨v_61, v_62, v_64, v_66, v_68, v_70, v_72, v_73, v_74, v_75, v_77, e_60, b_63, b_65, b_67, b_69, b_71, b_76, b_78⟩ := hW_52.at m_1 t_2
  have fe_79 : fld (f_46 a_0) 8 = (v_66 : Int32).toInt := by rw [e_60]; rfl
  have fe_80 : fld (f_46 a_0) 9 = (v_68 : Int32).toInt := by rw [e_60]; rfl
  have fe_81 : fld (f_46 a_0) 10 = (v_70 : Int32).toInt := by rw [e_60]; rfl
  have fe_82 : fld (f_46 a_0) 12 = (v_73 : Int32).toInt := by rw [e_60]; rfl
  have fe_83 : fld (f_46 a_0) 20 = (v_77 : Int32).toInt := by rw [e_60]; rfl
  rw [fe_82, fe_54, fe_80, fe_79] at x_48
  rw [fe_82, fe_81, fe_80, fe_79] at x_49
  rw [fe_82, fe_57] at x_50
  rw [fe_83, fe_58] at x_51
  clear fe_54 fe_55 fe_56 fe_57 fe_58 fe_79 fe_80 fe_81 fe_82 fe_83
  refine v_aload_n hC dX12_told_5 rfl ?_
  refine v_iload_n hC dX12_told_6 rfl ?_
  refine v_iload_n hC dX12_told_7 rfl ?_
  refine v_vi hC (rest := []) m_1 e_60 rfl mi_X12_number ms_X12_number (p_X12_number hW_52 k_0) mx_X12_number ml_X12_170 (by decide) rfl (cells1 := 0) (slots1 := 0) (by decide) (by decide) (Nat.le_of_ble_eq_true rfl) (Nat.le_of_ble_eq_true rfl) rfl (Nat.le_of_ble_eq_true rfl) dX12_told_8 (fun r_84 L_85 f_86 h_87 => ?_)
  obtain ⟨rfl, hW_93, hF_94, x_88, x_89, x_90, x_91, x_92, -⟩ := h_87
  have fe_95 : fld (f_46 a_0) 8 = (v_66 : Int32).toInt := by rw [e_60]; rfl
  have fe_96 : fld (f_46 a_0) 10 = (v_70 : Int32).toInt := by rw [e_60]; rfl
  have fe_97 : fld (f_46 a_0) 12 = (v_73 : Int32).toInt := by rw [e_60]; rfl
  have fe_98 : fld (f_46 a_0) 20 = (v_77 : Int32).toInt := by rw [e_60]; rfl
  obtain ⟨v_100, v_101, v_103, v_105, v_107, v_109, v_111, v_112, v_113, v_114, v_116, e_99, b_102, b_104, b_106, b_108, b_110, b_115, b_117⟩ := hW_93.at m_1 t_2
  have fe_118 : fld (f_86 a_0) 8 = (v_105 : Int32).toInt := by rw [e_99]; rfl
  have fe_119 : fld (f_86 a_0) 9 = (v_107 : Int32).toInt := by rw [e_99]; rfl
  have fe_120 : fld (f_86 a_0) 10 = (v_109 : Int32).toInt := by rw [e_99]; rfl
  have fe_121 : fld (f_86 a_0) 12 = (v_112 : Int32).toInt := by rw [e_99]; rfl
  have fe_122 : fld (f_86 a_0) 20 = (v_116 : Int32).toInt := by rw [e_99]; rfl
  rw [fe_121, fe_97] at x_88
  rw [fe_121, fe_96, fe_95, fe_119, fe_118] at x_89
  rw [fe_121, fe_120, fe_119, fe_118] at x_90
  rw [fe_121] at x_91
  rw [fe_122, fe_98] at x_92
  clear fe_95 fe_96 fe_97 fe_98 fe_118 fe_119 fe_120 fe_121 fe_122
  try simp only [Int32.reduceToInt, Int64.reduceToInt] at x_88
  try simp only [Int32.reduceToInt, Int64.reduceToInt] at x_89
  try simp only [Int32.reduceToInt, Int64.reduceToInt] at x_90
  try simp only [Int32.reduceToInt, Int64.reduceToInt] at x_91
  try simp only [Int32.reduceToInt, Int64.reduceToInt] at x_92
  have fe_123 : fld (f_86 a_0) 12 = (v_112 : Int32).toInt := by rw [e_99]; rfl
  have fe_124 : fld (f_86 a_0) 8 = (v_105 : Int32).toInt := by rw [e_99]; rfl
  have fe_125 : fld (f_86 a_0) 9 = (v_107 : Int32).toInt := by rw [e_99]; rfl
  have fe_126 : fld (f_86 a_0) 12 = (v_112 : Int32).toInt := by rw [e_99]; rfl
  have fe_127 : fld (f_86 a_0) 8 = (v_105 : Int32).toInt := by rw [e_99]; rfl
  have fe_128 : fld (f_86 a_0) 9 = (v_107 : Int32).toInt := by rw [e_99]; rfl
  have fe_129 : fld (f_86 a_0) 10 = (v_109 : Int32).toInt := by rw [e_99]; rfl
  have fe_130 : fld (f_86 a_0) 12 = (v_112 : Int32).toInt := by rw [e_99]; rfl
  have fe_131 : fld (f_86 a_0) 12 = (v_112 : Int32).toInt := by rw [e_99]; rfl
  have fe_132 : fld (f_86 a_0) 20 = (v_116 : Int32).toInt := by rw [e_99]; rfl
  have fe_133 : fld (f_86 a_0) 8 = (v_105 : Int32).toInt := by rw [e_99]; rfl
  have fe_134 : fld (f_86 a_0) 9 = (v_107 : Int32).toInt := by rw [e_99]; rfl
  have fe_135 : fld (f_86 a_0) 10 = (v_109 : Int32).toInt := by rw [e_99]; rfl
  have fe_136 : fld (f_86 a_0) 12 = (v_112 : Int32).toInt := by rw [e_99]; rfl
  exact hR _ _ _ _ _ _ _ dX12_told_11 rfl (Nat.le_of_ble_eq_true rfl) (Nat.le_of_ble_eq_true rfl) ⟨rfl, hW_93, ((hF_53.tr hF_94).mono rfl), (by simp only [fe_123, mz_42, true_and, and_true, or_true, true_or, false_or, or_false, false_and, and_false, not_true_eq_false, not_false_eq_true] <;> first | omega | (simp only [Int32.lt_iff_toInt_lt, Int32.le_iff_toInt_le, Int32.reduceToInt, ← Int32.toInt_inj, true_and, and_true, or_true, true_or, false_or, or_false, false_and, and_false, not_true_eq_false, not_false_eq_true] <;> omega)), (by simp only [fe_124, fe_125, fe_126, mz_41, true_and, and_true, or_true, true_or, false_or, or_false, false_and, and_false, not_true_eq_false, not_false_eq_true] <;> first | omega | (simp only [Int32.lt_iff_toInt_lt, Int32.le_iff_toInt_le, Int32.reduceToInt, ← Int32.toInt_inj, true_and, and_true, or_true, true_or, false_or, or_false, false_and, and_false, not_true_eq_false, not_false_eq_true] <;> omega)), (by simp only [fe_127, fe_128, fe_129, fe_130, true_and, and_true, or_true, true_or, false_or, or_false, false_and, and_false, not_true_eq_false, not_false_eq_true] <;> first | omega | (simp only [Int32.lt_iff_toInt_lt, Int32.le_iff_toInt_le, Int32.reduceToInt, ← Int32.toInt_inj, true_and, and_true, or_true, true_or, false_or, or_false, false_and, and_false, not_true_eq_false, not_false_eq_true] <;> omega)), (by simp only [fe_131, true_and, and_true, or_true, true_or, false_or, or_false, false_and, and_false, not_true_eq_false, not_false_eq_true] <;> first | omega | (simp only [Int32.lt_iff_toInt_lt, Int32.le_iff_toInt_le, Int32.reduceToInt, ← Int32.toInt_inj, true_and, and_true, or_true, true_or, false_or, or_false, false_and, and_false, not_true_eq_false, not_false_eq_true] <;> omega)), (by simp only [fe_132, mz_43, true_and, and_true, or_true, true_or, false_or, or_false, false_and, and_false, not_true_eq_false, not_false_eq_true] <;> first | omega | (simp only [Int32.lt_iff_toInt_lt, Int32.le_iff_toInt_le, Int32.reduceToInt, ← Int32.toInt_inj, true_and, and_true, or_true, true_or, false_or, or_false, false_and, and_false, not_true_eq_false, not_false_eq_true] <;> omega)), (by simp only [fe_133, fe_134, fe_135, fe_136, mz_41, mz_42, true_and, and_true, or_true, true_or, false_or, or_false, false_and, and_false, not_true_eq_false, not_false_eq_true] <;> first | omega | (simp only [Int32.lt_iff_toInt_lt, Int32.le_iff_toInt_le, Int32.reduceToInt, ← Int32.toInt_inj, true_and, and_true, or_true, true_or, false_or, or_false, false_and, and_false, not_true_eq_false, not_false_eq_true] <;> omega))⟩
set_option maxRecDepth 100000 in
set_option maxHeartbeats 1500000 in
theorem p_X12_readLoss {l : Launch} {E : Ez} {L : List Nat} {f : Nat → va_E} {T : Nat → va_E → Prop} {a_0 : Nat} {q : Nat → Nat} {g_f : Nat → Int32} (hW : WT T L f) (k_0 : isM T L E a_0 q) (e_f : f (q 14) = aI E 2076 g_f) (o_f : FOK g_f) (hLB : 0 ≤ (g_f 6).toInt ∧ (g_f 6).toInt ≤ 12) (hLO : LO g_f) : CV l yX12_readLoss cX12_readLoss 4 8 0 0 E [.ref a_0] L f (fun L1 f1 => L = L1 ∧ WT T L f1 ∧ FR [12, 2176] f f1 ∧ (∃ g9 : Nat → Int32, f1 (q 14) = aI E 2076 g9 ∧ FOK g9 ∧ (0 ≤ (g9 6).toInt ∧ (g9 6).toInt ≤ 12) ∧ (¬ fld (f1 a_0) 12 = 0 ∨ LO g9)) ∧ (¬ fld (f1 a_0) 12 = 0 ∨ (fld (f a_0) 12 = 0 ∧ fld (f a_0) 8 < fld (f1 a_0) 8)) ∧ fld (f1 a_0) 20 = fld (f a_0) 20) := by
  refine cv_of (by decide) (Nat.le_of_ble_eq_true rfl) (fun z hz hnm hC hR => ?_)
  have hC : Cx z E cX12_readLoss RX12 4 8 0 0 := hC
  subst hz
  show V z E 4 0 0 L f 0 [(0, .ref a_0)] []
  obtain ⟨m_1, t_2, nq_21, k_3, k_4, k_5, k_6, k_7, k_8, k_9, k_10, k_11, k_12, k_13, k_14, k_15, k_16, k_17, k_18, k_19, k_20⟩ := id k_0
  obtain ⟨m_22, t_23⟩ := id k_8
  obtain ⟨v_25, v_26, v_28, v_30, v_32, v_34, v_36, v_37, v_38, v_39, v_41, e_24, b_27, b_29, b_31, b_33, b_35, b_40, b_42⟩ := hW.at m_1 t_2
  have mz_43 : fld (f a_0) 8 = v_30.toInt := by rw [e_24]; rfl
  have mz_44 : fld (f a_0) 12 = v_37.toInt := by rw [e_24]; rfl
  have mz_45 : fld (f a_0) 20 = v_41.toInt := by rw [e_24]; rfl
  refine v_sipush hC dX12_readLoss_0 (v := 1012) (by decide) ?_
  refine v_iconst hC dX12_readLoss_3 (v := 3) (by decide) ?_
  refine v_aload_n hC dX12_readLoss_4 rfl ?_
  refine v_get hC fl_X12_34 m_1 e_24 rfl dX12_readLoss_5 ?_
  refine v_bipush hC dX12_readLoss_8 (v := 6) (by decide) ?_
  refine v_iald hC m_22 e_f (vp_in_iff.mpr (by decide)) (v := g_f 6) rfl dX12_readLoss_10 ?_
  obtain ⟨v_46, h_47⟩ : ∃ v9 : Int32, (3 : Int32) * (g_f 6) = v9 := ⟨_, rfl⟩
  refine v_imul hC dX12_readLoss_11 h_47 ?_
  have h_48 := mul_v 3 12 36 h_47 (by decide) (by first | omega | (simp only [Int32.lt_iff_toInt_lt, Int32.le_iff_toInt_le, Int32.reduceToInt, ← Int32.toInt_inj, true_and, and_true, or_true, true_or, false_or, or_false, false_and, and_false, not_true_eq_false, not_false_eq_true] <;> omega)) (by decide) (by decide)
  try simp only [Int32.reduceToInt] at h_48
  obtain ⟨v_49, h_50⟩ : ∃ v9 : Int32, (1012 : Int32) + v_46 = v9 := ⟨_, rfl⟩
  refine v_iadd hC dX12_readLoss_12 h_50 ?_
  have h_51 := add_v h_50 (by first | omega | (simp only [Int32.lt_iff_toInt_lt, Int32.le_iff_toInt_le, Int32.reduceToInt, ← Int32.toInt_inj, true_and, and_true, or_true, true_or, false_or, or_false, false_and, and_false, not_true_eq_false, not_false_eq_true] <;> omega)) (by first | omega | (simp only [Int32.lt_iff_toInt_lt, Int32.le_iff_toInt_le, Int32.reduceToInt, ← Int32.toInt_inj, true_and, and_true, or_true, true_or, false_or, or_false, false_and, and_false, not_true_eq_false, not_false_eq_true] <;> omega))
  try simp only [Int32.reduceToInt] at h_51
  refine v_istore_n hC dX12_readLoss_13 (by decide) (lv' := [(1, .int v_49), (0, .ref a_0)]) rfl ?_
  refine v_aload_n hC dX12_readLoss_14 rfl ?_
  refine v_ldcwS hC sr_X12_287 dX12_readLoss_15 ?_
  refine v_vi hC (rest := []) m_1 e_24 rfl mi_X12_is ms_X12_is (p_X12_is hW k_0 (by decide)) mx_X12_is ml_X12_152 (by decide) rfl (cells1 := 0) (slots1 := 0) (by decide) (by decide) (Nat.le_of_ble_eq_true rfl) (Nat.le_of_ble_eq_true rfl) rfl (Nat.le_of_ble_eq_true rfl) dX12_readLoss_18 (fun r_52 L_53 f_54 h_55 => ?_)
  obtain ⟨rfl, rfl, rfl⟩ := h_55
  have jn_73 : ∀ (v_74 : Int32) (b_75 : (0 ≤ v_74.toInt ∧ v_74.toInt ≤ 1)), V z E 4 0 0 L f 49 [(1, .int v_49), (0, .ref a_0)] [.int v_74] := by
    intro v_74 b_75
    refine v_istore_n hC dX12_readLoss_49 (by decide) (lv' := [(2, .int v_74), (1, .int v_49), (0, .ref a_0)]) rfl ?_
    refine v_iload_n hC dX12_readLoss_50 rfl ?_
    refine v_if_ne hC dX12_readLoss_51 (tgt := 59) (by decide) (fun h_76 => ?_) (fun h_76 => ?_)
    · simp only [Int32.lt_iff_toInt_lt, Int32.le_iff_toInt_le, Int32.reduceToInt, ← Int32.toInt_inj] at h_76
      refine v_iload_n hC dX12_readLoss_59 rfl ?_
      refine v_if_eq_f hC dX12_readLoss_60 (tgt := 80) (by decide) (by first | omega | (simp only [Int32.lt_iff_toInt_lt, Int32.le_iff_toInt_le, Int32.reduceToInt, ← Int32.toInt_inj, true_and, and_true, or_true, true_or, false_or, or_false, false_and, and_false, not_true_eq_false, not_false_eq_true] <;> omega)) ?_
      refine v_aload_n hC dX12_readLoss_63 rfl ?_
      refine v_get hC fl_X12_34 m_1 e_24 rfl dX12_readLoss_64 ?_
      refine v_bipush hC dX12_readLoss_67 (v := 6) (by decide) ?_
      refine v_iald hC m_22 e_f (vp_in_iff.mpr (by decide)) (v := g_f 6) rfl dX12_readLoss_69 ?_
      refine v_bipush hC dX12_readLoss_70 (v := 12) (by decide) ?_
      refine v_icmp_ne hC dX12_readLoss_72 (tgt := 80) (by decide) (fun h_77 => ?_) (fun h_77 => ?_)
      · simp only [Int32.lt_iff_toInt_lt, Int32.le_iff_toInt_le, Int32.reduceToInt, ← Int32.toInt_inj] at h_77
        refine v_aload_n hC dX12_readLoss_80 rfl ?_
        refine v_vi hC (rest := []) m_1 e_24 rfl mi_X12_good ms_X12_good (p_X12_good hW k_0) mx_X12_good ml_X12_139 (by decide) rfl (cells1 := 0) (slots1 := 0) (by decide) (by decide) (Nat.le_of_ble_eq_true rfl) (Nat.le_of_ble_eq_true rfl) rfl (Nat.le_of_ble_eq_true rfl) dX12_readLoss_81 (fun r_78 L_79 f_80 h_81 => ?_)
        obtain ⟨rfl, rfl, b_82, x_83⟩ := h_81
        have fe_86 : fld (f a_0) 12 = (v_37 : Int32).toInt := by rw [e_24]; rfl
        rw [fe_86] at x_83
        clear fe_86
        try simp only [Int32.reduceToInt, Int64.reduceToInt] at x_83
        refine v_if_ne hC dX12_readLoss_84 (tgt := 88) (by decide) (fun h_87 => ?_) (fun h_87 => ?_)
        · simp only [Int32.lt_iff_toInt_lt, Int32.le_iff_toInt_le, Int32.reduceToInt, ← Int32.toInt_inj] at h_87
          have g0_88 := gd_t x_83 h_87
          clear x_83
          refine v_aload_n hC dX12_readLoss_88 rfl ?_
          refine v_ldcwS hC sr_X12_287 dX12_readLoss_89 ?_
          refine v_vi hC (rest := []) m_1 e_24 rfl mi_X12_takes ms_X12_takes (p_X12_takes hW k_0 (by decide)) mx_X12_takes ml_X12_159 (by decide) rfl (cells1 := 0) (slots1 := 0) (by decide) (by decide) (Nat.le_of_ble_eq_true rfl) (Nat.le_of_ble_eq_true rfl) rfl (Nat.le_of_ble_eq_true rfl) dX12_readLoss_92 (fun r_90 L_91 f_92 h_93 => ?_)
          obtain ⟨rfl, hW_97, hF_98, rfl, x_94, x_95, x_96, -⟩ := h_93
          have fe_99 : fld (f a_0) 8 = (v_30 : Int32).toInt := by rw [e_24]; rfl
          have fe_100 : fld (f a_0) 9 = (v_32 : Int32).toInt := by rw [e_24]; rfl
          have fe_101 : fld (f a_0) 10 = (v_34 : Int32).toInt := by rw [e_24]; rfl
          have fe_102 : fld (f a_0) 12 = (v_37 : Int32).toInt := by rw [e_24]; rfl
          have hf_103 := hF_98.at e_f rfl
          obtain ⟨v_105, v_106, v_108, v_110, v_112, v_114, v_116, v_117, v_118, v_119, v_121, e_104, b_107, b_109, b_111, b_113, b_115, b_120, b_122⟩ := hW_97.at m_1 t_2
          have fe_123 : fld (f_92 a_0) 8 = (v_110 : Int32).toInt := by rw [e_104]; rfl
          have fe_124 : fld (f_92 a_0) 9 = (v_112 : Int32).toInt := by rw [e_104]; rfl
          have fe_125 : fld (f_92 a_0) 10 = (v_114 : Int32).toInt := by rw [e_104]; rfl
          have fe_126 : fld (f_92 a_0) 12 = (v_117 : Int32).toInt := by rw [e_104]; rfl
          rw [fe_99, fe_124, fe_123, fe_125] at x_94
          rw [fe_123, fe_99, fe_124, fe_100, fe_125, fe_101] at x_95
          rw [fe_126, fe_102] at x_96
          clear fe_99 fe_100 fe_101 fe_102 fe_123 fe_124 fe_125 fe_126
          try simp only [Int32.reduceToInt, Int64.reduceToInt] at x_94
          try simp only [Int32.reduceToInt, Int64.reduceToInt] at x_95
          try simp only [Int32.reduceToInt, Int64.reduceToInt] at x_96
          refine v_if_eq hC dX12_readLoss_95 (tgt := 193) (by decide) (fun h_127 => ?_) (fun h_127 => ?_)
          · simp only [Int32.lt_iff_toInt_lt, Int32.le_iff_toInt_le, Int32.reduceToInt, ← Int32.toInt_inj] at h_127
            refine v_aload_n hC dX12_readLoss_193 rfl ?_
            refine v_ldcwS hC sr_X12_289 dX12_readLoss_194 ?_
            refine v_vi hC (rest := []) m_1 e_104 rfl mi_X12_takes ms_X12_takes (p_X12_takes hW_97 k_0 (by decide)) mx_X12_takes ml_X12_159 (by decide) rfl (cells1 := 0) (slots1 := 0) (by decide) (by decide) (Nat.le_of_ble_eq_true rfl) (Nat.le_of_ble_eq_true rfl) rfl (Nat.le_of_ble_eq_true rfl) dX12_readLoss_197 (fun r_128 L_129 f_130 h_131 => ?_)
            obtain ⟨rfl, hW_135, hF_136, rfl, x_132, x_133, x_134, -⟩ := h_131
            have fe_137 : fld (f_92 a_0) 8 = (v_110 : Int32).toInt := by rw [e_104]; rfl
            have fe_138 : fld (f_92 a_0) 9 = (v_112 : Int32).toInt := by rw [e_104]; rfl
            have fe_139 : fld (f_92 a_0) 10 = (v_114 : Int32).toInt := by rw [e_104]; rfl
            have fe_140 : fld (f_92 a_0) 12 = (v_117 : Int32).toInt := by rw [e_104]; rfl
            have hf_141 := hF_136.at hf_103 rfl
            obtain ⟨v_143, v_144, v_146, v_148, v_150, v_152, v_154, v_155, v_156, v_157, v_159, e_142, b_145, b_147, b_149, b_151, b_153, b_158, b_160⟩ := hW_135.at m_1 t_2
            have fe_161 : fld (f_130 a_0) 8 = (v_148 : Int32).toInt := by rw [e_142]; rfl
            have fe_162 : fld (f_130 a_0) 9 = (v_150 : Int32).toInt := by rw [e_142]; rfl
            have fe_163 : fld (f_130 a_0) 10 = (v_152 : Int32).toInt := by rw [e_142]; rfl
            have fe_164 : fld (f_130 a_0) 12 = (v_155 : Int32).toInt := by rw [e_142]; rfl
            rw [fe_137, fe_162, fe_161, fe_163] at x_132
            rw [fe_161, fe_137, fe_162, fe_138, fe_163, fe_139] at x_133
            rw [fe_164, fe_140] at x_134
            clear fe_137 fe_138 fe_139 fe_140 fe_161 fe_162 fe_163 fe_164
            try simp only [Int32.reduceToInt, Int64.reduceToInt] at x_132
            try simp only [Int32.reduceToInt, Int64.reduceToInt] at x_133
            try simp only [Int32.reduceToInt, Int64.reduceToInt] at x_134
            refine v_if_eq hC dX12_readLoss_200 (tgt := 247) (by decide) (fun h_165 => ?_) (fun h_165 => ?_)
            · simp only [Int32.lt_iff_toInt_lt, Int32.le_iff_toInt_le, Int32.reduceToInt, ← Int32.toInt_inj] at h_165
              refine v_aload_n hC dX12_readLoss_247 rfl ?_
              refine v_vv hC (rest := []) m_1 e_142 rfl mi_X12_advance ms_X12_advance (p_X12_advance hW_135 k_0) mx_X12_advance ml_X12_156 (by decide) rfl (cells1 := 0) (slots1 := 0) (by decide) (by decide) (Nat.le_of_ble_eq_true rfl) (Nat.le_of_ble_eq_true rfl) rfl (Nat.le_of_ble_eq_true rfl) dX12_readLoss_248 (fun L_167 f_168 h_169 => ?_)
              obtain ⟨rfl, hW_173, hF_174, x_170, x_171, x_172, -⟩ := h_169
              have fe_175 : fld (f_130 a_0) 8 = (v_148 : Int32).toInt := by rw [e_142]; rfl
              have fe_176 : fld (f_130 a_0) 12 = (v_155 : Int32).toInt := by rw [e_142]; rfl
              have hf_177 := hF_174.at hf_141 rfl
              obtain ⟨v_179, v_180, v_182, v_184, v_186, v_188, v_190, v_191, v_192, v_193, v_195, e_178, b_181, b_183, b_185, b_187, b_189, b_194, b_196⟩ := hW_173.at m_1 t_2
              have fe_197 : fld (f_168 a_0) 8 = (v_184 : Int32).toInt := by rw [e_178]; rfl
              have fe_198 : fld (f_168 a_0) 9 = (v_186 : Int32).toInt := by rw [e_178]; rfl
              have fe_199 : fld (f_168 a_0) 10 = (v_188 : Int32).toInt := by rw [e_178]; rfl
              have fe_200 : fld (f_168 a_0) 12 = (v_191 : Int32).toInt := by rw [e_178]; rfl
              rw [fe_175, fe_198, fe_197] at x_170
              rw [fe_199, fe_198, fe_197] at x_171
              rw [fe_200, fe_176] at x_172
              clear fe_175 fe_176 fe_197 fe_198 fe_199 fe_200
              refine v_aload_n hC dX12_readLoss_251 rfl ?_
              refine v_get hC fl_X12_34 m_1 e_178 rfl dX12_readLoss_252 ?_
              refine v_iload_n hC dX12_readLoss_255 rfl ?_
              refine v_iconst hC dX12_readLoss_256 (v := 3) (by decide) ?_
              refine v_iast hC m_22 hf_177 (vp_in_iff.mpr (by first | omega | (simp only [Int32.lt_iff_toInt_lt, Int32.le_iff_toInt_le, Int32.reduceToInt, ← Int32.toInt_inj, true_and, and_true, or_true, true_or, false_or, or_false, false_and, and_false, not_true_eq_false, not_false_eq_true] <;> omega))) dX12_readLoss_257 (fun f_201 hf_202 hk_203 => ?_)
              have hW_205 := hW_173.up hf_202 hk_203 t_23 ⟨_, rfl, (o_f.up (by first | omega | (simp only [Int32.lt_iff_toInt_lt, Int32.le_iff_toInt_le, Int32.reduceToInt, ← Int32.toInt_inj, true_and, and_true, or_true, true_or, false_or, or_false, false_and, and_false, not_true_eq_false, not_false_eq_true] <;> omega)) (fun q1 q2 => (by first | omega | (simp only [Int32.lt_iff_toInt_lt, Int32.le_iff_toInt_le, Int32.reduceToInt, ← Int32.toInt_inj] at *; omega))) (fun k9 q1 q2 q3 => (by first | omega | (simp only [Int32.lt_iff_toInt_lt, Int32.le_iff_toInt_le, Int32.reduceToInt, ← Int32.toInt_inj] at *; omega))))⟩
              obtain ⟨g_204, hf_202, ok_206, eg_207⟩ : ∃ g9, f_201 (q 14) = aI E 2076 g9 ∧ FOK g9 ∧ g9 = upd g_f (v_49 : Int32).toNatClampNeg 3 := ⟨_, hf_202, (o_f.up (by first | omega | (simp only [Int32.lt_iff_toInt_lt, Int32.le_iff_toInt_le, Int32.reduceToInt, ← Int32.toInt_inj, true_and, and_true, or_true, true_or, false_or, or_false, false_and, and_false, not_true_eq_false, not_false_eq_true] <;> omega)) (fun q1 q2 => (by first | omega | (simp only [Int32.lt_iff_toInt_lt, Int32.le_iff_toInt_le, Int32.reduceToInt, ← Int32.toInt_inj] at *; omega))) (fun k9 q1 q2 q3 => (by first | omega | (simp only [Int32.lt_iff_toInt_lt, Int32.le_iff_toInt_le, Int32.reduceToInt, ← Int32.toInt_inj] at *; omega)))), rfl⟩
              have hf_208 := (hk_203 a_0 (ne_kd e_178 hf_177 rfl)).trans e_178
              have fr_209 := FR.w hk_203 hf_177 (k := 2176) rfl
              have lk_210 := lk_at (g0 := g_f) eg_207 (by omega) (by omega)
              have ag_211 := (AG.rf o_f).st eg_207 (by omega) (by omega)
              try simp only [Int32.reduceToInt] at lk_210
              refine v_aload_n hC dX12_readLoss_258 rfl ?_
              refine v_vv hC (rest := []) m_1 hf_208 rfl mi_X12_ends ms_X12_ends (p_X12_ends hW_205 k_0) mx_X12_ends ml_X12_178 (by decide) rfl (cells1 := 0) (slots1 := 0) (by decide) (by decide) (Nat.le_of_ble_eq_true rfl) (Nat.le_of_ble_eq_true rfl) rfl (Nat.le_of_ble_eq_true rfl) dX12_readLoss_259 (fun L_213 f_214 h_215 => ?_)
              obtain ⟨rfl, hW_217, hF_218, -, -, -, -, x_216⟩ := h_215
              have fe_219 : fld (f_201 a_0) 8 = (v_184 : Int32).toInt := by rw [hf_208]; rfl
              have fe_220 : fld (f_201 a_0) 10 = (v_188 : Int32).toInt := by rw [hf_208]; rfl
              have fe_221 : fld (f_201 a_0) 12 = (v_191 : Int32).toInt := by rw [hf_208]; rfl
              have hf_222 := hF_218.at hf_202 rfl
              obtain ⟨v_224, v_225, v_227, v_229, v_231, v_233, v_235, v_236, v_237, v_238, v_240, e_223, b_226, b_228, b_230, b_232, b_234, b_239, b_241⟩ := hW_217.at m_1 t_2
              have fe_242 : fld (f_214 a_0) 8 = (v_229 : Int32).toInt := by rw [e_223]; rfl
              have fe_243 : fld (f_214 a_0) 9 = (v_231 : Int32).toInt := by rw [e_223]; rfl
              have fe_244 : fld (f_214 a_0) 10 = (v_233 : Int32).toInt := by rw [e_223]; rfl
              have fe_245 : fld (f_214 a_0) 12 = (v_236 : Int32).toInt := by rw [e_223]; rfl
              rw [fe_245, fe_221, fe_220, fe_219, fe_243, fe_242, fe_244] at x_216
              clear fe_219 fe_220 fe_221 fe_242 fe_243 fe_244 fe_245
              refine v_aload_n hC dX12_readLoss_262 rfl ?_
              refine v_get hC fl_X12_34 m_1 e_223 rfl dX12_readLoss_263 ?_
              refine v_bipush hC dX12_readLoss_266 (v := 6) (by decide) ?_
              refine v_dup2 hC dX12_readLoss_268 rfl rfl ?_
              have l6_246 : (g_204 6).toInt = (g_f 6).toInt := congrArg Int32.toInt ag_211.2.1
              refine v_iald hC m_22 hf_222 (vp_in_iff.mpr (by decide)) (v := g_204 6) rfl dX12_readLoss_269 ?_
              refine v_iconst hC dX12_readLoss_270 (v := 1) (by decide) ?_
              obtain ⟨v_247, h_248⟩ : ∃ v9 : Int32, (g_204 6) + 1 = v9 := ⟨_, rfl⟩
              refine v_iadd hC dX12_readLoss_271 h_248 ?_
              have h_249 := add_v h_248 (by first | omega | (simp only [Int32.lt_iff_toInt_lt, Int32.le_iff_toInt_le, Int32.reduceToInt, ← Int32.toInt_inj, true_and, and_true, or_true, true_or, false_or, or_false, false_and, and_false, not_true_eq_false, not_false_eq_true] <;> omega)) (by first | omega | (simp only [Int32.lt_iff_toInt_lt, Int32.le_iff_toInt_le, Int32.reduceToInt, ← Int32.toInt_inj, true_and, and_true, or_true, true_or, false_or, or_false, false_and, and_false, not_true_eq_false, not_false_eq_true] <;> omega))
              try simp only [Int32.reduceToInt] at h_249
              refine v_iast hC m_22 hf_222 (vp_in_iff.mpr (by decide)) dX12_readLoss_272 (fun f_250 hf_251 hk_252 => ?_)
              have hW_254 := hW_217.up hf_251 hk_252 t_23 ⟨_, rfl, (ok_206.up (i := 6) (by decide) (fun q1 q2 => absurd (And.intro q1 q2) (by decide)) (fun k9 q1 q2 q3 => by simp only [Int32.reduceToInt] at q3; omega))⟩
              obtain ⟨g_253, hf_251, ok_255, eg_256⟩ : ∃ g9, f_250 (q 14) = aI E 2076 g9 ∧ FOK g9 ∧ g9 = upd g_204 (6 : Int32).toNatClampNeg v_247 := ⟨_, hf_251, (ok_206.up (i := 6) (by decide) (fun q1 q2 => absurd (And.intro q1 q2) (by decide)) (fun k9 q1 q2 q3 => by simp only [Int32.reduceToInt] at q3; omega)), rfl⟩
              have hf_257 := (hk_252 a_0 (ne_kd e_223 hf_222 rfl)).trans e_223
              have fr_258 := FR.w hk_252 hf_222 (k := 2176) rfl
              have ln6_259 := FOK.n6 ag_211.1 eg_256
              have ln6_259_t : (g_253 6).toInt = v_247.toInt := congrArg Int32.toInt ln6_259.2
              have fe_260 : fld (f_250 a_0) 12 = (v_236 : Int32).toInt := by rw [hf_257]; rfl
              have fe_265 : fld (f_250 a_0) 8 = (v_229 : Int32).toInt := by rw [hf_257]; rfl
              have fe_266 : fld (f_250 a_0) 12 = (v_236 : Int32).toInt := by rw [hf_257]; rfl
              have fe_271 : fld (f_250 a_0) 20 = (v_240 : Int32).toInt := by rw [hf_257]; rfl
              exact hR _ _ _ _ _ _ dX12_readLoss_273 (Nat.le_of_ble_eq_true rfl) (Nat.le_of_ble_eq_true rfl) ⟨rfl, hW_254, ((((((hF_98.tr hF_136).tr hF_174).tr fr_209).tr hF_218).tr fr_258).mono rfl), ⟨_, hf_251, ln6_259.1, (by omega), (by rw [fe_260]; by_cases q9 : v_236.toInt = 0; have gp_261 := x_216.resolve_left (fun h9 => h9 q9); clear x_216; have gz_262 := x_172.symm.trans gp_261.1; have gz_263 := x_134.symm.trans gz_262; have gz_264 := x_96.symm.trans gz_263; exact .inr (LO.fin hLO ag_211 eg_256 (by omega) (by omega) (fun q8 => by omega)); exact .inl q9)⟩, (by rw [fe_265, fe_266, mz_43, mz_44]; by_cases q9 : (v_236 : Int32).toInt = 0; have gp_267 := x_216.resolve_left (fun h9 => h9 q9); clear x_216; have gz_268 := x_172.symm.trans gp_267.1; have gz_269 := x_134.symm.trans gz_268; have gz_270 := x_96.symm.trans gz_269; (right; omega); exact .inl q9), (by simp only [fe_271, mz_45, true_and, and_true, or_true, true_or, false_or, or_false, false_and, and_false, not_true_eq_false, not_false_eq_true] <;> first | omega | (simp only [Int32.lt_iff_toInt_lt, Int32.le_iff_toInt_le, Int32.reduceToInt, ← Int32.toInt_inj, true_and, and_true, or_true, true_or, false_or, or_false, false_and, and_false, not_true_eq_false, not_false_eq_true] <;> omega))⟩
            · simp only [Int32.lt_iff_toInt_lt, Int32.le_iff_toInt_le, Int32.reduceToInt, ← Int32.toInt_inj] at h_165
              refine v_aload_n hC dX12_readLoss_203 rfl ?_
              refine v_get hC fl_X12_34 m_1 e_142 rfl dX12_readLoss_204 ?_
              refine v_iload_n hC dX12_readLoss_207 rfl ?_
              refine v_iconst hC dX12_readLoss_208 (v := 2) (by decide) ?_
              refine v_iast hC m_22 hf_141 (vp_in_iff.mpr (by first | omega | (simp only [Int32.lt_iff_toInt_lt, Int32.le_iff_toInt_le, Int32.reduceToInt, ← Int32.toInt_inj, true_and, and_true, or_true, true_or, false_or, or_false, false_and, and_false, not_true_eq_false, not_false_eq_true] <;> omega))) dX12_readLoss_209 (fun f_272 hf_273 hk_274 => ?_)
              have hW_276 := hW_135.up hf_273 hk_274 t_23 ⟨_, rfl, (o_f.up (by first | omega | (simp only [Int32.lt_iff_toInt_lt, Int32.le_iff_toInt_le, Int32.reduceToInt, ← Int32.toInt_inj, true_and, and_true, or_true, true_or, false_or, or_false, false_and, and_false, not_true_eq_false, not_false_eq_true] <;> omega)) (fun q1 q2 => (by first | omega | (simp only [Int32.lt_iff_toInt_lt, Int32.le_iff_toInt_le, Int32.reduceToInt, ← Int32.toInt_inj] at *; omega))) (fun k9 q1 q2 q3 => (by first | omega | (simp only [Int32.lt_iff_toInt_lt, Int32.le_iff_toInt_le, Int32.reduceToInt, ← Int32.toInt_inj] at *; omega))))⟩
              obtain ⟨g_275, hf_273, ok_277, eg_278⟩ : ∃ g9, f_272 (q 14) = aI E 2076 g9 ∧ FOK g9 ∧ g9 = upd g_f (v_49 : Int32).toNatClampNeg 2 := ⟨_, hf_273, (o_f.up (by first | omega | (simp only [Int32.lt_iff_toInt_lt, Int32.le_iff_toInt_le, Int32.reduceToInt, ← Int32.toInt_inj, true_and, and_true, or_true, true_or, false_or, or_false, false_and, and_false, not_true_eq_false, not_false_eq_true] <;> omega)) (fun q1 q2 => (by first | omega | (simp only [Int32.lt_iff_toInt_lt, Int32.le_iff_toInt_le, Int32.reduceToInt, ← Int32.toInt_inj] at *; omega))) (fun k9 q1 q2 q3 => (by first | omega | (simp only [Int32.lt_iff_toInt_lt, Int32.le_iff_toInt_le, Int32.reduceToInt, ← Int32.toInt_inj] at *; omega)))), rfl⟩
              have hf_279 := (hk_274 a_0 (ne_kd e_142 hf_141 rfl)).trans e_142
              have fr_280 := FR.w hk_274 hf_141 (k := 2176) rfl
              have lk_281 := lk_at (g0 := g_f) eg_278 (by omega) (by omega)
              have ag_282 := (AG.rf o_f).st eg_278 (by omega) (by omega)
              try simp only [Int32.reduceToInt] at lk_281
              refine v_aload_n hC dX12_readLoss_210 rfl ?_
              refine v_get hC fl_X12_34 m_1 hf_279 rfl dX12_readLoss_211 ?_
              refine v_iload_n hC dX12_readLoss_214 rfl ?_
              refine v_iconst hC dX12_readLoss_215 (v := 1) (by decide) ?_
              obtain ⟨v_283, h_284⟩ : ∃ v9 : Int32, v_49 + 1 = v9 := ⟨_, rfl⟩
              refine v_iadd hC dX12_readLoss_216 h_284 ?_
              have h_285 := add_v h_284 (by first | omega | (simp only [Int32.lt_iff_toInt_lt, Int32.le_iff_toInt_le, Int32.reduceToInt, ← Int32.toInt_inj, true_and, and_true, or_true, true_or, false_or, or_false, false_and, and_false, not_true_eq_false, not_false_eq_true] <;> omega)) (by first | omega | (simp only [Int32.lt_iff_toInt_lt, Int32.le_iff_toInt_le, Int32.reduceToInt, ← Int32.toInt_inj, true_and, and_true, or_true, true_or, false_or, or_false, false_and, and_false, not_true_eq_false, not_false_eq_true] <;> omega))
              try simp only [Int32.reduceToInt] at h_285
              refine v_aload_n hC dX12_readLoss_217 rfl ?_
              refine v_iconst hC dX12_readLoss_218 (v := 1) (by decide) ?_
              refine v_bipush hC dX12_readLoss_219 (v := 99) (by decide) ?_
              refine v_vi hC (rest := [.int v_283, .ref (q 14)]) m_1 hf_279 rfl mi_X12_number ms_X12_number (p_X12_number hW_276 k_0) mx_X12_number ml_X12_170 (by decide) rfl (cells1 := 0) (slots1 := 0) (by decide) (by decide) (Nat.le_of_ble_eq_true rfl) (Nat.le_of_ble_eq_true rfl) rfl (Nat.le_of_ble_eq_true rfl) dX12_readLoss_221 (fun r_286 L_287 f_288 h_289 => ?_)
              obtain ⟨rfl, hW_291, hF_292, -, -, -, -, -, x_290⟩ := h_289
              have fe_293 : fld (f_272 a_0) 8 = (v_148 : Int32).toInt := by rw [hf_279]; rfl
              have fe_294 : fld (f_272 a_0) 10 = (v_152 : Int32).toInt := by rw [hf_279]; rfl
              have fe_295 : fld (f_272 a_0) 12 = (v_155 : Int32).toInt := by rw [hf_279]; rfl
              have hf_296 := hF_292.at hf_273 rfl
              obtain ⟨v_298, v_299, v_301, v_303, v_305, v_307, v_309, v_310, v_311, v_312, v_314, e_297, b_300, b_302, b_304, b_306, b_308, b_313, b_315⟩ := hW_291.at m_1 t_2
              have fe_316 : fld (f_288 a_0) 8 = (v_303 : Int32).toInt := by rw [e_297]; rfl
              have fe_317 : fld (f_288 a_0) 9 = (v_305 : Int32).toInt := by rw [e_297]; rfl
              have fe_318 : fld (f_288 a_0) 10 = (v_307 : Int32).toInt := by rw [e_297]; rfl
              have fe_319 : fld (f_288 a_0) 12 = (v_310 : Int32).toInt := by rw [e_297]; rfl
              rw [fe_319, fe_295, fe_294, fe_293, fe_317, fe_316, fe_318] at x_290
              clear fe_293 fe_294 fe_295 fe_316 fe_317 fe_318 fe_319
              try simp only [Int32.reduceToInt, Int64.reduceToInt] at x_290
              refine v_iast hC m_22 hf_296 (vp_in_iff.mpr (by first | omega | (simp only [Int32.lt_iff_toInt_lt, Int32.le_iff_toInt_le, Int32.reduceToInt, ← Int32.toInt_inj, true_and, and_true, or_true, true_or, false_or, or_false, false_and, and_false, not_true_eq_false, not_false_eq_true] <;> omega))) dX12_readLoss_224 (fun f_320 hf_321 hk_322 => ?_)
              have hW_324 := hW_291.up hf_321 hk_322 t_23 ⟨_, rfl, (ok_277.up (by first | omega | (simp only [Int32.lt_iff_toInt_lt, Int32.le_iff_toInt_le, Int32.reduceToInt, ← Int32.toInt_inj, true_and, and_true, or_true, true_or, false_or, or_false, false_and, and_false, not_true_eq_false, not_false_eq_true] <;> omega)) (fun q1 q2 => (by first | omega | (simp only [Int32.lt_iff_toInt_lt, Int32.le_iff_toInt_le, Int32.reduceToInt, ← Int32.toInt_inj] at *; omega))) (fun k9 q1 q2 q3 => (by first | omega | (simp only [Int32.lt_iff_toInt_lt, Int32.le_iff_toInt_le, Int32.reduceToInt, ← Int32.toInt_inj] at *; omega))))⟩
              obtain ⟨g_323, hf_321, ok_325, eg_326⟩ : ∃ g9, f_320 (q 14) = aI E 2076 g9 ∧ FOK g9 ∧ g9 = upd g_275 (v_283 : Int32).toNatClampNeg r_286 := ⟨_, hf_321, (ok_277.up (by first | omega | (simp only [Int32.lt_iff_toInt_lt, Int32.le_iff_toInt_le, Int32.reduceToInt, ← Int32.toInt_inj, true_and, and_true, or_true, true_or, false_or, or_false, false_and, and_false, not_true_eq_false, not_false_eq_true] <;> omega)) (fun q1 q2 => (by first | omega | (simp only [Int32.lt_iff_toInt_lt, Int32.le_iff_toInt_le, Int32.reduceToInt, ← Int32.toInt_inj] at *; omega))) (fun k9 q1 q2 q3 => (by first | omega | (simp only [Int32.lt_iff_toInt_lt, Int32.le_iff_toInt_le, Int32.reduceToInt, ← Int32.toInt_inj] at *; omega)))), rfl⟩
              have hf_327 := (hk_322 a_0 (ne_kd e_297 hf_296 rfl)).trans e_297
              have fr_328 := FR.w hk_322 hf_296 (k := 2176) rfl
              have lk_329 := lf_at (g0 := g_f) eg_326 (by omega) (by omega)
              have ag_330 := ag_282.st eg_326 (by omega) (by omega)
              try simp only [Int32.reduceToInt] at lk_329
              refine v_aload_n hC dX12_readLoss_225 rfl ?_
              refine v_get hC fl_X12_34 m_1 hf_327 rfl dX12_readLoss_226 ?_
              refine v_iload_n hC dX12_readLoss_229 rfl ?_
              refine v_iconst hC dX12_readLoss_230 (v := 2) (by decide) ?_
              obtain ⟨v_331, h_332⟩ : ∃ v9 : Int32, v_49 + 2 = v9 := ⟨_, rfl⟩
              refine v_iadd hC dX12_readLoss_231 h_332 ?_
              have h_333 := add_v h_332 (by first | omega | (simp only [Int32.lt_iff_toInt_lt, Int32.le_iff_toInt_le, Int32.reduceToInt, ← Int32.toInt_inj, true_and, and_true, or_true, true_or, false_or, or_false, false_and, and_false, not_true_eq_false, not_false_eq_true] <;> omega)) (by first | omega | (simp only [Int32.lt_iff_toInt_lt, Int32.le_iff_toInt_le, Int32.reduceToInt, ← Int32.toInt_inj, true_and, and_true, or_true, true_or, false_or, or_false, false_and, and_false, not_true_eq_false, not_false_eq_true] <;> omega))
              try simp only [Int32.reduceToInt] at h_333
              refine v_aload_n hC dX12_readLoss_232 rfl ?_
              refine v_ldcwS hC sr_X12_297 dX12_readLoss_233 ?_
              refine v_iconst hC dX12_readLoss_236 (v := 0) (by decide) ?_
              refine v_sipush hC dX12_readLoss_237 (v := 255) (by decide) ?_
              refine v_vi hC (rest := [.int v_331, .ref (q 14)]) m_1 hf_327 rfl mi_X12_told ms_X12_told (p_X12_told hW_324 k_0 (by decide)) mx_X12_told ml_X12_189 (by decide) rfl (cells1 := 0) (slots1 := 0) (by decide) (by decide) (Nat.le_of_ble_eq_true rfl) (Nat.le_of_ble_eq_true rfl) rfl (Nat.le_of_ble_eq_true rfl) dX12_readLoss_240 (fun r_334 L_335 f_336 h_337 => ?_)
              obtain ⟨rfl, hW_339, hF_340, -, -, -, -, -, x_338⟩ := h_337
              have fe_341 : fld (f_320 a_0) 8 = (v_303 : Int32).toInt := by rw [hf_327]; rfl
              have fe_342 : fld (f_320 a_0) 12 = (v_310 : Int32).toInt := by rw [hf_327]; rfl
              have hf_343 := hF_340.at hf_321 rfl
              obtain ⟨v_345, v_346, v_348, v_350, v_352, v_354, v_356, v_357, v_358, v_359, v_361, e_344, b_347, b_349, b_351, b_353, b_355, b_360, b_362⟩ := hW_339.at m_1 t_2
              have fe_363 : fld (f_336 a_0) 8 = (v_350 : Int32).toInt := by rw [e_344]; rfl
              have fe_364 : fld (f_336 a_0) 9 = (v_352 : Int32).toInt := by rw [e_344]; rfl
              have fe_365 : fld (f_336 a_0) 10 = (v_354 : Int32).toInt := by rw [e_344]; rfl
              have fe_366 : fld (f_336 a_0) 12 = (v_357 : Int32).toInt := by rw [e_344]; rfl
              rw [fe_366, fe_342, fe_341, fe_364, fe_363, fe_365] at x_338
              clear fe_341 fe_342 fe_363 fe_364 fe_365 fe_366
              try simp only [Int32.reduceToInt, Int64.reduceToInt] at x_338
              refine v_iast hC m_22 hf_343 (vp_in_iff.mpr (by first | omega | (simp only [Int32.lt_iff_toInt_lt, Int32.le_iff_toInt_le, Int32.reduceToInt, ← Int32.toInt_inj, true_and, and_true, or_true, true_or, false_or, or_false, false_and, and_false, not_true_eq_false, not_false_eq_true] <;> omega))) dX12_readLoss_243 (fun f_367 hf_368 hk_369 => ?_)
              have hW_371 := hW_339.up hf_368 hk_369 t_23 ⟨_, rfl, (ok_325.up (by first | omega | (simp only [Int32.lt_iff_toInt_lt, Int32.le_iff_toInt_le, Int32.reduceToInt, ← Int32.toInt_inj, true_and, and_true, or_true, true_or, false_or, or_false, false_and, and_false, not_true_eq_false, not_false_eq_true] <;> omega)) (fun q1 q2 => (by first | omega | (simp only [Int32.lt_iff_toInt_lt, Int32.le_iff_toInt_le, Int32.reduceToInt, ← Int32.toInt_inj] at *; omega))) (fun k9 q1 q2 q3 => (by first | omega | (simp only [Int32.lt_iff_toInt_lt, Int32.le_iff_toInt_le, Int32.reduceToInt, ← Int32.toInt_inj] at *; omega))))⟩
              obtain ⟨g_370, hf_368, ok_372, eg_373⟩ : ∃ g9, f_367 (q 14) = aI E 2076 g9 ∧ FOK g9 ∧ g9 = upd g_323 (v_331 : Int32).toNatClampNeg r_334 := ⟨_, hf_368, (ok_325.up (by first | omega | (simp only [Int32.lt_iff_toInt_lt, Int32.le_iff_toInt_le, Int32.reduceToInt, ← Int32.toInt_inj, true_and, and_true, or_true, true_or, false_or, or_false, false_and, and_false, not_true_eq_false, not_false_eq_true] <;> omega)) (fun q1 q2 => (by first | omega | (simp only [Int32.lt_iff_toInt_lt, Int32.le_iff_toInt_le, Int32.reduceToInt, ← Int32.toInt_inj] at *; omega))) (fun k9 q1 q2 q3 => (by first | omega | (simp only [Int32.lt_iff_toInt_lt, Int32.le_iff_toInt_le, Int32.reduceToInt, ← Int32.toInt_inj] at *; omega)))), rfl⟩
              have hf_374 := (hk_369 a_0 (ne_kd e_344 hf_343 rfl)).trans e_344
              have fr_375 := FR.w hk_369 hf_343 (k := 2176) rfl
              have lk_376 := l2_at (g0 := g_f) eg_373 (by omega) (by omega)
              have ag_377 := ag_330.st eg_373 (by omega) (by omega)
              try simp only [Int32.reduceToInt] at lk_376
              refine v_goto hC dX12_readLoss_244 (tgt := 258) (by decide) ?_
              refine v_aload_n hC dX12_readLoss_258 rfl ?_
              refine v_vv hC (rest := []) m_1 hf_374 rfl mi_X12_ends ms_X12_ends (p_X12_ends hW_371 k_0) mx_X12_ends ml_X12_178 (by decide) rfl (cells1 := 0) (slots1 := 0) (by decide) (by decide) (Nat.le_of_ble_eq_true rfl) (Nat.le_of_ble_eq_true rfl) rfl (Nat.le_of_ble_eq_true rfl) dX12_readLoss_259 (fun L_379 f_380 h_381 => ?_)
              obtain ⟨rfl, hW_383, hF_384, -, -, -, -, x_382⟩ := h_381
              have fe_385 : fld (f_367 a_0) 8 = (v_350 : Int32).toInt := by rw [hf_374]; rfl
              have fe_386 : fld (f_367 a_0) 10 = (v_354 : Int32).toInt := by rw [hf_374]; rfl
              have fe_387 : fld (f_367 a_0) 12 = (v_357 : Int32).toInt := by rw [hf_374]; rfl
              have hf_388 := hF_384.at hf_368 rfl
              obtain ⟨v_390, v_391, v_393, v_395, v_397, v_399, v_401, v_402, v_403, v_404, v_406, e_389, b_392, b_394, b_396, b_398, b_400, b_405, b_407⟩ := hW_383.at m_1 t_2
              have fe_408 : fld (f_380 a_0) 8 = (v_395 : Int32).toInt := by rw [e_389]; rfl
              have fe_409 : fld (f_380 a_0) 9 = (v_397 : Int32).toInt := by rw [e_389]; rfl
              have fe_410 : fld (f_380 a_0) 10 = (v_399 : Int32).toInt := by rw [e_389]; rfl
              have fe_411 : fld (f_380 a_0) 12 = (v_402 : Int32).toInt := by rw [e_389]; rfl
              rw [fe_411, fe_387, fe_386, fe_385, fe_409, fe_408, fe_410] at x_382
              clear fe_385 fe_386 fe_387 fe_408 fe_409 fe_410 fe_411
              refine v_aload_n hC dX12_readLoss_262 rfl ?_
              refine v_get hC fl_X12_34 m_1 e_389 rfl dX12_readLoss_263 ?_
              refine v_bipush hC dX12_readLoss_266 (v := 6) (by decide) ?_
              refine v_dup2 hC dX12_readLoss_268 rfl rfl ?_
              have l6_412 : (g_370 6).toInt = (g_f 6).toInt := congrArg Int32.toInt ag_377.2.1
              refine v_iald hC m_22 hf_388 (vp_in_iff.mpr (by decide)) (v := g_370 6) rfl dX12_readLoss_269 ?_
              refine v_iconst hC dX12_readLoss_270 (v := 1) (by decide) ?_
              obtain ⟨v_413, h_414⟩ : ∃ v9 : Int32, (g_370 6) + 1 = v9 := ⟨_, rfl⟩
              refine v_iadd hC dX12_readLoss_271 h_414 ?_
              have h_415 := add_v h_414 (by first | omega | (simp only [Int32.lt_iff_toInt_lt, Int32.le_iff_toInt_le, Int32.reduceToInt, ← Int32.toInt_inj, true_and, and_true, or_true, true_or, false_or, or_false, false_and, and_false, not_true_eq_false, not_false_eq_true] <;> omega)) (by first | omega | (simp only [Int32.lt_iff_toInt_lt, Int32.le_iff_toInt_le, Int32.reduceToInt, ← Int32.toInt_inj, true_and, and_true, or_true, true_or, false_or, or_false, false_and, and_false, not_true_eq_false, not_false_eq_true] <;> omega))
              try simp only [Int32.reduceToInt] at h_415
              refine v_iast hC m_22 hf_388 (vp_in_iff.mpr (by decide)) dX12_readLoss_272 (fun f_416 hf_417 hk_418 => ?_)
              have hW_420 := hW_383.up hf_417 hk_418 t_23 ⟨_, rfl, (ok_372.up (i := 6) (by decide) (fun q1 q2 => absurd (And.intro q1 q2) (by decide)) (fun k9 q1 q2 q3 => by simp only [Int32.reduceToInt] at q3; omega))⟩
              obtain ⟨g_419, hf_417, ok_421, eg_422⟩ : ∃ g9, f_416 (q 14) = aI E 2076 g9 ∧ FOK g9 ∧ g9 = upd g_370 (6 : Int32).toNatClampNeg v_413 := ⟨_, hf_417, (ok_372.up (i := 6) (by decide) (fun q1 q2 => absurd (And.intro q1 q2) (by decide)) (fun k9 q1 q2 q3 => by simp only [Int32.reduceToInt] at q3; omega)), rfl⟩
              have hf_423 := (hk_418 a_0 (ne_kd e_389 hf_388 rfl)).trans e_389
              have fr_424 := FR.w hk_418 hf_388 (k := 2176) rfl
              have ln6_425 := FOK.n6 ag_377.1 eg_422
              have ln6_425_t : (g_419 6).toInt = v_413.toInt := congrArg Int32.toInt ln6_425.2
              have fe_426 : fld (f_416 a_0) 12 = (v_402 : Int32).toInt := by rw [hf_423]; rfl
              have fe_432 : fld (f_416 a_0) 8 = (v_395 : Int32).toInt := by rw [hf_423]; rfl
              have fe_433 : fld (f_416 a_0) 12 = (v_402 : Int32).toInt := by rw [hf_423]; rfl
              have fe_439 : fld (f_416 a_0) 20 = (v_406 : Int32).toInt := by rw [hf_423]; rfl
              exact hR _ _ _ _ _ _ dX12_readLoss_273 (Nat.le_of_ble_eq_true rfl) (Nat.le_of_ble_eq_true rfl) ⟨rfl, hW_420, (((((((((hF_98.tr hF_136).tr fr_280).tr hF_292).tr fr_328).tr hF_340).tr fr_375).tr hF_384).tr fr_424).mono rfl), ⟨_, hf_417, ln6_425.1, (by omega), (by rw [fe_426]; by_cases q9 : v_402.toInt = 0; have gp_427 := x_382.resolve_left (fun h9 => h9 q9); clear x_382; have gp_428 := x_338.resolve_left (fun h9 => h9 gp_427.1); clear x_338; have gp_429 := x_290.resolve_left (fun h9 => h9 gp_428.1); clear x_290; have gz_430 := x_134.symm.trans gp_429.1; have gz_431 := x_96.symm.trans gz_430; exact .inr (LO.fin hLO ag_377 eg_422 (by omega) (by omega) (fun q8 => by omega)); exact .inl q9)⟩, (by rw [fe_432, fe_433, mz_43, mz_44]; by_cases q9 : (v_402 : Int32).toInt = 0; have gp_434 := x_382.resolve_left (fun h9 => h9 q9); clear x_382; have gp_435 := x_338.resolve_left (fun h9 => h9 gp_434.1); clear x_338; have gp_436 := x_290.resolve_left (fun h9 => h9 gp_435.1); clear x_290; have gz_437 := x_134.symm.trans gp_436.1; have gz_438 := x_96.symm.trans gz_437; (right; omega); exact .inl q9), (by simp only [fe_439, mz_45, true_and, and_true, or_true, true_or, false_or, or_false, false_and, and_false, not_true_eq_false, not_false_eq_true] <;> first | omega | (simp only [Int32.lt_iff_toInt_lt, Int32.le_iff_toInt_le, Int32.reduceToInt, ← Int32.toInt_inj, true_and, and_true, or_true, true_or, false_or, or_false, false_and, and_false, not_true_eq_false, not_false_eq_true] <;> omega))⟩
          · simp only [Int32.lt_iff_toInt_lt, Int32.le_iff_toInt_le, Int32.reduceToInt, ← Int32.toInt_inj] at h_127
            refine v_aload_n hC dX12_readLoss_98 rfl ?_
            refine v_ldcwS hC sr_X12_293 dX12_readLoss_99 ?_
            refine v_vi hC (rest := []) m_1 e_104 rfl mi_X12_is ms_X12_is (p_X12_is hW_97 k_0 (by decide)) mx_X12_is ml_X12_152 (by decide) rfl (cells1 := 0) (slots1 := 0) (by decide) (by decide) (Nat.le_of_ble_eq_true rfl) (Nat.le_of_ble_eq_true rfl) rfl (Nat.le_of_ble_eq_true rfl) dX12_readLoss_102 (fun r_440 L_441 f_442 h_443 => ?_)
            obtain ⟨rfl, rfl, rfl⟩ := h_443
            refine v_istore_n hC dX12_readLoss_105 (by decide) (lv' := [(3, .int (iw (f_92 a_0) (f_92 (q 4)) 74)), (2, .int v_74), (1, .int v_49), (0, .ref a_0)]) rfl ?_
            refine v_iload_n hC dX12_readLoss_106 rfl ?_
            refine v_if_ne hC dX12_readLoss_107 (tgt := 124) (by decide) (fun h_446 => ?_) (fun h_446 => ?_)
            · simp only [Int32.lt_iff_toInt_lt, Int32.le_iff_toInt_le, Int32.reduceToInt, ← Int32.toInt_inj] at h_446
              refine v_aload_n hC dX12_readLoss_124 rfl ?_
              refine v_vi hC (rest := []) m_1 e_104 rfl mi_X12_good ms_X12_good (p_X12_good hW_97 k_0) mx_X12_good ml_X12_139 (by decide) rfl (cells1 := 0) (slots1 := 0) (by decide) (by decide) (Nat.le_of_ble_eq_true rfl) (Nat.le_of_ble_eq_true rfl) rfl (Nat.le_of_ble_eq_true rfl) dX12_readLoss_125 (fun r_447 L_448 f_449 h_450 => ?_)
              obtain ⟨rfl, rfl, b_451, x_452⟩ := h_450
              have fe_455 : fld (f_92 a_0) 12 = (v_117 : Int32).toInt := by rw [e_104]; rfl
              rw [fe_455] at x_452
              clear fe_455
              try simp only [Int32.reduceToInt, Int64.reduceToInt] at x_452
              refine v_if_eq hC dX12_readLoss_128 (tgt := 135) (by decide) (fun h_456 => ?_) (fun h_456 => ?_)
              · simp only [Int32.lt_iff_toInt_lt, Int32.le_iff_toInt_le, Int32.reduceToInt, ← Int32.toInt_inj] at h_456
                have g0_457 := gd_f x_452 h_456
                clear x_452
                clear x_96
                refine v_aload_n hC dX12_readLoss_135 rfl ?_
                refine v_get hC fl_X12_34 m_1 e_104 rfl dX12_readLoss_136 ?_
                refine v_iload_n hC dX12_readLoss_139 rfl ?_
                refine v_iload_n hC dX12_readLoss_140 rfl ?_
                refine v_if_eq_f hC dX12_readLoss_141 (tgt := 148) (by decide) (by first | omega | (simp only [Int32.lt_iff_toInt_lt, Int32.le_iff_toInt_le, Int32.reduceToInt, ← Int32.toInt_inj, true_and, and_true, or_true, true_or, false_or, or_false, false_and, and_false, not_true_eq_false, not_false_eq_true] <;> omega)) ?_
                refine v_iconst hC dX12_readLoss_144 (v := 1) (by decide) ?_
                refine v_goto hC dX12_readLoss_145 (tgt := 149) (by decide) ?_
                refine v_iast hC m_22 hf_103 (vp_in_iff.mpr (by first | omega | (simp only [Int32.lt_iff_toInt_lt, Int32.le_iff_toInt_le, Int32.reduceToInt, ← Int32.toInt_inj, true_and, and_true, or_true, true_or, false_or, or_false, false_and, and_false, not_true_eq_false, not_false_eq_true] <;> omega))) dX12_readLoss_149 (fun f_460 hf_461 hk_462 => ?_)
                have hW_464 := hW_97.up hf_461 hk_462 t_23 ⟨_, rfl, (o_f.up (by first | omega | (simp only [Int32.lt_iff_toInt_lt, Int32.le_iff_toInt_le, Int32.reduceToInt, ← Int32.toInt_inj, true_and, and_true, or_true, true_or, false_or, or_false, false_and, and_false, not_true_eq_false, not_false_eq_true] <;> omega)) (fun q1 q2 => (by first | omega | (simp only [Int32.lt_iff_toInt_lt, Int32.le_iff_toInt_le, Int32.reduceToInt, ← Int32.toInt_inj] at *; omega))) (fun k9 q1 q2 q3 => (by first | omega | (simp only [Int32.lt_iff_toInt_lt, Int32.le_iff_toInt_le, Int32.reduceToInt, ← Int32.toInt_inj] at *; omega))))⟩
                obtain ⟨g_463, hf_461, ok_465, eg_466⟩ : ∃ g9, f_460 (q 14) = aI E 2076 g9 ∧ FOK g9 ∧ g9 = upd g_f (v_49 : Int32).toNatClampNeg 1 := ⟨_, hf_461, (o_f.up (by first | omega | (simp only [Int32.lt_iff_toInt_lt, Int32.le_iff_toInt_le, Int32.reduceToInt, ← Int32.toInt_inj, true_and, and_true, or_true, true_or, false_or, or_false, false_and, and_false, not_true_eq_false, not_false_eq_true] <;> omega)) (fun q1 q2 => (by first | omega | (simp only [Int32.lt_iff_toInt_lt, Int32.le_iff_toInt_le, Int32.reduceToInt, ← Int32.toInt_inj] at *; omega))) (fun k9 q1 q2 q3 => (by first | omega | (simp only [Int32.lt_iff_toInt_lt, Int32.le_iff_toInt_le, Int32.reduceToInt, ← Int32.toInt_inj] at *; omega)))), rfl⟩
                have hf_467 := (hk_462 a_0 (ne_kd e_104 hf_103 rfl)).trans e_104
                have fr_468 := FR.w hk_462 hf_103 (k := 2176) rfl
                have lk_469 := lk_at (g0 := g_f) eg_466 (by omega) (by omega)
                have ag_470 := (AG.rf o_f).st eg_466 (by omega) (by omega)
                try simp only [Int32.reduceToInt] at lk_469
                refine v_aload_n hC dX12_readLoss_150 rfl ?_
                refine v_get hC fl_X12_34 m_1 hf_467 rfl dX12_readLoss_151 ?_
                refine v_iload_n hC dX12_readLoss_154 rfl ?_
                refine v_iconst hC dX12_readLoss_155 (v := 1) (by decide) ?_
                obtain ⟨v_471, h_472⟩ : ∃ v9 : Int32, v_49 + 1 = v9 := ⟨_, rfl⟩
                refine v_iadd hC dX12_readLoss_156 h_472 ?_
                have h_473 := add_v h_472 (by first | omega | (simp only [Int32.lt_iff_toInt_lt, Int32.le_iff_toInt_le, Int32.reduceToInt, ← Int32.toInt_inj, true_and, and_true, or_true, true_or, false_or, or_false, false_and, and_false, not_true_eq_false, not_false_eq_true] <;> omega)) (by first | omega | (simp only [Int32.lt_iff_toInt_lt, Int32.le_iff_toInt_le, Int32.reduceToInt, ← Int32.toInt_inj, true_and, and_true, or_true, true_or, false_or, or_false, false_and, and_false, not_true_eq_false, not_false_eq_true] <;> omega))
                try simp only [Int32.reduceToInt] at h_473
                refine v_aload_n hC dX12_readLoss_157 rfl ?_
                refine v_iconst hC dX12_readLoss_158 (v := 0) (by decide) ?_
                refine v_bipush hC dX12_readLoss_159 (v := 15) (by decide) ?_
                refine v_vi hC (rest := [.int v_471, .ref (q 14)]) m_1 hf_467 rfl mi_X12_number ms_X12_number (p_X12_number hW_464 k_0) mx_X12_number ml_X12_170 (by decide) rfl (cells1 := 0) (slots1 := 0) (by decide) (by decide) (Nat.le_of_ble_eq_true rfl) (Nat.le_of_ble_eq_true rfl) rfl (Nat.le_of_ble_eq_true rfl) dX12_readLoss_161 (fun r_474 L_475 f_476 h_477 => ?_)
                obtain ⟨rfl, hW_479, hF_480, -, -, -, -, -, x_478⟩ := h_477
                have fe_481 : fld (f_460 a_0) 8 = (v_110 : Int32).toInt := by rw [hf_467]; rfl
                have fe_482 : fld (f_460 a_0) 10 = (v_114 : Int32).toInt := by rw [hf_467]; rfl
                have fe_483 : fld (f_460 a_0) 12 = (v_117 : Int32).toInt := by rw [hf_467]; rfl
                have hf_484 := hF_480.at hf_461 rfl
                obtain ⟨v_486, v_487, v_489, v_491, v_493, v_495, v_497, v_498, v_499, v_500, v_502, e_485, b_488, b_490, b_492, b_494, b_496, b_501, b_503⟩ := hW_479.at m_1 t_2
                have fe_504 : fld (f_476 a_0) 8 = (v_491 : Int32).toInt := by rw [e_485]; rfl
                have fe_505 : fld (f_476 a_0) 9 = (v_493 : Int32).toInt := by rw [e_485]; rfl
                have fe_506 : fld (f_476 a_0) 10 = (v_495 : Int32).toInt := by rw [e_485]; rfl
                have fe_507 : fld (f_476 a_0) 12 = (v_498 : Int32).toInt := by rw [e_485]; rfl
                rw [fe_507, fe_483, fe_482, fe_481, fe_505, fe_504, fe_506] at x_478
                have nb_508 : ¬ (v_498 : Int32).toInt = 0 := x_478.elim id (fun h9 => absurd h9.1 g0_457)
                clear x_478
                clear fe_481 fe_482 fe_483 fe_504 fe_505 fe_506 fe_507
                try simp only [Int32.reduceToInt, Int64.reduceToInt] at x_478
                refine v_iast hC m_22 hf_484 (vp_in_iff.mpr (by first | omega | (simp only [Int32.lt_iff_toInt_lt, Int32.le_iff_toInt_le, Int32.reduceToInt, ← Int32.toInt_inj, true_and, and_true, or_true, true_or, false_or, or_false, false_and, and_false, not_true_eq_false, not_false_eq_true] <;> omega))) dX12_readLoss_164 (fun f_509 hf_510 hk_511 => ?_)
                have hW_513 := hW_479.up hf_510 hk_511 t_23 ⟨_, rfl, (ok_465.up (by first | omega | (simp only [Int32.lt_iff_toInt_lt, Int32.le_iff_toInt_le, Int32.reduceToInt, ← Int32.toInt_inj, true_and, and_true, or_true, true_or, false_or, or_false, false_and, and_false, not_true_eq_false, not_false_eq_true] <;> omega)) (fun q1 q2 => (by first | omega | (simp only [Int32.lt_iff_toInt_lt, Int32.le_iff_toInt_le, Int32.reduceToInt, ← Int32.toInt_inj] at *; omega))) (fun k9 q1 q2 q3 => (by first | omega | (simp only [Int32.lt_iff_toInt_lt, Int32.le_iff_toInt_le, Int32.reduceToInt, ← Int32.toInt_inj] at *; omega))))⟩
                obtain ⟨g_512, hf_510, ok_514, eg_515⟩ : ∃ g9, f_509 (q 14) = aI E 2076 g9 ∧ FOK g9 ∧ g9 = upd g_463 (v_471 : Int32).toNatClampNeg r_474 := ⟨_, hf_510, (ok_465.up (by first | omega | (simp only [Int32.lt_iff_toInt_lt, Int32.le_iff_toInt_le, Int32.reduceToInt, ← Int32.toInt_inj, true_and, and_true, or_true, true_or, false_or, or_false, false_and, and_false, not_true_eq_false, not_false_eq_true] <;> omega)) (fun q1 q2 => (by first | omega | (simp only [Int32.lt_iff_toInt_lt, Int32.le_iff_toInt_le, Int32.reduceToInt, ← Int32.toInt_inj] at *; omega))) (fun k9 q1 q2 q3 => (by first | omega | (simp only [Int32.lt_iff_toInt_lt, Int32.le_iff_toInt_le, Int32.reduceToInt, ← Int32.toInt_inj] at *; omega)))), rfl⟩
                have hf_516 := (hk_511 a_0 (ne_kd e_485 hf_484 rfl)).trans e_485
                have fr_517 := FR.w hk_511 hf_484 (k := 2176) rfl
                have lk_518 := lf_at (g0 := g_f) eg_515 (by omega) (by omega)
                have ag_519 := ag_470.st eg_515 (by omega) (by omega)
                try simp only [Int32.reduceToInt] at lk_518
                refine v_aload_n hC dX12_readLoss_165 rfl ?_
                refine v_get hC fl_X12_34 m_1 hf_516 rfl dX12_readLoss_166 ?_
                refine v_iload_n hC dX12_readLoss_169 rfl ?_
                refine v_iconst hC dX12_readLoss_170 (v := 2) (by decide) ?_
                obtain ⟨v_520, h_521⟩ : ∃ v9 : Int32, v_49 + 2 = v9 := ⟨_, rfl⟩
                refine v_iadd hC dX12_readLoss_171 h_521 ?_
                have h_522 := add_v h_521 (by first | omega | (simp only [Int32.lt_iff_toInt_lt, Int32.le_iff_toInt_le, Int32.reduceToInt, ← Int32.toInt_inj, true_and, and_true, or_true, true_or, false_or, or_false, false_and, and_false, not_true_eq_false, not_false_eq_true] <;> omega)) (by first | omega | (simp only [Int32.lt_iff_toInt_lt, Int32.le_iff_toInt_le, Int32.reduceToInt, ← Int32.toInt_inj, true_and, and_true, or_true, true_or, false_or, or_false, false_and, and_false, not_true_eq_false, not_false_eq_true] <;> omega))
                try simp only [Int32.reduceToInt] at h_522
                refine v_aload_n hC dX12_readLoss_172 rfl ?_
                refine v_ldcwS hC sr_X12_295 dX12_readLoss_173 ?_
                refine v_aload_n hC dX12_readLoss_176 rfl ?_
                refine v_get hC fl_X12_34 m_1 hf_516 rfl dX12_readLoss_177 ?_
                refine v_iload_n hC dX12_readLoss_180 rfl ?_
                refine v_iconst hC dX12_readLoss_181 (v := 1) (by decide) ?_
                obtain ⟨v_523, h_524⟩ : ∃ v9 : Int32, v_49 + 1 = v9 := ⟨_, rfl⟩
                refine v_iadd hC dX12_readLoss_182 h_524 ?_
                have h_525 := add_v h_524 (by first | omega | (simp only [Int32.lt_iff_toInt_lt, Int32.le_iff_toInt_le, Int32.reduceToInt, ← Int32.toInt_inj, true_and, and_true, or_true, true_or, false_or, or_false, false_and, and_false, not_true_eq_false, not_false_eq_true] <;> omega)) (by first | omega | (simp only [Int32.lt_iff_toInt_lt, Int32.le_iff_toInt_le, Int32.reduceToInt, ← Int32.toInt_inj, true_and, and_true, or_true, true_or, false_or, or_false, false_and, and_false, not_true_eq_false, not_false_eq_true] <;> omega))
                try simp only [Int32.reduceToInt] at h_525
                obtain ⟨v_526, h_527⟩ : ∃ v9 : Int32, g_512 (v_523 : Int32).toNatClampNeg = v9 := ⟨_, rfl⟩
                refine v_iald hC m_22 hf_510 (vp_in_iff.mpr (by first | omega | (simp only [Int32.lt_iff_toInt_lt, Int32.le_iff_toInt_le, Int32.reduceToInt, ← Int32.toInt_inj, true_and, and_true, or_true, true_or, false_or, or_false, false_and, and_false, not_true_eq_false, not_false_eq_true] <;> omega))) h_527 dX12_readLoss_183 ?_
                refine v_bipush hC dX12_readLoss_184 (v := 15) (by decide) ?_
                refine v_vi hC (rest := [.int v_520, .ref (q 14)]) m_1 hf_516 rfl mi_X12_told ms_X12_told (p_X12_told hW_513 k_0 (by decide)) mx_X12_told ml_X12_189 (by decide) rfl (cells1 := 0) (slots1 := 0) (by decide) (by decide) (Nat.le_of_ble_eq_true rfl) (Nat.le_of_ble_eq_true rfl) rfl (Nat.le_of_ble_eq_true rfl) dX12_readLoss_186 (fun r_528 L_529 f_530 h_531 => ?_)
                obtain ⟨rfl, hW_533, hF_534, -, -, -, -, -, x_532⟩ := h_531
                have fe_535 : fld (f_509 a_0) 8 = (v_491 : Int32).toInt := by rw [hf_516]; rfl
                have fe_536 : fld (f_509 a_0) 12 = (v_498 : Int32).toInt := by rw [hf_516]; rfl
                have hf_537 := hF_534.at hf_510 rfl
                obtain ⟨v_539, v_540, v_542, v_544, v_546, v_548, v_550, v_551, v_552, v_553, v_555, e_538, b_541, b_543, b_545, b_547, b_549, b_554, b_556⟩ := hW_533.at m_1 t_2
                have fe_557 : fld (f_530 a_0) 8 = (v_544 : Int32).toInt := by rw [e_538]; rfl
                have fe_558 : fld (f_530 a_0) 9 = (v_546 : Int32).toInt := by rw [e_538]; rfl
                have fe_559 : fld (f_530 a_0) 10 = (v_548 : Int32).toInt := by rw [e_538]; rfl
                have fe_560 : fld (f_530 a_0) 12 = (v_551 : Int32).toInt := by rw [e_538]; rfl
                rw [fe_560, fe_536, fe_535, fe_558, fe_557, fe_559] at x_532
                have nb_561 : ¬ (v_551 : Int32).toInt = 0 := x_532.elim id (fun h9 => absurd h9.1 nb_508)
                clear x_532
                clear fe_535 fe_536 fe_557 fe_558 fe_559 fe_560
                try simp only [Int32.reduceToInt, Int64.reduceToInt] at x_532
                refine v_iast hC m_22 hf_537 (vp_in_iff.mpr (by first | omega | (simp only [Int32.lt_iff_toInt_lt, Int32.le_iff_toInt_le, Int32.reduceToInt, ← Int32.toInt_inj, true_and, and_true, or_true, true_or, false_or, or_false, false_and, and_false, not_true_eq_false, not_false_eq_true] <;> omega))) dX12_readLoss_189 (fun f_562 hf_563 hk_564 => ?_)
                have hW_566 := hW_533.up hf_563 hk_564 t_23 ⟨_, rfl, (ok_514.up (by first | omega | (simp only [Int32.lt_iff_toInt_lt, Int32.le_iff_toInt_le, Int32.reduceToInt, ← Int32.toInt_inj, true_and, and_true, or_true, true_or, false_or, or_false, false_and, and_false, not_true_eq_false, not_false_eq_true] <;> omega)) (fun q1 q2 => (by first | omega | (simp only [Int32.lt_iff_toInt_lt, Int32.le_iff_toInt_le, Int32.reduceToInt, ← Int32.toInt_inj] at *; omega))) (fun k9 q1 q2 q3 => (by first | omega | (simp only [Int32.lt_iff_toInt_lt, Int32.le_iff_toInt_le, Int32.reduceToInt, ← Int32.toInt_inj] at *; omega))))⟩
                obtain ⟨g_565, hf_563, ok_567, eg_568⟩ : ∃ g9, f_562 (q 14) = aI E 2076 g9 ∧ FOK g9 ∧ g9 = upd g_512 (v_520 : Int32).toNatClampNeg r_528 := ⟨_, hf_563, (ok_514.up (by first | omega | (simp only [Int32.lt_iff_toInt_lt, Int32.le_iff_toInt_le, Int32.reduceToInt, ← Int32.toInt_inj, true_and, and_true, or_true, true_or, false_or, or_false, false_and, and_false, not_true_eq_false, not_false_eq_true] <;> omega)) (fun q1 q2 => (by first | omega | (simp only [Int32.lt_iff_toInt_lt, Int32.le_iff_toInt_le, Int32.reduceToInt, ← Int32.toInt_inj] at *; omega))) (fun k9 q1 q2 q3 => (by first | omega | (simp only [Int32.lt_iff_toInt_lt, Int32.le_iff_toInt_le, Int32.reduceToInt, ← Int32.toInt_inj] at *; omega)))), rfl⟩
                have hf_569 := (hk_564 a_0 (ne_kd e_538 hf_537 rfl)).trans e_538
                have fr_570 := FR.w hk_564 hf_537 (k := 2176) rfl
                have lk_571 := l2_at (g0 := g_f) eg_568 (by omega) (by omega)
                have ag_572 := ag_519.st eg_568 (by omega) (by omega)
                try simp only [Int32.reduceToInt] at lk_571
                refine v_goto hC dX12_readLoss_190 (tgt := 258) (by decide) ?_
                refine v_aload_n hC dX12_readLoss_258 rfl ?_
                refine v_vv hC (rest := []) m_1 hf_569 rfl mi_X12_ends ms_X12_ends (p_X12_ends hW_566 k_0) mx_X12_ends ml_X12_178 (by decide) rfl (cells1 := 0) (slots1 := 0) (by decide) (by decide) (Nat.le_of_ble_eq_true rfl) (Nat.le_of_ble_eq_true rfl) rfl (Nat.le_of_ble_eq_true rfl) dX12_readLoss_259 (fun L_574 f_575 h_576 => ?_)
                obtain ⟨rfl, hW_578, hF_579, -, -, -, -, x_577⟩ := h_576
                have fe_580 : fld (f_562 a_0) 8 = (v_544 : Int32).toInt := by rw [hf_569]; rfl
                have fe_581 : fld (f_562 a_0) 10 = (v_548 : Int32).toInt := by rw [hf_569]; rfl
                have fe_582 : fld (f_562 a_0) 12 = (v_551 : Int32).toInt := by rw [hf_569]; rfl
                have hf_583 := hF_579.at hf_563 rfl
                obtain ⟨v_585, v_586, v_588, v_590, v_592, v_594, v_596, v_597, v_598, v_599, v_601, e_584, b_587, b_589, b_591, b_593, b_595, b_600, b_602⟩ := hW_578.at m_1 t_2
                have fe_603 : fld (f_575 a_0) 8 = (v_590 : Int32).toInt := by rw [e_584]; rfl
                have fe_604 : fld (f_575 a_0) 9 = (v_592 : Int32).toInt := by rw [e_584]; rfl
                have fe_605 : fld (f_575 a_0) 10 = (v_594 : Int32).toInt := by rw [e_584]; rfl
                have fe_606 : fld (f_575 a_0) 12 = (v_597 : Int32).toInt := by rw [e_584]; rfl
                rw [fe_606, fe_582, fe_581, fe_580, fe_604, fe_603, fe_605] at x_577
                have nb_607 : ¬ (v_597 : Int32).toInt = 0 := x_577.elim id (fun h9 => absurd h9.1 nb_561)
                clear x_577
                clear fe_580 fe_581 fe_582 fe_603 fe_604 fe_605 fe_606
                refine v_aload_n hC dX12_readLoss_262 rfl ?_
                refine v_get hC fl_X12_34 m_1 e_584 rfl dX12_readLoss_263 ?_
                refine v_bipush hC dX12_readLoss_266 (v := 6) (by decide) ?_
                refine v_dup2 hC dX12_readLoss_268 rfl rfl ?_
                have l6_608 : (g_565 6).toInt = (g_f 6).toInt := congrArg Int32.toInt ag_572.2.1
                refine v_iald hC m_22 hf_583 (vp_in_iff.mpr (by decide)) (v := g_565 6) rfl dX12_readLoss_269 ?_
                refine v_iconst hC dX12_readLoss_270 (v := 1) (by decide) ?_
                obtain ⟨v_609, h_610⟩ : ∃ v9 : Int32, (g_565 6) + 1 = v9 := ⟨_, rfl⟩
                refine v_iadd hC dX12_readLoss_271 h_610 ?_
                have h_611 := add_v h_610 (by first | omega | (simp only [Int32.lt_iff_toInt_lt, Int32.le_iff_toInt_le, Int32.reduceToInt, ← Int32.toInt_inj, true_and, and_true, or_true, true_or, false_or, or_false, false_and, and_false, not_true_eq_false, not_false_eq_true] <;> omega)) (by first | omega | (simp only [Int32.lt_iff_toInt_lt, Int32.le_iff_toInt_le, Int32.reduceToInt, ← Int32.toInt_inj, true_and, and_true, or_true, true_or, false_or, or_false, false_and, and_false, not_true_eq_false, not_false_eq_true] <;> omega))
                try simp only [Int32.reduceToInt] at h_611
                refine v_iast hC m_22 hf_583 (vp_in_iff.mpr (by decide)) dX12_readLoss_272 (fun f_612 hf_613 hk_614 => ?_)
                have hW_616 := hW_578.up hf_613 hk_614 t_23 ⟨_, rfl, (ok_567.up (i := 6) (by decide) (fun q1 q2 => absurd (And.intro q1 q2) (by decide)) (fun k9 q1 q2 q3 => by simp only [Int32.reduceToInt] at q3; omega))⟩
                obtain ⟨g_615, hf_613, ok_617, eg_618⟩ : ∃ g9, f_612 (q 14) = aI E 2076 g9 ∧ FOK g9 ∧ g9 = upd g_565 (6 : Int32).toNatClampNeg v_609 := ⟨_, hf_613, (ok_567.up (i := 6) (by decide) (fun q1 q2 => absurd (And.intro q1 q2) (by decide)) (fun k9 q1 q2 q3 => by simp only [Int32.reduceToInt] at q3; omega)), rfl⟩
                have hf_619 := (hk_614 a_0 (ne_kd e_584 hf_583 rfl)).trans e_584
                have fr_620 := FR.w hk_614 hf_583 (k := 2176) rfl
                have ln6_621 := FOK.n6 ag_572.1 eg_618
                have ln6_621_t : (g_615 6).toInt = v_609.toInt := congrArg Int32.toInt ln6_621.2
                have fe_622 : fld (f_612 a_0) 12 = (v_597 : Int32).toInt := by rw [hf_619]; rfl
                have fe_623 : fld (f_612 a_0) 8 = (v_590 : Int32).toInt := by rw [hf_619]; rfl
                have fe_624 : fld (f_612 a_0) 12 = (v_597 : Int32).toInt := by rw [hf_619]; rfl
                have fe_625 : fld (f_612 a_0) 20 = (v_601 : Int32).toInt := by rw [hf_619]; rfl
                exact hR _ _ _ _ _ _ dX12_readLoss_273 (Nat.le_of_ble_eq_true rfl) (Nat.le_of_ble_eq_true rfl) ⟨rfl, hW_616, ((((((((hF_98.tr fr_468).tr hF_480).tr fr_517).tr hF_534).tr fr_570).tr hF_579).tr fr_620).mono rfl), ⟨_, hf_613, ln6_621.1, (by omega), (by rw [fe_622]; exact .inl nb_607)⟩, (by rw [fe_623, fe_624, mz_43, mz_44]; exact .inl nb_607), (by simp only [fe_625, mz_45, true_and, and_true, or_true, true_or, false_or, or_false, false_and, and_false, not_true_eq_false, not_false_eq_true] <;> first | omega | (simp only [Int32.lt_iff_toInt_lt, Int32.le_iff_toInt_le, Int32.reduceToInt, ← Int32.toInt_inj, true_and, and_true, or_true, true_or, false_or, or_false, false_and, and_false, not_true_eq_false, not_false_eq_true] <;> omega))⟩
              · simp only [Int32.lt_iff_toInt_lt, Int32.le_iff_toInt_le, Int32.reduceToInt, ← Int32.toInt_inj] at h_456
                have g0_458 := gd_t x_452 h_456
                clear x_452
                have gz_459 := x_96.symm.trans g0_458
                refine v_aload_n hC dX12_readLoss_131 rfl ?_
                refine v_vv hC (rest := []) m_1 e_104 rfl mi_X12_advance ms_X12_advance (p_X12_advance hW_97 k_0) mx_X12_advance ml_X12_156 (by decide) rfl (cells1 := 0) (slots1 := 0) (by decide) (by decide) (Nat.le_of_ble_eq_true rfl) (Nat.le_of_ble_eq_true rfl) rfl (Nat.le_of_ble_eq_true rfl) dX12_readLoss_132 (fun L_627 f_628 h_629 => ?_)
                obtain ⟨rfl, hW_633, hF_634, x_630, x_631, x_632, -⟩ := h_629
                have fe_635 : fld (f_92 a_0) 8 = (v_110 : Int32).toInt := by rw [e_104]; rfl
                have fe_636 : fld (f_92 a_0) 12 = (v_117 : Int32).toInt := by rw [e_104]; rfl
                have hf_637 := hF_634.at hf_103 rfl
                obtain ⟨v_639, v_640, v_642, v_644, v_646, v_648, v_650, v_651, v_652, v_653, v_655, e_638, b_641, b_643, b_645, b_647, b_649, b_654, b_656⟩ := hW_633.at m_1 t_2
                have fe_657 : fld (f_628 a_0) 8 = (v_644 : Int32).toInt := by rw [e_638]; rfl
                have fe_658 : fld (f_628 a_0) 9 = (v_646 : Int32).toInt := by rw [e_638]; rfl
                have fe_659 : fld (f_628 a_0) 10 = (v_648 : Int32).toInt := by rw [e_638]; rfl
                have fe_660 : fld (f_628 a_0) 12 = (v_651 : Int32).toInt := by rw [e_638]; rfl
                rw [fe_635, fe_658, fe_657] at x_630
                rw [fe_659, fe_658, fe_657] at x_631
                rw [fe_660, fe_636] at x_632
                clear fe_635 fe_636 fe_657 fe_658 fe_659 fe_660
                refine v_aload_n hC dX12_readLoss_135 rfl ?_
                refine v_get hC fl_X12_34 m_1 e_638 rfl dX12_readLoss_136 ?_
                refine v_iload_n hC dX12_readLoss_139 rfl ?_
                refine v_iload_n hC dX12_readLoss_140 rfl ?_
                refine v_if_eq_f hC dX12_readLoss_141 (tgt := 148) (by decide) (by first | omega | (simp only [Int32.lt_iff_toInt_lt, Int32.le_iff_toInt_le, Int32.reduceToInt, ← Int32.toInt_inj, true_and, and_true, or_true, true_or, false_or, or_false, false_and, and_false, not_true_eq_false, not_false_eq_true] <;> omega)) ?_
                refine v_iconst hC dX12_readLoss_144 (v := 1) (by decide) ?_
                refine v_goto hC dX12_readLoss_145 (tgt := 149) (by decide) ?_
                refine v_iast hC m_22 hf_637 (vp_in_iff.mpr (by first | omega | (simp only [Int32.lt_iff_toInt_lt, Int32.le_iff_toInt_le, Int32.reduceToInt, ← Int32.toInt_inj, true_and, and_true, or_true, true_or, false_or, or_false, false_and, and_false, not_true_eq_false, not_false_eq_true] <;> omega))) dX12_readLoss_149 (fun f_661 hf_662 hk_663 => ?_)
                have hW_665 := hW_633.up hf_662 hk_663 t_23 ⟨_, rfl, (o_f.up (by first | omega | (simp only [Int32.lt_iff_toInt_lt, Int32.le_iff_toInt_le, Int32.reduceToInt, ← Int32.toInt_inj, true_and, and_true, or_true, true_or, false_or, or_false, false_and, and_false, not_true_eq_false, not_false_eq_true] <;> omega)) (fun q1 q2 => (by first | omega | (simp only [Int32.lt_iff_toInt_lt, Int32.le_iff_toInt_le, Int32.reduceToInt, ← Int32.toInt_inj] at *; omega))) (fun k9 q1 q2 q3 => (by first | omega | (simp only [Int32.lt_iff_toInt_lt, Int32.le_iff_toInt_le, Int32.reduceToInt, ← Int32.toInt_inj] at *; omega))))⟩
                obtain ⟨g_664, hf_662, ok_666, eg_667⟩ : ∃ g9, f_661 (q 14) = aI E 2076 g9 ∧ FOK g9 ∧ g9 = upd g_f (v_49 : Int32).toNatClampNeg 1 := ⟨_, hf_662, (o_f.up (by first | omega | (simp only [Int32.lt_iff_toInt_lt, Int32.le_iff_toInt_le, Int32.reduceToInt, ← Int32.toInt_inj, true_and, and_true, or_true, true_or, false_or, or_false, false_and, and_false, not_true_eq_false, not_false_eq_true] <;> omega)) (fun q1 q2 => (by first | omega | (simp only [Int32.lt_iff_toInt_lt, Int32.le_iff_toInt_le, Int32.reduceToInt, ← Int32.toInt_inj] at *; omega))) (fun k9 q1 q2 q3 => (by first | omega | (simp only [Int32.lt_iff_toInt_lt, Int32.le_iff_toInt_le, Int32.reduceToInt, ← Int32.toInt_inj] at *; omega)))), rfl⟩
                have hf_668 := (hk_663 a_0 (ne_kd e_638 hf_637 rfl)).trans e_638
                have fr_669 := FR.w hk_663 hf_637 (k := 2176) rfl
                have lk_670 := lk_at (g0 := g_f) eg_667 (by omega) (by omega)
                have ag_671 := (AG.rf o_f).st eg_667 (by omega) (by omega)
                try simp only [Int32.reduceToInt] at lk_670
                refine v_aload_n hC dX12_readLoss_150 rfl ?_
                refine v_get hC fl_X12_34 m_1 hf_668 rfl dX12_readLoss_151 ?_
                refine v_iload_n hC dX12_readLoss_154 rfl ?_
                refine v_iconst hC dX12_readLoss_155 (v := 1) (by decide) ?_
                obtain ⟨v_672, h_673⟩ : ∃ v9 : Int32, v_49 + 1 = v9 := ⟨_, rfl⟩
                refine v_iadd hC dX12_readLoss_156 h_673 ?_
                have h_674 := add_v h_673 (by first | omega | (simp only [Int32.lt_iff_toInt_lt, Int32.le_iff_toInt_le, Int32.reduceToInt, ← Int32.toInt_inj, true_and, and_true, or_true, true_or, false_or, or_false, false_and, and_false, not_true_eq_false, not_false_eq_true] <;> omega)) (by first | omega | (simp only [Int32.lt_iff_toInt_lt, Int32.le_iff_toInt_le, Int32.reduceToInt, ← Int32.toInt_inj, true_and, and_true, or_true, true_or, false_or, or_false, false_and, and_false, not_true_eq_false, not_false_eq_true] <;> omega))
                try simp only [Int32.reduceToInt] at h_674
                refine v_aload_n hC dX12_readLoss_157 rfl ?_
                refine v_iconst hC dX12_readLoss_158 (v := 0) (by decide) ?_
                refine v_bipush hC dX12_readLoss_159 (v := 15) (by decide) ?_
                refine v_vi hC (rest := [.int v_672, .ref (q 14)]) m_1 hf_668 rfl mi_X12_number ms_X12_number (p_X12_number hW_665 k_0) mx_X12_number ml_X12_170 (by decide) rfl (cells1 := 0) (slots1 := 0) (by decide) (by decide) (Nat.le_of_ble_eq_true rfl) (Nat.le_of_ble_eq_true rfl) rfl (Nat.le_of_ble_eq_true rfl) dX12_readLoss_161 (fun r_675 L_676 f_677 h_678 => ?_)
                obtain ⟨rfl, hW_680, hF_681, -, -, -, -, -, x_679⟩ := h_678
                have fe_682 : fld (f_661 a_0) 8 = (v_644 : Int32).toInt := by rw [hf_668]; rfl
                have fe_683 : fld (f_661 a_0) 10 = (v_648 : Int32).toInt := by rw [hf_668]; rfl
                have fe_684 : fld (f_661 a_0) 12 = (v_651 : Int32).toInt := by rw [hf_668]; rfl
                have hf_685 := hF_681.at hf_662 rfl
                obtain ⟨v_687, v_688, v_690, v_692, v_694, v_696, v_698, v_699, v_700, v_701, v_703, e_686, b_689, b_691, b_693, b_695, b_697, b_702, b_704⟩ := hW_680.at m_1 t_2
                have fe_705 : fld (f_677 a_0) 8 = (v_692 : Int32).toInt := by rw [e_686]; rfl
                have fe_706 : fld (f_677 a_0) 9 = (v_694 : Int32).toInt := by rw [e_686]; rfl
                have fe_707 : fld (f_677 a_0) 10 = (v_696 : Int32).toInt := by rw [e_686]; rfl
                have fe_708 : fld (f_677 a_0) 12 = (v_699 : Int32).toInt := by rw [e_686]; rfl
                rw [fe_708, fe_684, fe_683, fe_682, fe_706, fe_705, fe_707] at x_679
                clear fe_682 fe_683 fe_684 fe_705 fe_706 fe_707 fe_708
                try simp only [Int32.reduceToInt, Int64.reduceToInt] at x_679
                refine v_iast hC m_22 hf_685 (vp_in_iff.mpr (by first | omega | (simp only [Int32.lt_iff_toInt_lt, Int32.le_iff_toInt_le, Int32.reduceToInt, ← Int32.toInt_inj, true_and, and_true, or_true, true_or, false_or, or_false, false_and, and_false, not_true_eq_false, not_false_eq_true] <;> omega))) dX12_readLoss_164 (fun f_709 hf_710 hk_711 => ?_)
                have hW_713 := hW_680.up hf_710 hk_711 t_23 ⟨_, rfl, (ok_666.up (by first | omega | (simp only [Int32.lt_iff_toInt_lt, Int32.le_iff_toInt_le, Int32.reduceToInt, ← Int32.toInt_inj, true_and, and_true, or_true, true_or, false_or, or_false, false_and, and_false, not_true_eq_false, not_false_eq_true] <;> omega)) (fun q1 q2 => (by first | omega | (simp only [Int32.lt_iff_toInt_lt, Int32.le_iff_toInt_le, Int32.reduceToInt, ← Int32.toInt_inj] at *; omega))) (fun k9 q1 q2 q3 => (by first | omega | (simp only [Int32.lt_iff_toInt_lt, Int32.le_iff_toInt_le, Int32.reduceToInt, ← Int32.toInt_inj] at *; omega))))⟩
                obtain ⟨g_712, hf_710, ok_714, eg_715⟩ : ∃ g9, f_709 (q 14) = aI E 2076 g9 ∧ FOK g9 ∧ g9 = upd g_664 (v_672 : Int32).toNatClampNeg r_675 := ⟨_, hf_710, (ok_666.up (by first | omega | (simp only [Int32.lt_iff_toInt_lt, Int32.le_iff_toInt_le, Int32.reduceToInt, ← Int32.toInt_inj, true_and, and_true, or_true, true_or, false_or, or_false, false_and, and_false, not_true_eq_false, not_false_eq_true] <;> omega)) (fun q1 q2 => (by first | omega | (simp only [Int32.lt_iff_toInt_lt, Int32.le_iff_toInt_le, Int32.reduceToInt, ← Int32.toInt_inj] at *; omega))) (fun k9 q1 q2 q3 => (by first | omega | (simp only [Int32.lt_iff_toInt_lt, Int32.le_iff_toInt_le, Int32.reduceToInt, ← Int32.toInt_inj] at *; omega)))), rfl⟩
                have hf_716 := (hk_711 a_0 (ne_kd e_686 hf_685 rfl)).trans e_686
                have fr_717 := FR.w hk_711 hf_685 (k := 2176) rfl
                have lk_718 := lf_at (g0 := g_f) eg_715 (by omega) (by omega)
                have ag_719 := ag_671.st eg_715 (by omega) (by omega)
                try simp only [Int32.reduceToInt] at lk_718
                refine v_aload_n hC dX12_readLoss_165 rfl ?_
                refine v_get hC fl_X12_34 m_1 hf_716 rfl dX12_readLoss_166 ?_
                refine v_iload_n hC dX12_readLoss_169 rfl ?_
                refine v_iconst hC dX12_readLoss_170 (v := 2) (by decide) ?_
                obtain ⟨v_720, h_721⟩ : ∃ v9 : Int32, v_49 + 2 = v9 := ⟨_, rfl⟩
                refine v_iadd hC dX12_readLoss_171 h_721 ?_
                have h_722 := add_v h_721 (by first | omega | (simp only [Int32.lt_iff_toInt_lt, Int32.le_iff_toInt_le, Int32.reduceToInt, ← Int32.toInt_inj, true_and, and_true, or_true, true_or, false_or, or_false, false_and, and_false, not_true_eq_false, not_false_eq_true] <;> omega)) (by first | omega | (simp only [Int32.lt_iff_toInt_lt, Int32.le_iff_toInt_le, Int32.reduceToInt, ← Int32.toInt_inj, true_and, and_true, or_true, true_or, false_or, or_false, false_and, and_false, not_true_eq_false, not_false_eq_true] <;> omega))
                try simp only [Int32.reduceToInt] at h_722
                refine v_aload_n hC dX12_readLoss_172 rfl ?_
                refine v_ldcwS hC sr_X12_295 dX12_readLoss_173 ?_
                refine v_aload_n hC dX12_readLoss_176 rfl ?_
                refine v_get hC fl_X12_34 m_1 hf_716 rfl dX12_readLoss_177 ?_
                refine v_iload_n hC dX12_readLoss_180 rfl ?_
                refine v_iconst hC dX12_readLoss_181 (v := 1) (by decide) ?_
                obtain ⟨v_723, h_724⟩ : ∃ v9 : Int32, v_49 + 1 = v9 := ⟨_, rfl⟩
                refine v_iadd hC dX12_readLoss_182 h_724 ?_
                have h_725 := add_v h_724 (by first | omega | (simp only [Int32.lt_iff_toInt_lt, Int32.le_iff_toInt_le, Int32.reduceToInt, ← Int32.toInt_inj, true_and, and_true, or_true, true_or, false_or, or_false, false_and, and_false, not_true_eq_false, not_false_eq_true] <;> omega)) (by first | omega | (simp only [Int32.lt_iff_toInt_lt, Int32.le_iff_toInt_le, Int32.reduceToInt, ← Int32.toInt_inj, true_and, and_true, or_true, true_or, false_or, or_false, false_and, and_false, not_true_eq_false, not_false_eq_true] <;> omega))
                try simp only [Int32.reduceToInt] at h_725
                obtain ⟨v_726, h_727⟩ : ∃ v9 : Int32, g_712 (v_723 : Int32).toNatClampNeg = v9 := ⟨_, rfl⟩
                refine v_iald hC m_22 hf_710 (vp_in_iff.mpr (by first | omega | (simp only [Int32.lt_iff_toInt_lt, Int32.le_iff_toInt_le, Int32.reduceToInt, ← Int32.toInt_inj, true_and, and_true, or_true, true_or, false_or, or_false, false_and, and_false, not_true_eq_false, not_false_eq_true] <;> omega))) h_727 dX12_readLoss_183 ?_
                refine v_bipush hC dX12_readLoss_184 (v := 15) (by decide) ?_
                refine v_vi hC (rest := [.int v_720, .ref (q 14)]) m_1 hf_716 rfl mi_X12_told ms_X12_told (p_X12_told hW_713 k_0 (by decide)) mx_X12_told ml_X12_189 (by decide) rfl (cells1 := 0) (slots1 := 0) (by decide) (by decide) (Nat.le_of_ble_eq_true rfl) (Nat.le_of_ble_eq_true rfl) rfl (Nat.le_of_ble_eq_true rfl) dX12_readLoss_186 (fun r_728 L_729 f_730 h_731 => ?_)
                obtain ⟨rfl, hW_733, hF_734, -, -, -, -, -, x_732⟩ := h_731
                have fe_735 : fld (f_709 a_0) 8 = (v_692 : Int32).toInt := by rw [hf_716]; rfl
                have fe_736 : fld (f_709 a_0) 12 = (v_699 : Int32).toInt := by rw [hf_716]; rfl
                have hf_737 := hF_734.at hf_710 rfl
                obtain ⟨v_739, v_740, v_742, v_744, v_746, v_748, v_750, v_751, v_752, v_753, v_755, e_738, b_741, b_743, b_745, b_747, b_749, b_754, b_756⟩ := hW_733.at m_1 t_2
                have fe_757 : fld (f_730 a_0) 8 = (v_744 : Int32).toInt := by rw [e_738]; rfl
                have fe_758 : fld (f_730 a_0) 9 = (v_746 : Int32).toInt := by rw [e_738]; rfl
                have fe_759 : fld (f_730 a_0) 10 = (v_748 : Int32).toInt := by rw [e_738]; rfl
                have fe_760 : fld (f_730 a_0) 12 = (v_751 : Int32).toInt := by rw [e_738]; rfl
                rw [fe_760, fe_736, fe_735, fe_758, fe_757, fe_759] at x_732
                clear fe_735 fe_736 fe_757 fe_758 fe_759 fe_760
                try simp only [Int32.reduceToInt, Int64.reduceToInt] at x_732
                refine v_iast hC m_22 hf_737 (vp_in_iff.mpr (by first | omega | (simp only [Int32.lt_iff_toInt_lt, Int32.le_iff_toInt_le, Int32.reduceToInt, ← Int32.toInt_inj, true_and, and_true, or_true, true_or, false_or, or_false, false_and, and_false, not_true_eq_false, not_false_eq_true] <;> omega))) dX12_readLoss_189 (fun f_761 hf_762 hk_763 => ?_)
                have hW_765 := hW_733.up hf_762 hk_763 t_23 ⟨_, rfl, (ok_714.up (by first | omega | (simp only [Int32.lt_iff_toInt_lt, Int32.le_iff_toInt_le, Int32.reduceToInt, ← Int32.toInt_inj, true_and, and_true, or_true, true_or, false_or, or_false, false_and, and_false, not_true_eq_false, not_false_eq_true] <;> omega)) (fun q1 q2 => (by first | omega | (simp only [Int32.lt_iff_toInt_lt, Int32.le_iff_toInt_le, Int32.reduceToInt, ← Int32.toInt_inj] at *; omega))) (fun k9 q1 q2 q3 => (by first | omega | (simp only [Int32.lt_iff_toInt_lt, Int32.le_iff_toInt_le, Int32.reduceToInt, ← Int32.toInt_inj] at *; omega))))⟩
                obtain ⟨g_764, hf_762, ok_766, eg_767⟩ : ∃ g9, f_761 (q 14) = aI E 2076 g9 ∧ FOK g9 ∧ g9 = upd g_712 (v_720 : Int32).toNatClampNeg r_728 := ⟨_, hf_762, (ok_714.up (by first | omega | (simp only [Int32.lt_iff_toInt_lt, Int32.le_iff_toInt_le, Int32.reduceToInt, ← Int32.toInt_inj, true_and, and_true, or_true, true_or, false_or, or_false, false_and, and_false, not_true_eq_false, not_false_eq_true] <;> omega)) (fun q1 q2 => (by first | omega | (simp only [Int32.lt_iff_toInt_lt, Int32.le_iff_toInt_le, Int32.reduceToInt, ← Int32.toInt_inj] at *; omega))) (fun k9 q1 q2 q3 => (by first | omega | (simp only [Int32.lt_iff_toInt_lt, Int32.le_iff_toInt_le, Int32.reduceToInt, ← Int32.toInt_inj] at *; omega)))), rfl⟩
                have hf_768 := (hk_763 a_0 (ne_kd e_738 hf_737 rfl)).trans e_738
                have fr_769 := FR.w hk_763 hf_737 (k := 2176) rfl
                have lk_770 := l2_at (g0 := g_f) eg_767 (by omega) (by omega)
                have ag_771 := ag_719.st eg_767 (by omega) (by omega)
                try simp only [Int32.reduceToInt] at lk_770
                refine v_goto hC dX12_readLoss_190 (tgt := 258) (by decide) ?_
                refine v_aload_n hC dX12_readLoss_258 rfl ?_
                refine v_vv hC (rest := []) m_1 hf_768 rfl mi_X12_ends ms_X12_ends (p_X12_ends hW_765 k_0) mx_X12_ends ml_X12_178 (by decide) rfl (cells1 := 0) (slots1 := 0) (by decide) (by decide) (Nat.le_of_ble_eq_true rfl) (Nat.le_of_ble_eq_true rfl) rfl (Nat.le_of_ble_eq_true rfl) dX12_readLoss_259 (fun L_773 f_774 h_775 => ?_)
                obtain ⟨rfl, hW_777, hF_778, -, -, -, -, x_776⟩ := h_775
                have fe_779 : fld (f_761 a_0) 8 = (v_744 : Int32).toInt := by rw [hf_768]; rfl
                have fe_780 : fld (f_761 a_0) 10 = (v_748 : Int32).toInt := by rw [hf_768]; rfl
                have fe_781 : fld (f_761 a_0) 12 = (v_751 : Int32).toInt := by rw [hf_768]; rfl
                have hf_782 := hF_778.at hf_762 rfl
                obtain ⟨v_784, v_785, v_787, v_789, v_791, v_793, v_795, v_796, v_797, v_798, v_800, e_783, b_786, b_788, b_790, b_792, b_794, b_799, b_801⟩ := hW_777.at m_1 t_2
                have fe_802 : fld (f_774 a_0) 8 = (v_789 : Int32).toInt := by rw [e_783]; rfl
                have fe_803 : fld (f_774 a_0) 9 = (v_791 : Int32).toInt := by rw [e_783]; rfl
                have fe_804 : fld (f_774 a_0) 10 = (v_793 : Int32).toInt := by rw [e_783]; rfl
                have fe_805 : fld (f_774 a_0) 12 = (v_796 : Int32).toInt := by rw [e_783]; rfl
                rw [fe_805, fe_781, fe_780, fe_779, fe_803, fe_802, fe_804] at x_776
                clear fe_779 fe_780 fe_781 fe_802 fe_803 fe_804 fe_805
                refine v_aload_n hC dX12_readLoss_262 rfl ?_
                refine v_get hC fl_X12_34 m_1 e_783 rfl dX12_readLoss_263 ?_
                refine v_bipush hC dX12_readLoss_266 (v := 6) (by decide) ?_
                refine v_dup2 hC dX12_readLoss_268 rfl rfl ?_
                have l6_806 : (g_764 6).toInt = (g_f 6).toInt := congrArg Int32.toInt ag_771.2.1
                refine v_iald hC m_22 hf_782 (vp_in_iff.mpr (by decide)) (v := g_764 6) rfl dX12_readLoss_269 ?_
                refine v_iconst hC dX12_readLoss_270 (v := 1) (by decide) ?_
                obtain ⟨v_807, h_808⟩ : ∃ v9 : Int32, (g_764 6) + 1 = v9 := ⟨_, rfl⟩
                refine v_iadd hC dX12_readLoss_271 h_808 ?_
                have h_809 := add_v h_808 (by first | omega | (simp only [Int32.lt_iff_toInt_lt, Int32.le_iff_toInt_le, Int32.reduceToInt, ← Int32.toInt_inj, true_and, and_true, or_true, true_or, false_or, or_false, false_and, and_false, not_true_eq_false, not_false_eq_true] <;> omega)) (by first | omega | (simp only [Int32.lt_iff_toInt_lt, Int32.le_iff_toInt_le, Int32.reduceToInt, ← Int32.toInt_inj, true_and, and_true, or_true, true_or, false_or, or_false, false_and, and_false, not_true_eq_false, not_false_eq_true] <;> omega))
                try simp only [Int32.reduceToInt] at h_809
                refine v_iast hC m_22 hf_782 (vp_in_iff.mpr (by decide)) dX12_readLoss_272 (fun f_810 hf_811 hk_812 => ?_)
                have hW_814 := hW_777.up hf_811 hk_812 t_23 ⟨_, rfl, (ok_766.up (i := 6) (by decide) (fun q1 q2 => absurd (And.intro q1 q2) (by decide)) (fun k9 q1 q2 q3 => by simp only [Int32.reduceToInt] at q3; omega))⟩
                obtain ⟨g_813, hf_811, ok_815, eg_816⟩ : ∃ g9, f_810 (q 14) = aI E 2076 g9 ∧ FOK g9 ∧ g9 = upd g_764 (6 : Int32).toNatClampNeg v_807 := ⟨_, hf_811, (ok_766.up (i := 6) (by decide) (fun q1 q2 => absurd (And.intro q1 q2) (by decide)) (fun k9 q1 q2 q3 => by simp only [Int32.reduceToInt] at q3; omega)), rfl⟩
                have hf_817 := (hk_812 a_0 (ne_kd e_783 hf_782 rfl)).trans e_783
                have fr_818 := FR.w hk_812 hf_782 (k := 2176) rfl
                have ln6_819 := FOK.n6 ag_771.1 eg_816
                have ln6_819_t : (g_813 6).toInt = v_807.toInt := congrArg Int32.toInt ln6_819.2
                have fe_820 : fld (f_810 a_0) 12 = (v_796 : Int32).toInt := by rw [hf_817]; rfl
                have fe_825 : fld (f_810 a_0) 8 = (v_789 : Int32).toInt := by rw [hf_817]; rfl
                have fe_826 : fld (f_810 a_0) 12 = (v_796 : Int32).toInt := by rw [hf_817]; rfl
                have fe_831 : fld (f_810 a_0) 20 = (v_800 : Int32).toInt := by rw [hf_817]; rfl
                exact hR _ _ _ _ _ _ dX12_readLoss_273 (Nat.le_of_ble_eq_true rfl) (Nat.le_of_ble_eq_true rfl) ⟨rfl, hW_814, (((((((((hF_98.tr hF_634).tr fr_669).tr hF_681).tr fr_717).tr hF_734).tr fr_769).tr hF_778).tr fr_818).mono rfl), ⟨_, hf_811, ln6_819.1, (by omega), (by rw [fe_820]; by_cases q9 : v_796.toInt = 0; have gp_821 := x_776.resolve_left (fun h9 => h9 q9); clear x_776; have gp_822 := x_732.resolve_left (fun h9 => h9 gp_821.1); clear x_732; have gp_823 := x_679.resolve_left (fun h9 => h9 gp_822.1); clear x_679; have gz_824 := x_632.symm.trans gp_823.1; exact .inr (LO.fin hLO ag_771 eg_816 (by omega) (by omega) (fun q8 => by omega)); exact .inl q9)⟩, (by rw [fe_825, fe_826, mz_43, mz_44]; by_cases q9 : (v_796 : Int32).toInt = 0; have gp_827 := x_776.resolve_left (fun h9 => h9 q9); clear x_776; have gp_828 := x_732.resolve_left (fun h9 => h9 gp_827.1); clear x_732; have gp_829 := x_679.resolve_left (fun h9 => h9 gp_828.1); clear x_679; have gz_830 := x_632.symm.trans gp_829.1; (right; omega); exact .inl q9), (by simp only [fe_831, mz_45, true_and, and_true, or_true, true_or, false_or, or_false, false_and, and_false, not_true_eq_false, not_false_eq_true] <;> first | omega | (simp only [Int32.lt_iff_toInt_lt, Int32.le_iff_toInt_le, Int32.reduceToInt, ← Int32.toInt_inj, true_and, and_true, or_true, true_or, false_or, or_false, false_and, and_false, not_true_eq_false, not_false_eq_true] <;> omega))⟩
            · simp only [Int32.lt_iff_toInt_lt, Int32.le_iff_toInt_le, Int32.reduceToInt, ← Int32.toInt_inj] at h_446
              refine v_aload_n hC dX12_readLoss_110 rfl ?_
              refine v_ldcS hC sr_X12_193 dX12_readLoss_111 ?_
              refine v_vi hC (rest := []) m_1 e_104 rfl mi_X12_is ms_X12_is (p_X12_is hW_97 k_0 (by decide)) mx_X12_is ml_X12_152 (by decide) rfl (cells1 := 0) (slots1 := 0) (by decide) (by decide) (Nat.le_of_ble_eq_true rfl) (Nat.le_of_ble_eq_true rfl) rfl (Nat.le_of_ble_eq_true rfl) dX12_readLoss_113 (fun r_832 L_833 f_834 h_835 => ?_)
              obtain ⟨rfl, rfl, rfl⟩ := h_835
              refine v_if_ne hC dX12_readLoss_116 (tgt := 124) (by decide) (fun h_838 => ?_) (fun h_838 => ?_)
              · simp only [Int32.lt_iff_toInt_lt, Int32.le_iff_toInt_le, Int32.reduceToInt, ← Int32.toInt_inj] at h_838
                refine v_aload_n hC dX12_readLoss_124 rfl ?_
                refine v_vi hC (rest := []) m_1 e_104 rfl mi_X12_good ms_X12_good (p_X12_good hW_97 k_0) mx_X12_good ml_X12_139 (by decide) rfl (cells1 := 0) (slots1 := 0) (by decide) (by decide) (Nat.le_of_ble_eq_true rfl) (Nat.le_of_ble_eq_true rfl) rfl (Nat.le_of_ble_eq_true rfl) dX12_readLoss_125 (fun r_839 L_840 f_841 h_842 => ?_)
                obtain ⟨rfl, rfl, b_843, x_844⟩ := h_842
                have fe_847 : fld (f_92 a_0) 12 = (v_117 : Int32).toInt := by rw [e_104]; rfl
                rw [fe_847] at x_844
                clear fe_847
                try simp only [Int32.reduceToInt, Int64.reduceToInt] at x_844
                refine v_if_eq hC dX12_readLoss_128 (tgt := 135) (by decide) (fun h_848 => ?_) (fun h_848 => ?_)
                · simp only [Int32.lt_iff_toInt_lt, Int32.le_iff_toInt_le, Int32.reduceToInt, ← Int32.toInt_inj] at h_848
                  have g0_849 := gd_f x_844 h_848
                  clear x_844
                  clear x_96
                  refine v_aload_n hC dX12_readLoss_135 rfl ?_
                  refine v_get hC fl_X12_34 m_1 e_104 rfl dX12_readLoss_136 ?_
                  refine v_iload_n hC dX12_readLoss_139 rfl ?_
                  refine v_iload_n hC dX12_readLoss_140 rfl ?_
                  refine v_if_eq_t hC dX12_readLoss_141 (tgt := 148) (by decide) (by first | omega | (simp only [Int32.lt_iff_toInt_lt, Int32.le_iff_toInt_le, Int32.reduceToInt, ← Int32.toInt_inj, true_and, and_true, or_true, true_or, false_or, or_false, false_and, and_false, not_true_eq_false, not_false_eq_true] <;> omega)) ?_
                  refine v_iconst hC dX12_readLoss_148 (v := 0) (by decide) ?_
                  refine v_iast hC m_22 hf_103 (vp_in_iff.mpr (by first | omega | (simp only [Int32.lt_iff_toInt_lt, Int32.le_iff_toInt_le, Int32.reduceToInt, ← Int32.toInt_inj, true_and, and_true, or_true, true_or, false_or, or_false, false_and, and_false, not_true_eq_false, not_false_eq_true] <;> omega))) dX12_readLoss_149 (fun f_852 hf_853 hk_854 => ?_)
                  have hW_856 := hW_97.up hf_853 hk_854 t_23 ⟨_, rfl, (o_f.up (by first | omega | (simp only [Int32.lt_iff_toInt_lt, Int32.le_iff_toInt_le, Int32.reduceToInt, ← Int32.toInt_inj, true_and, and_true, or_true, true_or, false_or, or_false, false_and, and_false, not_true_eq_false, not_false_eq_true] <;> omega)) (fun q1 q2 => (by first | omega | (simp only [Int32.lt_iff_toInt_lt, Int32.le_iff_toInt_le, Int32.reduceToInt, ← Int32.toInt_inj] at *; omega))) (fun k9 q1 q2 q3 => (by first | omega | (simp only [Int32.lt_iff_toInt_lt, Int32.le_iff_toInt_le, Int32.reduceToInt, ← Int32.toInt_inj] at *; omega))))⟩
                  obtain ⟨g_855, hf_853, ok_857, eg_858⟩ : ∃ g9, f_852 (q 14) = aI E 2076 g9 ∧ FOK g9 ∧ g9 = upd g_f (v_49 : Int32).toNatClampNeg 0 := ⟨_, hf_853, (o_f.up (by first | omega | (simp only [Int32.lt_iff_toInt_lt, Int32.le_iff_toInt_le, Int32.reduceToInt, ← Int32.toInt_inj, true_and, and_true, or_true, true_or, false_or, or_false, false_and, and_false, not_true_eq_false, not_false_eq_true] <;> omega)) (fun q1 q2 => (by first | omega | (simp only [Int32.lt_iff_toInt_lt, Int32.le_iff_toInt_le, Int32.reduceToInt, ← Int32.toInt_inj] at *; omega))) (fun k9 q1 q2 q3 => (by first | omega | (simp only [Int32.lt_iff_toInt_lt, Int32.le_iff_toInt_le, Int32.reduceToInt, ← Int32.toInt_inj] at *; omega)))), rfl⟩
                  have hf_859 := (hk_854 a_0 (ne_kd e_104 hf_103 rfl)).trans e_104
                  have fr_860 := FR.w hk_854 hf_103 (k := 2176) rfl
                  have lk_861 := lk_at (g0 := g_f) eg_858 (by omega) (by omega)
                  have ag_862 := (AG.rf o_f).st eg_858 (by omega) (by omega)
                  try simp only [Int32.reduceToInt] at lk_861
                  refine v_aload_n hC dX12_readLoss_150 rfl ?_
                  refine v_get hC fl_X12_34 m_1 hf_859 rfl dX12_readLoss_151 ?_
                  refine v_iload_n hC dX12_readLoss_154 rfl ?_
                  refine v_iconst hC dX12_readLoss_155 (v := 1) (by decide) ?_
                  obtain ⟨v_863, h_864⟩ : ∃ v9 : Int32, v_49 + 1 = v9 := ⟨_, rfl⟩
                  refine v_iadd hC dX12_readLoss_156 h_864 ?_
                  have h_865 := add_v h_864 (by first | omega | (simp only [Int32.lt_iff_toInt_lt, Int32.le_iff_toInt_le, Int32.reduceToInt, ← Int32.toInt_inj, true_and, and_true, or_true, true_or, false_or, or_false, false_and, and_false, not_true_eq_false, not_false_eq_true] <;> omega)) (by first | omega | (simp only [Int32.lt_iff_toInt_lt, Int32.le_iff_toInt_le, Int32.reduceToInt, ← Int32.toInt_inj, true_and, and_true, or_true, true_or, false_or, or_false, false_and, and_false, not_true_eq_false, not_false_eq_true] <;> omega))
                  try simp only [Int32.reduceToInt] at h_865
                  refine v_aload_n hC dX12_readLoss_157 rfl ?_
                  refine v_iconst hC dX12_readLoss_158 (v := 0) (by decide) ?_
                  refine v_bipush hC dX12_readLoss_159 (v := 15) (by decide) ?_
                  refine v_vi hC (rest := [.int v_863, .ref (q 14)]) m_1 hf_859 rfl mi_X12_number ms_X12_number (p_X12_number hW_856 k_0) mx_X12_number ml_X12_170 (by decide) rfl (cells1 := 0) (slots1 := 0) (by decide) (by decide) (Nat.le_of_ble_eq_true rfl) (Nat.le_of_ble_eq_true rfl) rfl (Nat.le_of_ble_eq_true rfl) dX12_readLoss_161 (fun r_866 L_867 f_868 h_869 => ?_)
                  obtain ⟨rfl, hW_871, hF_872, -, -, -, -, -, x_870⟩ := h_869
                  have fe_873 : fld (f_852 a_0) 8 = (v_110 : Int32).toInt := by rw [hf_859]; rfl
                  have fe_874 : fld (f_852 a_0) 10 = (v_114 : Int32).toInt := by rw [hf_859]; rfl
                  have fe_875 : fld (f_852 a_0) 12 = (v_117 : Int32).toInt := by rw [hf_859]; rfl
                  have hf_876 := hF_872.at hf_853 rfl
                  obtain ⟨v_878, v_879, v_881, v_883, v_885, v_887, v_889, v_890, v_891, v_892, v_894, e_877, b_880, b_882, b_884, b_886, b_888, b_893, b_895⟩ := hW_871.at m_1 t_2
                  have fe_896 : fld (f_868 a_0) 8 = (v_883 : Int32).toInt := by rw [e_877]; rfl
                  have fe_897 : fld (f_868 a_0) 9 = (v_885 : Int32).toInt := by rw [e_877]; rfl
                  have fe_898 : fld (f_868 a_0) 10 = (v_887 : Int32).toInt := by rw [e_877]; rfl
                  have fe_899 : fld (f_868 a_0) 12 = (v_890 : Int32).toInt := by rw [e_877]; rfl
                  rw [fe_899, fe_875, fe_874, fe_873, fe_897, fe_896, fe_898] at x_870
                  have nb_900 : ¬ (v_890 : Int32).toInt = 0 := x_870.elim id (fun h9 => absurd h9.1 g0_849)
                  clear x_870
                  clear fe_873 fe_874 fe_875 fe_896 fe_897 fe_898 fe_899
                  try simp only [Int32.reduceToInt, Int64.reduceToInt] at x_870
                  refine v_iast hC m_22 hf_876 (vp_in_iff.mpr (by first | omega | (simp only [Int32.lt_iff_toInt_lt, Int32.le_iff_toInt_le, Int32.reduceToInt, ← Int32.toInt_inj, true_and, and_true, or_true, true_or, false_or, or_false, false_and, and_false, not_true_eq_false, not_false_eq_true] <;> omega))) dX12_readLoss_164 (fun f_901 hf_902 hk_903 => ?_)
                  have hW_905 := hW_871.up hf_902 hk_903 t_23 ⟨_, rfl, (ok_857.up (by first | omega | (simp only [Int32.lt_iff_toInt_lt, Int32.le_iff_toInt_le, Int32.reduceToInt, ← Int32.toInt_inj, true_and, and_true, or_true, true_or, false_or, or_false, false_and, and_false, not_true_eq_false, not_false_eq_true] <;> omega)) (fun q1 q2 => (by first | omega | (simp only [Int32.lt_iff_toInt_lt, Int32.le_iff_toInt_le, Int32.reduceToInt, ← Int32.toInt_inj] at *; omega))) (fun k9 q1 q2 q3 => (by first | omega | (simp only [Int32.lt_iff_toInt_lt, Int32.le_iff_toInt_le, Int32.reduceToInt, ← Int32.toInt_inj] at *; omega))))⟩
                  obtain ⟨g_904, hf_902, ok_906, eg_907⟩ : ∃ g9, f_901 (q 14) = aI E 2076 g9 ∧ FOK g9 ∧ g9 = upd g_855 (v_863 : Int32).toNatClampNeg r_866 := ⟨_, hf_902, (ok_857.up (by first | omega | (simp only [Int32.lt_iff_toInt_lt, Int32.le_iff_toInt_le, Int32.reduceToInt, ← Int32.toInt_inj, true_and, and_true, or_true, true_or, false_or, or_false, false_and, and_false, not_true_eq_false, not_false_eq_true] <;> omega)) (fun q1 q2 => (by first | omega | (simp only [Int32.lt_iff_toInt_lt, Int32.le_iff_toInt_le, Int32.reduceToInt, ← Int32.toInt_inj] at *; omega))) (fun k9 q1 q2 q3 => (by first | omega | (simp only [Int32.lt_iff_toInt_lt, Int32.le_iff_toInt_le, Int32.reduceToInt, ← Int32.toInt_inj] at *; omega)))), rfl⟩
                  have hf_908 := (hk_903 a_0 (ne_kd e_877 hf_876 rfl)).trans e_877
                  have fr_909 := FR.w hk_903 hf_876 (k := 2176) rfl
                  have lk_910 := lf_at (g0 := g_f) eg_907 (by omega) (by omega)
                  have ag_911 := ag_862.st eg_907 (by omega) (by omega)
                  try simp only [Int32.reduceToInt] at lk_910
                  refine v_aload_n hC dX12_readLoss_165 rfl ?_
                  refine v_get hC fl_X12_34 m_1 hf_908 rfl dX12_readLoss_166 ?_
                  refine v_iload_n hC dX12_readLoss_169 rfl ?_
                  refine v_iconst hC dX12_readLoss_170 (v := 2) (by decide) ?_
                  obtain ⟨v_912, h_913⟩ : ∃ v9 : Int32, v_49 + 2 = v9 := ⟨_, rfl⟩
                  refine v_iadd hC dX12_readLoss_171 h_913 ?_
                  have h_914 := add_v h_913 (by first | omega | (simp only [Int32.lt_iff_toInt_lt, Int32.le_iff_toInt_le, Int32.reduceToInt, ← Int32.toInt_inj, true_and, and_true, or_true, true_or, false_or, or_false, false_and, and_false, not_true_eq_false, not_false_eq_true] <;> omega)) (by first | omega | (simp only [Int32.lt_iff_toInt_lt, Int32.le_iff_toInt_le, Int32.reduceToInt, ← Int32.toInt_inj, true_and, and_true, or_true, true_or, false_or, or_false, false_and, and_false, not_true_eq_false, not_false_eq_true] <;> omega))
                  try simp only [Int32.reduceToInt] at h_914
                  refine v_aload_n hC dX12_readLoss_172 rfl ?_
                  refine v_ldcwS hC sr_X12_295 dX12_readLoss_173 ?_
                  refine v_aload_n hC dX12_readLoss_176 rfl ?_
                  refine v_get hC fl_X12_34 m_1 hf_908 rfl dX12_readLoss_177 ?_
                  refine v_iload_n hC dX12_readLoss_180 rfl ?_
                  refine v_iconst hC dX12_readLoss_181 (v := 1) (by decide) ?_
                  obtain ⟨v_915, h_916⟩ : ∃ v9 : Int32, v_49 + 1 = v9 := ⟨_, rfl⟩
                  refine v_iadd hC dX12_readLoss_182 h_916 ?_
                  have h_917 := add_v h_916 (by first | omega | (simp only [Int32.lt_iff_toInt_lt, Int32.le_iff_toInt_le, Int32.reduceToInt, ← Int32.toInt_inj, true_and, and_true, or_true, true_or, false_or, or_false, false_and, and_false, not_true_eq_false, not_false_eq_true] <;> omega)) (by first | omega | (simp only [Int32.lt_iff_toInt_lt, Int32.le_iff_toInt_le, Int32.reduceToInt, ← Int32.toInt_inj, true_and, and_true, or_true, true_or, false_or, or_false, false_and, and_false, not_true_eq_false, not_false_eq_true] <;> omega))
                  try simp only [Int32.reduceToInt] at h_917
                  obtain ⟨v_918, h_919⟩ : ∃ v9 : Int32, g_904 (v_915 : Int32).toNatClampNeg = v9 := ⟨_, rfl⟩
                  refine v_iald hC m_22 hf_902 (vp_in_iff.mpr (by first | omega | (simp only [Int32.lt_iff_toInt_lt, Int32.le_iff_toInt_le, Int32.reduceToInt, ← Int32.toInt_inj, true_and, and_true, or_true, true_or, false_or, or_false, false_and, and_false, not_true_eq_false, not_false_eq_true] <;> omega))) h_919 dX12_readLoss_183 ?_
                  refine v_bipush hC dX12_readLoss_184 (v := 15) (by decide) ?_
                  refine v_vi hC (rest := [.int v_912, .ref (q 14)]) m_1 hf_908 rfl mi_X12_told ms_X12_told (p_X12_told hW_905 k_0 (by decide)) mx_X12_told ml_X12_189 (by decide) rfl (cells1 := 0) (slots1 := 0) (by decide) (by decide) (Nat.le_of_ble_eq_true rfl) (Nat.le_of_ble_eq_true rfl) rfl (Nat.le_of_ble_eq_true rfl) dX12_readLoss_186 (fun r_920 L_921 f_922 h_923 => ?_)
                  obtain ⟨rfl, hW_925, hF_926, -, -, -, -, -, x_924⟩ := h_923
                  have fe_927 : fld (f_901 a_0) 8 = (v_883 : Int32).toInt := by rw [hf_908]; rfl
                  have fe_928 : fld (f_901 a_0) 12 = (v_890 : Int32).toInt := by rw [hf_908]; rfl
                  have hf_929 := hF_926.at hf_902 rfl
                  obtain ⟨v_931, v_932, v_934, v_936, v_938, v_940, v_942, v_943, v_944, v_945, v_947, e_930, b_933, b_935, b_937, b_939, b_941, b_946, b_948⟩ := hW_925.at m_1 t_2
                  have fe_949 : fld (f_922 a_0) 8 = (v_936 : Int32).toInt := by rw [e_930]; rfl
                  have fe_950 : fld (f_922 a_0) 9 = (v_938 : Int32).toInt := by rw [e_930]; rfl
                  have fe_951 : fld (f_922 a_0) 10 = (v_940 : Int32).toInt := by rw [e_930]; rfl
                  have fe_952 : fld (f_922 a_0) 12 = (v_943 : Int32).toInt := by rw [e_930]; rfl
                  rw [fe_952, fe_928, fe_927, fe_950, fe_949, fe_951] at x_924
                  have nb_953 : ¬ (v_943 : Int32).toInt = 0 := x_924.elim id (fun h9 => absurd h9.1 nb_900)
                  clear x_924
                  clear fe_927 fe_928 fe_949 fe_950 fe_951 fe_952
                  try simp only [Int32.reduceToInt, Int64.reduceToInt] at x_924
                  refine v_iast hC m_22 hf_929 (vp_in_iff.mpr (by first | omega | (simp only [Int32.lt_iff_toInt_lt, Int32.le_iff_toInt_le, Int32.reduceToInt, ← Int32.toInt_inj, true_and, and_true, or_true, true_or, false_or, or_false, false_and, and_false, not_true_eq_false, not_false_eq_true] <;> omega))) dX12_readLoss_189 (fun f_954 hf_955 hk_956 => ?_)
                  have hW_958 := hW_925.up hf_955 hk_956 t_23 ⟨_, rfl, (ok_906.up (by first | omega | (simp only [Int32.lt_iff_toInt_lt, Int32.le_iff_toInt_le, Int32.reduceToInt, ← Int32.toInt_inj, true_and, and_true, or_true, true_or, false_or, or_false, false_and, and_false, not_true_eq_false, not_false_eq_true] <;> omega)) (fun q1 q2 => (by first | omega | (simp only [Int32.lt_iff_toInt_lt, Int32.le_iff_toInt_le, Int32.reduceToInt, ← Int32.toInt_inj] at *; omega))) (fun k9 q1 q2 q3 => (by first | omega | (simp only [Int32.lt_iff_toInt_lt, Int32.le_iff_toInt_le, Int32.reduceToInt, ← Int32.toInt_inj] at *; omega))))⟩
                  obtain ⟨g_957, hf_955, ok_959, eg_960⟩ : ∃ g9, f_954 (q 14) = aI E 2076 g9 ∧ FOK g9 ∧ g9 = upd g_904 (v_912 : Int32).toNatClampNeg r_920 := ⟨_, hf_955, (ok_906.up (by first | omega | (simp only [Int32.lt_iff_toInt_lt, Int32.le_iff_toInt_le, Int32.reduceToInt, ← Int32.toInt_inj, true_and, and_true, or_true, true_or, false_or, or_false, false_and, and_false, not_true_eq_false, not_false_eq_true] <;> omega)) (fun q1 q2 => (by first | omega | (simp only [Int32.lt_iff_toInt_lt, Int32.le_iff_toInt_le, Int32.reduceToInt, ← Int32.toInt_inj] at *; omega))) (fun k9 q1 q2 q3 => (by first | omega | (simp only [Int32.lt_iff_toInt_lt, Int32.le_iff_toInt_le, Int32.reduceToInt, ← Int32.toInt_inj] at *; omega)))), rfl⟩
                  have hf_961 := (hk_956 a_0 (ne_kd e_930 hf_929 rfl)).trans e_930
                  have fr_962 := FR.w hk_956 hf_929 (k := 2176) rfl
                  have lk_963 := l2_at (g0 := g_f) eg_960 (by omega) (by omega)
                  have ag_964 := ag_911.st eg_960 (by omega) (by omega)
                  try simp only [Int32.reduceToInt] at lk_963
                  refine v_goto hC dX12_readLoss_190 (tgt := 258) (by decide) ?_
                  refine v_aload_n hC dX12_readLoss_258 rfl ?_
                  refine v_vv hC (rest := []) m_1 hf_961 rfl mi_X12_ends ms_X12_ends (p_X12_ends hW_958 k_0) mx_X12_ends ml_X12_178 (by decide) rfl (cells1 := 0) (slots1 := 0) (by decide) (by decide) (Nat.le_of_ble_eq_true rfl) (Nat.le_of_ble_eq_true rfl) rfl (Nat.le_of_ble_eq_true rfl) dX12_readLoss_259 (fun L_966 f_967 h_968 => ?_)
                  obtain ⟨rfl, hW_970, hF_971, -, -, -, -, x_969⟩ := h_968
                  have fe_972 : fld (f_954 a_0) 8 = (v_936 : Int32).toInt := by rw [hf_961]; rfl
                  have fe_973 : fld (f_954 a_0) 10 = (v_940 : Int32).toInt := by rw [hf_961]; rfl
                  have fe_974 : fld (f_954 a_0) 12 = (v_943 : Int32).toInt := by rw [hf_961]; rfl
                  have hf_975 := hF_971.at hf_955 rfl
                  obtain ⟨v_977, v_978, v_980, v_982, v_984, v_986, v_988, v_989, v_990, v_991, v_993, e_976, b_979, b_981, b_983, b_985, b_987, b_992, b_994⟩ := hW_970.at m_1 t_2
                  have fe_995 : fld (f_967 a_0) 8 = (v_982 : Int32).toInt := by rw [e_976]; rfl
                  have fe_996 : fld (f_967 a_0) 9 = (v_984 : Int32).toInt := by rw [e_976]; rfl
                  have fe_997 : fld (f_967 a_0) 10 = (v_986 : Int32).toInt := by rw [e_976]; rfl
                  have fe_998 : fld (f_967 a_0) 12 = (v_989 : Int32).toInt := by rw [e_976]; rfl
                  rw [fe_998, fe_974, fe_973, fe_972, fe_996, fe_995, fe_997] at x_969
                  have nb_999 : ¬ (v_989 : Int32).toInt = 0 := x_969.elim id (fun h9 => absurd h9.1 nb_953)
                  clear x_969
                  clear fe_972 fe_973 fe_974 fe_995 fe_996 fe_997 fe_998
                  refine v_aload_n hC dX12_readLoss_262 rfl ?_
                  refine v_get hC fl_X12_34 m_1 e_976 rfl dX12_readLoss_263 ?_
                  refine v_bipush hC dX12_readLoss_266 (v := 6) (by decide) ?_
                  refine v_dup2 hC dX12_readLoss_268 rfl rfl ?_
                  have l6_1000 : (g_957 6).toInt = (g_f 6).toInt := congrArg Int32.toInt ag_964.2.1
                  refine v_iald hC m_22 hf_975 (vp_in_iff.mpr (by decide)) (v := g_957 6) rfl dX12_readLoss_269 ?_
                  refine v_iconst hC dX12_readLoss_270 (v := 1) (by decide) ?_
                  obtain ⟨v_1001, h_1002⟩ : ∃ v9 : Int32, (g_957 6) + 1 = v9 := ⟨_, rfl⟩
                  refine v_iadd hC dX12_readLoss_271 h_1002 ?_
                  have h_1003 := add_v h_1002 (by first | omega | (simp only [Int32.lt_iff_toInt_lt, Int32.le_iff_toInt_le, Int32.reduceToInt, ← Int32.toInt_inj, true_and, and_true, or_true, true_or, false_or, or_false, false_and, and_false, not_true_eq_false, not_false_eq_true] <;> omega)) (by first | omega | (simp only [Int32.lt_iff_toInt_lt, Int32.le_iff_toInt_le, Int32.reduceToInt, ← Int32.toInt_inj, true_and, and_true, or_true, true_or, false_or, or_false, false_and, and_false, not_true_eq_false, not_false_eq_true] <;> omega))
                  try simp only [Int32.reduceToInt] at h_1003
                  refine v_iast hC m_22 hf_975 (vp_in_iff.mpr (by decide)) dX12_readLoss_272 (fun f_1004 hf_1005 hk_1006 => ?_)
                  have hW_1008 := hW_970.up hf_1005 hk_1006 t_23 ⟨_, rfl, (ok_959.up (i := 6) (by decide) (fun q1 q2 => absurd (And.intro q1 q2) (by decide)) (fun k9 q1 q2 q3 => by simp only [Int32.reduceToInt] at q3; omega))⟩
                  obtain ⟨g_1007, hf_1005, ok_1009, eg_1010⟩ : ∃ g9, f_1004 (q 14) = aI E 2076 g9 ∧ FOK g9 ∧ g9 = upd g_957 (6 : Int32).toNatClampNeg v_1001 := ⟨_, hf_1005, (ok_959.up (i := 6) (by decide) (fun q1 q2 => absurd (And.intro q1 q2) (by decide)) (fun k9 q1 q2 q3 => by simp only [Int32.reduceToInt] at q3; omega)), rfl⟩
                  have hf_1011 := (hk_1006 a_0 (ne_kd e_976 hf_975 rfl)).trans e_976
                  have fr_1012 := FR.w hk_1006 hf_975 (k := 2176) rfl
                  have ln6_1013 := FOK.n6 ag_964.1 eg_1010
                  have ln6_1013_t : (g_1007 6).toInt = v_1001.toInt := congrArg Int32.toInt ln6_1013.2
                  have fe_1014 : fld (f_1004 a_0) 12 = (v_989 : Int32).toInt := by rw [hf_1011]; rfl
                  have fe_1015 : fld (f_1004 a_0) 8 = (v_982 : Int32).toInt := by rw [hf_1011]; rfl
                  have fe_1016 : fld (f_1004 a_0) 12 = (v_989 : Int32).toInt := by rw [hf_1011]; rfl
                  have fe_1017 : fld (f_1004 a_0) 20 = (v_993 : Int32).toInt := by rw [hf_1011]; rfl
                  exact hR _ _ _ _ _ _ dX12_readLoss_273 (Nat.le_of_ble_eq_true rfl) (Nat.le_of_ble_eq_true rfl) ⟨rfl, hW_1008, ((((((((hF_98.tr fr_860).tr hF_872).tr fr_909).tr hF_926).tr fr_962).tr hF_971).tr fr_1012).mono rfl), ⟨_, hf_1005, ln6_1013.1, (by omega), (by rw [fe_1014]; exact .inl nb_999)⟩, (by rw [fe_1015, fe_1016, mz_43, mz_44]; exact .inl nb_999), (by simp only [fe_1017, mz_45, true_and, and_true, or_true, true_or, false_or, or_false, false_and, and_false, not_true_eq_false, not_false_eq_true] <;> first | omega | (simp only [Int32.lt_iff_toInt_lt, Int32.le_iff_toInt_le, Int32.reduceToInt, ← Int32.toInt_inj, true_and, and_true, or_true, true_or, false_or, or_false, false_and, and_false, not_true_eq_false, not_false_eq_true] <;> omega))⟩
                · simp only [Int32.lt_iff_toInt_lt, Int32.le_iff_toInt_le, Int32.reduceToInt, ← Int32.toInt_inj] at h_848
                  have g0_850 := gd_t x_844 h_848
                  clear x_844
                  have gz_851 := x_96.symm.trans g0_850
                  refine v_aload_n hC dX12_readLoss_131 rfl ?_
                  refine v_vv hC (rest := []) m_1 e_104 rfl mi_X12_advance ms_X12_advance (p_X12_advance hW_97 k_0) mx_X12_advance ml_X12_156 (by decide) rfl (cells1 := 0) (slots1 := 0) (by decide) (by decide) (Nat.le_of_ble_eq_true rfl) (Nat.le_of_ble_eq_true rfl) rfl (Nat.le_of_ble_eq_true rfl) dX12_readLoss_132 (fun L_1019 f_1020 h_1021 => ?_)
                  obtain ⟨rfl, hW_1025, hF_1026, x_1022, x_1023, x_1024, -⟩ := h_1021
                  have fe_1027 : fld (f_92 a_0) 8 = (v_110 : Int32).toInt := by rw [e_104]; rfl
                  have fe_1028 : fld (f_92 a_0) 12 = (v_117 : Int32).toInt := by rw [e_104]; rfl
                  have hf_1029 := hF_1026.at hf_103 rfl
                  obtain ⟨v_1031, v_1032, v_1034, v_1036, v_1038, v_1040, v_1042, v_1043, v_1044, v_1045, v_1047, e_1030, b_1033, b_1035, b_1037, b_1039, b_1041, b_1046, b_1048⟩ := hW_1025.at m_1 t_2
                  have fe_1049 : fld (f_1020 a_0) 8 = (v_1036 : Int32).toInt := by rw [e_1030]; rfl
                  have fe_1050 : fld (f_1020 a_0) 9 = (v_1038 : Int32).toInt := by rw [e_1030]; rfl
                  have fe_1051 : fld (f_1020 a_0) 10 = (v_1040 : Int32).toInt := by rw [e_1030]; rfl
                  have fe_1052 : fld (f_1020 a_0) 12 = (v_1043 : Int32).toInt := by rw [e_1030]; rfl
                  rw [fe_1027, fe_1050, fe_1049] at x_1022
                  rw [fe_1051, fe_1050, fe_1049] at x_1023
                  rw [fe_1052, fe_1028] at x_1024
                  clear fe_1027 fe_1028 fe_1049 fe_1050 fe_1051 fe_1052
                  refine v_aload_n hC dX12_readLoss_135 rfl ?_
                  refine v_get hC fl_X12_34 m_1 e_1030 rfl dX12_readLoss_136 ?_
                  refine v_iload_n hC dX12_readLoss_139 rfl ?_
                  refine v_iload_n hC dX12_readLoss_140 rfl ?_
                  refine v_if_eq_t hC dX12_readLoss_141 (tgt := 148) (by decide) (by first | omega | (simp only [Int32.lt_iff_toInt_lt, Int32.le_iff_toInt_le, Int32.reduceToInt, ← Int32.toInt_inj, true_and, and_true, or_true, true_or, false_or, or_false, false_and, and_false, not_true_eq_false, not_false_eq_true] <;> omega)) ?_
                  refine v_iconst hC dX12_readLoss_148 (v := 0) (by decide) ?_
                  refine v_iast hC m_22 hf_1029 (vp_in_iff.mpr (by first | omega | (simp only [Int32.lt_iff_toInt_lt, Int32.le_iff_toInt_le, Int32.reduceToInt, ← Int32.toInt_inj, true_and, and_true, or_true, true_or, false_or, or_false, false_and, and_false, not_true_eq_false, not_false_eq_true] <;> omega))) dX12_readLoss_149 (fun f_1053 hf_1054 hk_1055 => ?_)
                  have hW_1057 := hW_1025.up hf_1054 hk_1055 t_23 ⟨_, rfl, (o_f.up (by first | omega | (simp only [Int32.lt_iff_toInt_lt, Int32.le_iff_toInt_le, Int32.reduceToInt, ← Int32.toInt_inj, true_and, and_true, or_true, true_or, false_or, or_false, false_and, and_false, not_true_eq_false, not_false_eq_true] <;> omega)) (fun q1 q2 => (by first | omega | (simp only [Int32.lt_iff_toInt_lt, Int32.le_iff_toInt_le, Int32.reduceToInt, ← Int32.toInt_inj] at *; omega))) (fun k9 q1 q2 q3 => (by first | omega | (simp only [Int32.lt_iff_toInt_lt, Int32.le_iff_toInt_le, Int32.reduceToInt, ← Int32.toInt_inj] at *; omega))))⟩
                  obtain ⟨g_1056, hf_1054, ok_1058, eg_1059⟩ : ∃ g9, f_1053 (q 14) = aI E 2076 g9 ∧ FOK g9 ∧ g9 = upd g_f (v_49 : Int32).toNatClampNeg 0 := ⟨_, hf_1054, (o_f.up (by first | omega | (simp only [Int32.lt_iff_toInt_lt, Int32.le_iff_toInt_le, Int32.reduceToInt, ← Int32.toInt_inj, true_and, and_true, or_true, true_or, false_or, or_false, false_and, and_false, not_true_eq_false, not_false_eq_true] <;> omega)) (fun q1 q2 => (by first | omega | (simp only [Int32.lt_iff_toInt_lt, Int32.le_iff_toInt_le, Int32.reduceToInt, ← Int32.toInt_inj] at *; omega))) (fun k9 q1 q2 q3 => (by first | omega | (simp only [Int32.lt_iff_toInt_lt, Int32.le_iff_toInt_le, Int32.reduceToInt, ← Int32.toInt_inj] at *; omega)))), rfl⟩
                  have hf_1060 := (hk_1055 a_0 (ne_kd e_1030 hf_1029 rfl)).trans e_1030
                  have fr_1061 := FR.w hk_1055 hf_1029 (k := 2176) rfl
                  have lk_1062 := lk_at (g0 := g_f) eg_1059 (by omega) (by omega)
                  have ag_1063 := (AG.rf o_f).st eg_1059 (by omega) (by omega)
                  try simp only [Int32.reduceToInt] at lk_1062
                  refine v_aload_n hC dX12_readLoss_150 rfl ?_
                  refine v_get hC fl_X12_34 m_1 hf_1060 rfl dX12_readLoss_151 ?_
                  refine v_iload_n hC dX12_readLoss_154 rfl ?_
                  refine v_iconst hC dX12_readLoss_155 (v := 1) (by decide) ?_
                  obtain ⟨v_1064, h_1065⟩ : ∃ v9 : Int32, v_49 + 1 = v9 := ⟨_, rfl⟩
                  refine v_iadd hC dX12_readLoss_156 h_1065 ?_
                  have h_1066 := add_v h_1065 (by first | omega | (simp only [Int32.lt_iff_toInt_lt, Int32.le_iff_toInt_le, Int32.reduceToInt, ← Int32.toInt_inj, true_and, and_true, or_true, true_or, false_or, or_false, false_and, and_false, not_true_eq_false, not_false_eq_true] <;> omega)) (by first | omega | (simp only [Int32.lt_iff_toInt_lt, Int32.le_iff_toInt_le, Int32.reduceToInt, ← Int32.toInt_inj, true_and, and_true, or_true, true_or, false_or, or_false, false_and, and_false, not_true_eq_false, not_false_eq_true] <;> omega))
                  try simp only [Int32.reduceToInt] at h_1066
                  refine v_aload_n hC dX12_readLoss_157 rfl ?_
                  refine v_iconst hC dX12_readLoss_158 (v := 0) (by decide) ?_
                  refine v_bipush hC dX12_readLoss_159 (v := 15) (by decide) ?_
                  refine v_vi hC (rest := [.int v_1064, .ref (q 14)]) m_1 hf_1060 rfl mi_X12_number ms_X12_number (p_X12_number hW_1057 k_0) mx_X12_number ml_X12_170 (by decide) rfl (cells1 := 0) (slots1 := 0) (by decide) (by decide) (Nat.le_of_ble_eq_true rfl) (Nat.le_of_ble_eq_true rfl) rfl (Nat.le_of_ble_eq_true rfl) dX12_readLoss_161 (fun r_1067 L_1068 f_1069 h_1070 => ?_)
                  obtain ⟨rfl, hW_1072, hF_1073, -, -, -, -, -, x_1071⟩ := h_1070
                  have fe_1074 : fld (f_1053 a_0) 8 = (v_1036 : Int32).toInt := by rw [hf_1060]; rfl
                  have fe_1075 : fld (f_1053 a_0) 10 = (v_1040 : Int32).toInt := by rw [hf_1060]; rfl
                  have fe_1076 : fld (f_1053 a_0) 12 = (v_1043 : Int32).toInt := by rw [hf_1060]; rfl
                  have hf_1077 := hF_1073.at hf_1054 rfl
                  obtain ⟨v_1079, v_1080, v_1082, v_1084, v_1086, v_1088, v_1090, v_1091, v_1092, v_1093, v_1095, e_1078, b_1081, b_1083, b_1085, b_1087, b_1089, b_1094, b_1096⟩ := hW_1072.at m_1 t_2
                  have fe_1097 : fld (f_1069 a_0) 8 = (v_1084 : Int32).toInt := by rw [e_1078]; rfl
                  have fe_1098 : fld (f_1069 a_0) 9 = (v_1086 : Int32).toInt := by rw [e_1078]; rfl
                  have fe_1099 : fld (f_1069 a_0) 10 = (v_1088 : Int32).toInt := by rw [e_1078]; rfl
                  have fe_1100 : fld (f_1069 a_0) 12 = (v_1091 : Int32).toInt := by rw [e_1078]; rfl
                  rw [fe_1100, fe_1076, fe_1075, fe_1074, fe_1098, fe_1097, fe_1099] at x_1071
                  clear fe_1074 fe_1075 fe_1076 fe_1097 fe_1098 fe_1099 fe_1100
                  try simp only [Int32.reduceToInt, Int64.reduceToInt] at x_1071
                  refine v_iast hC m_22 hf_1077 (vp_in_iff.mpr (by first | omega | (simp only [Int32.lt_iff_toInt_lt, Int32.le_iff_toInt_le, Int32.reduceToInt, ← Int32.toInt_inj, true_and, and_true, or_true, true_or, false_or, or_false, false_and, and_false, not_true_eq_false, not_false_eq_true] <;> omega))) dX12_readLoss_164 (fun f_1101 hf_1102 hk_1103 => ?_)
                  have hW_1105 := hW_1072.up hf_1102 hk_1103 t_23 ⟨_, rfl, (ok_1058.up (by first | omega | (simp only [Int32.lt_iff_toInt_lt, Int32.le_iff_toInt_le, Int32.reduceToInt, ← Int32.toInt_inj, true_and, and_true, or_true, true_or, false_or, or_false, false_and, and_false, not_true_eq_false, not_false_eq_true] <;> omega)) (fun q1 q2 => (by first | omega | (simp only [Int32.lt_iff_toInt_lt, Int32.le_iff_toInt_le, Int32.reduceToInt, ← Int32.toInt_inj] at *; omega))) (fun k9 q1 q2 q3 => (by first | omega | (simp only [Int32.lt_iff_toInt_lt, Int32.le_iff_toInt_le, Int32.reduceToInt, ← Int32.toInt_inj] at *; omega))))⟩
                  obtain ⟨g_1104, hf_1102, ok_1106, eg_1107⟩ : ∃ g9, f_1101 (q 14) = aI E 2076 g9 ∧ FOK g9 ∧ g9 = upd g_1056 (v_1064 : Int32).toNatClampNeg r_1067 := ⟨_, hf_1102, (ok_1058.up (by first | omega | (simp only [Int32.lt_iff_toInt_lt, Int32.le_iff_toInt_le, Int32.reduceToInt, ← Int32.toInt_inj, true_and, and_true, or_true, true_or, false_or, or_false, false_and, and_false, not_true_eq_false, not_false_eq_true] <;> omega)) (fun q1 q2 => (by first | omega | (simp only [Int32.lt_iff_toInt_lt, Int32.le_iff_toInt_le, Int32.reduceToInt, ← Int32.toInt_inj] at *; omega))) (fun k9 q1 q2 q3 => (by first | omega | (simp only [Int32.lt_iff_toInt_lt, Int32.le_iff_toInt_le, Int32.reduceToInt, ← Int32.toInt_inj] at *; omega)))), rfl⟩
                  have hf_1108 := (hk_1103 a_0 (ne_kd e_1078 hf_1077 rfl)).trans e_1078
                  have fr_1109 := FR.w hk_1103 hf_1077 (k := 2176) rfl
                  have lk_1110 := lf_at (g0 := g_f) eg_1107 (by omega) (by omega)
                  have ag_1111 := ag_1063.st eg_1107 (by omega) (by omega)
                  try simp only [Int32.reduceToInt] at lk_1110
                  refine v_aload_n hC dX12_readLoss_165 rfl ?_
                  refine v_get hC fl_X12_34 m_1 hf_1108 rfl dX12_readLoss_166 ?_
                  refine v_iload_n hC dX12_readLoss_169 rfl ?_
                  refine v_iconst hC dX12_readLoss_170 (v := 2) (by decide) ?_
                  obtain ⟨v_1112, h_1113⟩ : ∃ v9 : Int32, v_49 + 2 = v9 := ⟨_, rfl⟩
                  refine v_iadd hC dX12_readLoss_171 h_1113 ?_
                  have h_1114 := add_v h_1113 (by first | omega | (simp only [Int32.lt_iff_toInt_lt, Int32.le_iff_toInt_le, Int32.reduceToInt, ← Int32.toInt_inj, true_and, and_true, or_true, true_or, false_or, or_false, false_and, and_false, not_true_eq_false, not_false_eq_true] <;> omega)) (by first | omega | (simp only [Int32.lt_iff_toInt_lt, Int32.le_iff_toInt_le, Int32.reduceToInt, ← Int32.toInt_inj, true_and, and_true, or_true, true_or, false_or, or_false, false_and, and_false, not_true_eq_false, not_false_eq_true] <;> omega))
                  try simp only [Int32.reduceToInt] at h_1114
                  refine v_aload_n hC dX12_readLoss_172 rfl ?_
                  refine v_ldcwS hC sr_X12_295 dX12_readLoss_173 ?_
                  refine v_aload_n hC dX12_readLoss_176 rfl ?_
                  refine v_get hC fl_X12_34 m_1 hf_1108 rfl dX12_readLoss_177 ?_
                  refine v_iload_n hC dX12_readLoss_180 rfl ?_
                  refine v_iconst hC dX12_readLoss_181 (v := 1) (by decide) ?_
                  obtain ⟨v_1115, h_1116⟩ : ∃ v9 : Int32, v_49 + 1 = v9 := ⟨_, rfl⟩
                  refine v_iadd hC dX12_readLoss_182 h_1116 ?_
                  have h_1117 := add_v h_1116 (by first | omega | (simp only [Int32.lt_iff_toInt_lt, Int32.le_iff_toInt_le, Int32.reduceToInt, ← Int32.toInt_inj, true_and, and_true, or_true, true_or, false_or, or_false, false_and, and_false, not_true_eq_false, not_false_eq_true] <;> omega)) (by first | omega | (simp only [Int32.lt_iff_toInt_lt, Int32.le_iff_toInt_le, Int32.reduceToInt, ← Int32.toInt_inj, true_and, and_true, or_true, true_or, false_or, or_false, false_and, and_false, not_true_eq_false, not_false_eq_true] <;> omega))
                  try simp only [Int32.reduceToInt] at h_1117
                  obtain ⟨v_1118, h_1119⟩ : ∃ v9 : Int32, g_1104 (v_1115 : Int32).toNatClampNeg = v9 := ⟨_, rfl⟩
                  refine v_iald hC m_22 hf_1102 (vp_in_iff.mpr (by first | omega | (simp only [Int32.lt_iff_toInt_lt, Int32.le_iff_toInt_le, Int32.reduceToInt, ← Int32.toInt_inj, true_and, and_true, or_true, true_or, false_or, or_false, false_and, and_false, not_true_eq_false, not_false_eq_true] <;> omega))) h_1119 dX12_readLoss_183 ?_
                  refine v_bipush hC dX12_readLoss_184 (v := 15) (by decide) ?_
                  refine v_vi hC (rest := [.int v_1112, .ref (q 14)]) m_1 hf_1108 rfl mi_X12_told ms_X12_told (p_X12_told hW_1105 k_0 (by decide)) mx_X12_told ml_X12_189 (by decide) rfl (cells1 := 0) (slots1 := 0) (by decide) (by decide) (Nat.le_of_ble_eq_true rfl) (Nat.le_of_ble_eq_true rfl) rfl (Nat.le_of_ble_eq_true rfl) dX12_readLoss_186 (fun r_1120 L_1121 f_1122 h_1123 => ?_)
                  obtain ⟨rfl, hW_1125, hF_1126, -, -, -, -, -, x_1124⟩ := h_1123
                  have fe_1127 : fld (f_1101 a_0) 8 = (v_1084 : Int32).toInt := by rw [hf_1108]; rfl
                  have fe_1128 : fld (f_1101 a_0) 12 = (v_1091 : Int32).toInt := by rw [hf_1108]; rfl
                  have hf_1129 := hF_1126.at hf_1102 rfl
                  obtain ⟨v_1131, v_1132, v_1134, v_1136, v_1138, v_1140, v_1142, v_1143, v_1144, v_1145, v_1147, e_1130, b_1133, b_1135, b_1137, b_1139, b_1141, b_1146, b_1148⟩ := hW_1125.at m_1 t_2
                  have fe_1149 : fld (f_1122 a_0) 8 = (v_1136 : Int32).toInt := by rw [e_1130]; rfl
                  have fe_1150 : fld (f_1122 a_0) 9 = (v_1138 : Int32).toInt := by rw [e_1130]; rfl
                  have fe_1151 : fld (f_1122 a_0) 10 = (v_1140 : Int32).toInt := by rw [e_1130]; rfl
                  have fe_1152 : fld (f_1122 a_0) 12 = (v_1143 : Int32).toInt := by rw [e_1130]; rfl
                  rw [fe_1152, fe_1128, fe_1127, fe_1150, fe_1149, fe_1151] at x_1124
                  clear fe_1127 fe_1128 fe_1149 fe_1150 fe_1151 fe_1152
                  try simp only [Int32.reduceToInt, Int64.reduceToInt] at x_1124
                  refine v_iast hC m_22 hf_1129 (vp_in_iff.mpr (by first | omega | (simp only [Int32.lt_iff_toInt_lt, Int32.le_iff_toInt_le, Int32.reduceToInt, ← Int32.toInt_inj, true_and, and_true, or_true, true_or, false_or, or_false, false_and, and_false, not_true_eq_false, not_false_eq_true] <;> omega))) dX12_readLoss_189 (fun f_1153 hf_1154 hk_1155 => ?_)
                  have hW_1157 := hW_1125.up hf_1154 hk_1155 t_23 ⟨_, rfl, (ok_1106.up (by first | omega | (simp only [Int32.lt_iff_toInt_lt, Int32.le_iff_toInt_le, Int32.reduceToInt, ← Int32.toInt_inj, true_and, and_true, or_true, true_or, false_or, or_false, false_and, and_false, not_true_eq_false, not_false_eq_true] <;> omega)) (fun q1 q2 => (by first | omega | (simp only [Int32.lt_iff_toInt_lt, Int32.le_iff_toInt_le, Int32.reduceToInt, ← Int32.toInt_inj] at *; omega))) (fun k9 q1 q2 q3 => (by first | omega | (simp only [Int32.lt_iff_toInt_lt, Int32.le_iff_toInt_le, Int32.reduceToInt, ← Int32.toInt_inj] at *; omega))))⟩
                  obtain ⟨g_1156, hf_1154, ok_1158, eg_1159⟩ : ∃ g9, f_1153 (q 14) = aI E 2076 g9 ∧ FOK g9 ∧ g9 = upd g_1104 (v_1112 : Int32).toNatClampNeg r_1120 := ⟨_, hf_1154, (ok_1106.up (by first | omega | (simp only [Int32.lt_iff_toInt_lt, Int32.le_iff_toInt_le, Int32.reduceToInt, ← Int32.toInt_inj, true_and, and_true, or_true, true_or, false_or, or_false, false_and, and_false, not_true_eq_false, not_false_eq_true] <;> omega)) (fun q1 q2 => (by first | omega | (simp only [Int32.lt_iff_toInt_lt, Int32.le_iff_toInt_le, Int32.reduceToInt, ← Int32.toInt_inj] at *; omega))) (fun k9 q1 q2 q3 => (by first | omega | (simp only [Int32.lt_iff_toInt_lt, Int32.le_iff_toInt_le, Int32.reduceToInt, ← Int32.toInt_inj] at *; omega)))), rfl⟩
                  have hf_1160 := (hk_1155 a_0 (ne_kd e_1130 hf_1129 rfl)).trans e_1130
                  have fr_1161 := FR.w hk_1155 hf_1129 (k := 2176) rfl
                  have lk_1162 := l2_at (g0 := g_f) eg_1159 (by omega) (by omega)
                  have ag_1163 := ag_1111.st eg_1159 (by omega) (by omega)
                  try simp only [Int32.reduceToInt] at lk_1162
                  refine v_goto hC dX12_readLoss_190 (tgt := 258) (by decide) ?_
                  refine v_aload_n hC dX12_readLoss_258 rfl ?_
                  refine v_vv hC (rest := []) m_1 hf_1160 rfl mi_X12_ends ms_X12_ends (p_X12_ends hW_1157 k_0) mx_X12_ends ml_X12_178 (by decide) rfl (cells1 := 0) (slots1 := 0) (by decide) (by decide) (Nat.le_of_ble_eq_true rfl) (Nat.le_of_ble_eq_true rfl) rfl (Nat.le_of_ble_eq_true rfl) dX12_readLoss_259 (fun L_1165 f_1166 h_1167 => ?_)
                  obtain ⟨rfl, hW_1169, hF_1170, -, -, -, -, x_1168⟩ := h_1167
                  have fe_1171 : fld (f_1153 a_0) 8 = (v_1136 : Int32).toInt := by rw [hf_1160]; rfl
                  have fe_1172 : fld (f_1153 a_0) 10 = (v_1140 : Int32).toInt := by rw [hf_1160]; rfl
                  have fe_1173 : fld (f_1153 a_0) 12 = (v_1143 : Int32).toInt := by rw [hf_1160]; rfl
                  have hf_1174 := hF_1170.at hf_1154 rfl
                  obtain ⟨v_1176, v_1177, v_1179, v_1181, v_1183, v_1185, v_1187, v_1188, v_1189, v_1190, v_1192, e_1175, b_1178, b_1180, b_1182, b_1184, b_1186, b_1191, b_1193⟩ := hW_1169.at m_1 t_2
                  have fe_1194 : fld (f_1166 a_0) 8 = (v_1181 : Int32).toInt := by rw [e_1175]; rfl
                  have fe_1195 : fld (f_1166 a_0) 9 = (v_1183 : Int32).toInt := by rw [e_1175]; rfl
                  have fe_1196 : fld (f_1166 a_0) 10 = (v_1185 : Int32).toInt := by rw [e_1175]; rfl
                  have fe_1197 : fld (f_1166 a_0) 12 = (v_1188 : Int32).toInt := by rw [e_1175]; rfl
                  rw [fe_1197, fe_1173, fe_1172, fe_1171, fe_1195, fe_1194, fe_1196] at x_1168
                  clear fe_1171 fe_1172 fe_1173 fe_1194 fe_1195 fe_1196 fe_1197
                  refine v_aload_n hC dX12_readLoss_262 rfl ?_
                  refine v_get hC fl_X12_34 m_1 e_1175 rfl dX12_readLoss_263 ?_
                  refine v_bipush hC dX12_readLoss_266 (v := 6) (by decide) ?_
                  refine v_dup2 hC dX12_readLoss_268 rfl rfl ?_
                  have l6_1198 : (g_1156 6).toInt = (g_f 6).toInt := congrArg Int32.toInt ag_1163.2.1
                  refine v_iald hC m_22 hf_1174 (vp_in_iff.mpr (by decide)) (v := g_1156 6) rfl dX12_readLoss_269 ?_
                  refine v_iconst hC dX12_readLoss_270 (v := 1) (by decide) ?_
                  obtain ⟨v_1199, h_1200⟩ : ∃ v9 : Int32, (g_1156 6) + 1 = v9 := ⟨_, rfl⟩
                  refine v_iadd hC dX12_readLoss_271 h_1200 ?_
                  have h_1201 := add_v h_1200 (by first | omega | (simp only [Int32.lt_iff_toInt_lt, Int32.le_iff_toInt_le, Int32.reduceToInt, ← Int32.toInt_inj, true_and, and_true, or_true, true_or, false_or, or_false, false_and, and_false, not_true_eq_false, not_false_eq_true] <;> omega)) (by first | omega | (simp only [Int32.lt_iff_toInt_lt, Int32.le_iff_toInt_le, Int32.reduceToInt, ← Int32.toInt_inj, true_and, and_true, or_true, true_or, false_or, or_false, false_and, and_false, not_true_eq_false, not_false_eq_true] <;> omega))
                  try simp only [Int32.reduceToInt] at h_1201
                  refine v_iast hC m_22 hf_1174 (vp_in_iff.mpr (by decide)) dX12_readLoss_272 (fun f_1202 hf_1203 hk_1204 => ?_)
                  have hW_1206 := hW_1169.up hf_1203 hk_1204 t_23 ⟨_, rfl, (ok_1158.up (i := 6) (by decide) (fun q1 q2 => absurd (And.intro q1 q2) (by decide)) (fun k9 q1 q2 q3 => by simp only [Int32.reduceToInt] at q3; omega))⟩
                  obtain ⟨g_1205, hf_1203, ok_1207, eg_1208⟩ : ∃ g9, f_1202 (q 14) = aI E 2076 g9 ∧ FOK g9 ∧ g9 = upd g_1156 (6 : Int32).toNatClampNeg v_1199 := ⟨_, hf_1203, (ok_1158.up (i := 6) (by decide) (fun q1 q2 => absurd (And.intro q1 q2) (by decide)) (fun k9 q1 q2 q3 => by simp only [Int32.reduceToInt] at q3; omega)), rfl⟩
                  have hf_1209 := (hk_1204 a_0 (ne_kd e_1175 hf_1174 rfl)).trans e_1175
                  have fr_1210 := FR.w hk_1204 hf_1174 (k := 2176) rfl
                  have ln6_1211 := FOK.n6 ag_1163.1 eg_1208
                  have ln6_1211_t : (g_1205 6).toInt = v_1199.toInt := congrArg Int32.toInt ln6_1211.2
                  have fe_1212 : fld (f_1202 a_0) 12 = (v_1188 : Int32).toInt := by rw [hf_1209]; rfl
                  have fe_1217 : fld (f_1202 a_0) 8 = (v_1181 : Int32).toInt := by rw [hf_1209]; rfl
                  have fe_1218 : fld (f_1202 a_0) 12 = (v_1188 : Int32).toInt := by rw [hf_1209]; rfl
                  have fe_1223 : fld (f_1202 a_0) 20 = (v_1192 : Int32).toInt := by rw [hf_1209]; rfl
                  exact hR _ _ _ _ _ _ dX12_readLoss_273 (Nat.le_of_ble_eq_true rfl) (Nat.le_of_ble_eq_true rfl) ⟨rfl, hW_1206, (((((((((hF_98.tr hF_1026).tr fr_1061).tr hF_1073).tr fr_1109).tr hF_1126).tr fr_1161).tr hF_1170).tr fr_1210).mono rfl), ⟨_, hf_1203, ln6_1211.1, (by omega), (by rw [fe_1212]; by_cases q9 : v_1188.toInt = 0; have gp_1213 := x_1168.resolve_left (fun h9 => h9 q9); clear x_1168; have gp_1214 := x_1124.resolve_left (fun h9 => h9 gp_1213.1); clear x_1124; have gp_1215 := x_1071.resolve_left (fun h9 => h9 gp_1214.1); clear x_1071; have gz_1216 := x_1024.symm.trans gp_1215.1; exact .inr (LO.fin hLO ag_1163 eg_1208 (by omega) (by omega) (fun q8 => by omega)); exact .inl q9)⟩, (by rw [fe_1217, fe_1218, mz_43, mz_44]; by_cases q9 : (v_1188 : Int32).toInt = 0; have gp_1219 := x_1168.resolve_left (fun h9 => h9 q9); clear x_1168; have gp_1220 := x_1124.resolve_left (fun h9 => h9 gp_1219.1); clear x_1124; have gp_1221 := x_1071.resolve_left (fun h9 => h9 gp_1220.1); clear x_1071; have gz_1222 := x_1024.symm.trans gp_1221.1; (right; omega); exact .inl q9), (by simp only [fe_1223, mz_45, true_and, and_true, or_true, true_or, false_or, or_false, false_and, and_false, not_true_eq_false, not_false_eq_true] <;> first | omega | (simp only [Int32.lt_iff_toInt_lt, Int32.le_iff_toInt_le, Int32.reduceToInt, ← Int32.toInt_inj, true_and, and_true, or_true, true_or, false_or, or_false, false_and, and_false, not_true_eq_false, not_false_eq_true] <;> omega))⟩
              · simp only [Int32.lt_iff_toInt_lt, Int32.le_iff_toInt_le, Int32.reduceToInt, ← Int32.toInt_inj] at h_838
                refine v_aload_n hC dX12_readLoss_119 rfl ?_
                refine v_iconst hC dX12_readLoss_120 (v := 1) (by decide) ?_
                refine v_vv hC (rest := []) m_1 e_104 rfl mi_X12_errs ms_X12_errs (p_X12_errs hW_97 k_0 (by decide)) mx_X12_errs ml_X12_162 (by decide) rfl (cells1 := 0) (slots1 := 0) (by decide) (by decide) (Nat.le_of_ble_eq_true rfl) (Nat.le_of_ble_eq_true rfl) rfl (Nat.le_of_ble_eq_true rfl) dX12_readLoss_121 (fun L_1225 f_1226 h_1227 => ?_)
                obtain ⟨rfl, hW_1230, hF_1231, x_1228, x_1229, -, -, -⟩ := h_1227
                have fe_1232 : fld (f_92 a_0) 8 = (v_110 : Int32).toInt := by rw [e_104]; rfl
                have hf_1233 := hF_1231.at hf_103 rfl
                obtain ⟨v_1235, v_1236, v_1238, v_1240, v_1242, v_1244, v_1246, v_1247, v_1248, v_1249, v_1251, e_1234, b_1237, b_1239, b_1241, b_1243, b_1245, b_1250, b_1252⟩ := hW_1230.at m_1 t_2
                have fe_1253 : fld (f_1226 a_0) 8 = (v_1240 : Int32).toInt := by rw [e_1234]; rfl
                have fe_1254 : fld (f_1226 a_0) 12 = (v_1247 : Int32).toInt := by rw [e_1234]; rfl
                rw [fe_1254] at x_1228
                rw [fe_1253, fe_1232] at x_1229
                clear x_96
                clear fe_1232 fe_1253 fe_1254
                refine v_aload_n hC dX12_readLoss_124 rfl ?_
                refine v_vi hC (rest := []) m_1 e_1234 rfl mi_X12_good ms_X12_good (p_X12_good hW_1230 k_0) mx_X12_good ml_X12_139 (by decide) rfl (cells1 := 0) (slots1 := 0) (by decide) (by decide) (Nat.le_of_ble_eq_true rfl) (Nat.le_of_ble_eq_true rfl) rfl (Nat.le_of_ble_eq_true rfl) dX12_readLoss_125 (fun r_1255 L_1256 f_1257 h_1258 => ?_)
                obtain ⟨rfl, rfl, b_1259, x_1260⟩ := h_1258
                have fe_1263 : fld (f_1226 a_0) 12 = (v_1247 : Int32).toInt := by rw [e_1234]; rfl
                rw [fe_1263] at x_1260
                clear fe_1263
                try simp only [Int32.reduceToInt, Int64.reduceToInt] at x_1260
                refine v_if_eq hC dX12_readLoss_128 (tgt := 135) (by decide) (fun h_1264 => ?_) (fun h_1264 => ?_)
                · simp only [Int32.lt_iff_toInt_lt, Int32.le_iff_toInt_le, Int32.reduceToInt, ← Int32.toInt_inj] at h_1264
                  have g0_1265 := gd_f x_1260 h_1264
                  clear x_1260
                  refine v_aload_n hC dX12_readLoss_135 rfl ?_
                  refine v_get hC fl_X12_34 m_1 e_1234 rfl dX12_readLoss_136 ?_
                  refine v_iload_n hC dX12_readLoss_139 rfl ?_
                  refine v_iload_n hC dX12_readLoss_140 rfl ?_
                  refine v_if_eq_t hC dX12_readLoss_141 (tgt := 148) (by decide) (by first | omega | (simp only [Int32.lt_iff_toInt_lt, Int32.le_iff_toInt_le, Int32.reduceToInt, ← Int32.toInt_inj, true_and, and_true, or_true, true_or, false_or, or_false, false_and, and_false, not_true_eq_false, not_false_eq_true] <;> omega)) ?_
                  refine v_iconst hC dX12_readLoss_148 (v := 0) (by decide) ?_
                  refine v_iast hC m_22 hf_1233 (vp_in_iff.mpr (by first | omega | (simp only [Int32.lt_iff_toInt_lt, Int32.le_iff_toInt_le, Int32.reduceToInt, ← Int32.toInt_inj, true_and, and_true, or_true, true_or, false_or, or_false, false_and, and_false, not_true_eq_false, not_false_eq_true] <;> omega))) dX12_readLoss_149 (fun f_1267 hf_1268 hk_1269 => ?_)
                  have hW_1271 := hW_1230.up hf_1268 hk_1269 t_23 ⟨_, rfl, (o_f.up (by first | omega | (simp only [Int32.lt_iff_toInt_lt, Int32.le_iff_toInt_le, Int32.reduceToInt, ← Int32.toInt_inj, true_and, and_true, or_true, true_or, false_or, or_false, false_and, and_false, not_true_eq_false, not_false_eq_true] <;> omega)) (fun q1 q2 => (by first | omega | (simp only [Int32.lt_iff_toInt_lt, Int32.le_iff_toInt_le, Int32.reduceToInt, ← Int32.toInt_inj] at *; omega))) (fun k9 q1 q2 q3 => (by first | omega | (simp only [Int32.lt_iff_toInt_lt, Int32.le_iff_toInt_le, Int32.reduceToInt, ← Int32.toInt_inj] at *; omega))))⟩
                  obtain ⟨g_1270, hf_1268, ok_1272, eg_1273⟩ : ∃ g9, f_1267 (q 14) = aI E 2076 g9 ∧ FOK g9 ∧ g9 = upd g_f (v_49 : Int32).toNatClampNeg 0 := ⟨_, hf_1268, (o_f.up (by first | omega | (simp only [Int32.lt_iff_toInt_lt, Int32.le_iff_toInt_le, Int32.reduceToInt, ← Int32.toInt_inj, true_and, and_true, or_true, true_or, false_or, or_false, false_and, and_false, not_true_eq_false, not_false_eq_true] <;> omega)) (fun q1 q2 => (by first | omega | (simp only [Int32.lt_iff_toInt_lt, Int32.le_iff_toInt_le, Int32.reduceToInt, ← Int32.toInt_inj] at *; omega))) (fun k9 q1 q2 q3 => (by first | omega | (simp only [Int32.lt_iff_toInt_lt, Int32.le_iff_toInt_le, Int32.reduceToInt, ← Int32.toInt_inj] at *; omega)))), rfl⟩
                  have hf_1274 := (hk_1269 a_0 (ne_kd e_1234 hf_1233 rfl)).trans e_1234
                  have fr_1275 := FR.w hk_1269 hf_1233 (k := 2176) rfl
                  have lk_1276 := lk_at (g0 := g_f) eg_1273 (by omega) (by omega)
                  have ag_1277 := (AG.rf o_f).st eg_1273 (by omega) (by omega)
                  try simp only [Int32.reduceToInt] at lk_1276
                  refine v_aload_n hC dX12_readLoss_150 rfl ?_
                  refine v_get hC fl_X12_34 m_1 hf_1274 rfl dX12_readLoss_151 ?_
                  refine v_iload_n hC dX12_readLoss_154 rfl ?_
                  refine v_iconst hC dX12_readLoss_155 (v := 1) (by decide) ?_
                  obtain ⟨v_1278, h_1279⟩ : ∃ v9 : Int32, v_49 + 1 = v9 := ⟨_, rfl⟩
                  refine v_iadd hC dX12_readLoss_156 h_1279 ?_
                  have h_1280 := add_v h_1279 (by first | omega | (simp only [Int32.lt_iff_toInt_lt, Int32.le_iff_toInt_le, Int32.reduceToInt, ← Int32.toInt_inj, true_and, and_true, or_true, true_or, false_or, or_false, false_and, and_false, not_true_eq_false, not_false_eq_true] <;> omega)) (by first | omega | (simp only [Int32.lt_iff_toInt_lt, Int32.le_iff_toInt_le, Int32.reduceToInt, ← Int32.toInt_inj, true_and, and_true, or_true, true_or, false_or, or_false, false_and, and_false, not_true_eq_false, not_false_eq_true] <;> omega))
                  try simp only [Int32.reduceToInt] at h_1280
                  refine v_aload_n hC dX12_readLoss_157 rfl ?_
                  refine v_iconst hC dX12_readLoss_158 (v := 0) (by decide) ?_
                  refine v_bipush hC dX12_readLoss_159 (v := 15) (by decide) ?_
                  refine v_vi hC (rest := [.int v_1278, .ref (q 14)]) m_1 hf_1274 rfl mi_X12_number ms_X12_number (p_X12_number hW_1271 k_0) mx_X12_number ml_X12_170 (by decide) rfl (cells1 := 0) (slots1 := 0) (by decide) (by decide) (Nat.le_of_ble_eq_true rfl) (Nat.le_of_ble_eq_true rfl) rfl (Nat.le_of_ble_eq_true rfl) dX12_readLoss_161 (fun r_1281 L_1282 f_1283 h_1284 => ?_)
                  obtain ⟨rfl, hW_1286, hF_1287, -, -, -, -, -, x_1285⟩ := h_1284
                  have fe_1288 : fld (f_1267 a_0) 8 = (v_1240 : Int32).toInt := by rw [hf_1274]; rfl
                  have fe_1289 : fld (f_1267 a_0) 10 = (v_1244 : Int32).toInt := by rw [hf_1274]; rfl
                  have fe_1290 : fld (f_1267 a_0) 12 = (v_1247 : Int32).toInt := by rw [hf_1274]; rfl
                  have hf_1291 := hF_1287.at hf_1268 rfl
                  obtain ⟨v_1293, v_1294, v_1296, v_1298, v_1300, v_1302, v_1304, v_1305, v_1306, v_1307, v_1309, e_1292, b_1295, b_1297, b_1299, b_1301, b_1303, b_1308, b_1310⟩ := hW_1286.at m_1 t_2
                  have fe_1311 : fld (f_1283 a_0) 8 = (v_1298 : Int32).toInt := by rw [e_1292]; rfl
                  have fe_1312 : fld (f_1283 a_0) 9 = (v_1300 : Int32).toInt := by rw [e_1292]; rfl
                  have fe_1313 : fld (f_1283 a_0) 10 = (v_1302 : Int32).toInt := by rw [e_1292]; rfl
                  have fe_1314 : fld (f_1283 a_0) 12 = (v_1305 : Int32).toInt := by rw [e_1292]; rfl
                  rw [fe_1314, fe_1290, fe_1289, fe_1288, fe_1312, fe_1311, fe_1313] at x_1285
                  have nb_1315 : ¬ (v_1305 : Int32).toInt = 0 := x_1285.elim id (fun h9 => absurd h9.1 g0_1265)
                  clear x_1285
                  clear fe_1288 fe_1289 fe_1290 fe_1311 fe_1312 fe_1313 fe_1314
                  try simp only [Int32.reduceToInt, Int64.reduceToInt] at x_1285
                  refine v_iast hC m_22 hf_1291 (vp_in_iff.mpr (by first | omega | (simp only [Int32.lt_iff_toInt_lt, Int32.le_iff_toInt_le, Int32.reduceToInt, ← Int32.toInt_inj, true_and, and_true, or_true, true_or, false_or, or_false, false_and, and_false, not_true_eq_false, not_false_eq_true] <;> omega))) dX12_readLoss_164 (fun f_1316 hf_1317 hk_1318 => ?_)
                  have hW_1320 := hW_1286.up hf_1317 hk_1318 t_23 ⟨_, rfl, (ok_1272.up (by first | omega | (simp only [Int32.lt_iff_toInt_lt, Int32.le_iff_toInt_le, Int32.reduceToInt, ← Int32.toInt_inj, true_and, and_true, or_true, true_or, false_or, or_false, false_and, and_false, not_true_eq_false, not_false_eq_true] <;> omega)) (fun q1 q2 => (by first | omega | (simp only [Int32.lt_iff_toInt_lt, Int32.le_iff_toInt_le, Int32.reduceToInt, ← Int32.toInt_inj] at *; omega))) (fun k9 q1 q2 q3 => (by first | omega | (simp only [Int32.lt_iff_toInt_lt, Int32.le_iff_toInt_le, Int32.reduceToInt, ← Int32.toInt_inj] at *; omega))))⟩
                  obtain ⟨g_1319, hf_1317, ok_1321, eg_1322⟩ : ∃ g9, f_1316 (q 14) = aI E 2076 g9 ∧ FOK g9 ∧ g9 = upd g_1270 (v_1278 : Int32).toNatClampNeg r_1281 := ⟨_, hf_1317, (ok_1272.up (by first | omega | (simp only [Int32.lt_iff_toInt_lt, Int32.le_iff_toInt_le, Int32.reduceToInt, ← Int32.toInt_inj, true_and, and_true, or_true, true_or, false_or, or_false, false_and, and_false, not_true_eq_false, not_false_eq_true] <;> omega)) (fun q1 q2 => (by first | omega | (simp only [Int32.lt_iff_toInt_lt, Int32.le_iff_toInt_le, Int32.reduceToInt, ← Int32.toInt_inj] at *; omega))) (fun k9 q1 q2 q3 => (by first | omega | (simp only [Int32.lt_iff_toInt_lt, Int32.le_iff_toInt_le, Int32.reduceToInt, ← Int32.toInt_inj] at *; omega)))), rfl⟩
                  have hf_1323 := (hk_1318 a_0 (ne_kd e_1292 hf_1291 rfl)).trans e_1292
                  have fr_1324 := FR.w hk_1318 hf_1291 (k := 2176) rfl
                  have lk_1325 := lf_at (g0 := g_f) eg_1322 (by omega) (by omega)
                  have ag_1326 := ag_1277.st eg_1322 (by omega) (by omega)
                  try simp only [Int32.reduceToInt] at lk_1325
                  refine v_aload_n hC dX12_readLoss_165 rfl ?_
                  refine v_get hC fl_X12_34 m_1 hf_1323 rfl dX12_readLoss_166 ?_
                  refine v_iload_n hC dX12_readLoss_169 rfl ?_
                  refine v_iconst hC dX12_readLoss_170 (v := 2) (by decide) ?_
                  obtain ⟨v_1327, h_1328⟩ : ∃ v9 : Int32, v_49 + 2 = v9 := ⟨_, rfl⟩
                  refine v_iadd hC dX12_readLoss_171 h_1328 ?_
                  have h_1329 := add_v h_1328 (by first | omega | (simp only [Int32.lt_iff_toInt_lt, Int32.le_iff_toInt_le, Int32.reduceToInt, ← Int32.toInt_inj, true_and, and_true, or_true, true_or, false_or, or_false, false_and, and_false, not_true_eq_false, not_false_eq_true] <;> omega)) (by first | omega | (simp only [Int32.lt_iff_toInt_lt, Int32.le_iff_toInt_le, Int32.reduceToInt, ← Int32.toInt_inj, true_and, and_true, or_true, true_or, false_or, or_false, false_and, and_false, not_true_eq_false, not_false_eq_true] <;> omega))
                  try simp only [Int32.reduceToInt] at h_1329
                  refine v_aload_n hC dX12_readLoss_172 rfl ?_
                  refine v_ldcwS hC sr_X12_295 dX12_readLoss_173 ?_
                  refine v_aload_n hC dX12_readLoss_176 rfl ?_
                  refine v_get hC fl_X12_34 m_1 hf_1323 rfl dX12_readLoss_177 ?_
                  refine v_iload_n hC dX12_readLoss_180 rfl ?_
                  refine v_iconst hC dX12_readLoss_181 (v := 1) (by decide) ?_
                  obtain ⟨v_1330, h_1331⟩ : ∃ v9 : Int32, v_49 + 1 = v9 := ⟨_, rfl⟩
                  refine v_iadd hC dX12_readLoss_182 h_1331 ?_
                  have h_1332 := add_v h_1331 (by first | omega | (simp only [Int32.lt_iff_toInt_lt, Int32.le_iff_toInt_le, Int32.reduceToInt, ← Int32.toInt_inj, true_and, and_true, or_true, true_or, false_or, or_false, false_and, and_false, not_true_eq_false, not_false_eq_true] <;> omega)) (by first | omega | (simp only [Int32.lt_iff_toInt_lt, Int32.le_iff_toInt_le, Int32.reduceToInt, ← Int32.toInt_inj, true_and, and_true, or_true, true_or, false_or, or_false, false_and, and_false, not_true_eq_false, not_false_eq_true] <;> omega))
                  try simp only [Int32.reduceToInt] at h_1332
                  obtain ⟨v_1333, h_1334⟩ : ∃ v9 : Int32, g_1319 (v_1330 : Int32).toNatClampNeg = v9 := ⟨_, rfl⟩
                  refine v_iald hC m_22 hf_1317 (vp_in_iff.mpr (by first | omega | (simp only [Int32.lt_iff_toInt_lt, Int32.le_iff_toInt_le, Int32.reduceToInt, ← Int32.toInt_inj, true_and, and_true, or_true, true_or, false_or, or_false, false_and, and_false, not_true_eq_false, not_false_eq_true] <;> omega))) h_1334 dX12_readLoss_183 ?_
                  refine v_bipush hC dX12_readLoss_184 (v := 15) (by decide) ?_
                  refine v_vi hC (rest := [.int v_1327, .ref (q 14)]) m_1 hf_1323 rfl mi_X12_told ms_X12_told (p_X12_told hW_1320 k_0 (by decide)) mx_X12_told ml_X12_189 (by decide) rfl (cells1 := 0) (slots1 := 0) (by decide) (by decide) (Nat.le_of_ble_eq_true rfl) (Nat.le_of_ble_eq_true rfl) rfl (Nat.le_of_ble_eq_true rfl) dX12_readLoss_186 (fun r_1335 L_1336 f_1337 h_1338 => ?_)
                  obtain ⟨rfl, hW_1340, hF_1341, -, -, -, -, -, x_1339⟩ := h_1338
                  have fe_1342 : fld (f_1316 a_0) 8 = (v_1298 : Int32).toInt := by rw [hf_1323]; rfl
                  have fe_1343 : fld (f_1316 a_0) 12 = (v_1305 : Int32).toInt := by rw [hf_1323]; rfl
                  have hf_1344 := hF_1341.at hf_1317 rfl
                  obtain ⟨v_1346, v_1347, v_1349, v_1351, v_1353, v_1355, v_1357, v_1358, v_1359, v_1360, v_1362, e_1345, b_1348, b_1350, b_1352, b_1354, b_1356, b_1361, b_1363⟩ := hW_1340.at m_1 t_2
                  have fe_1364 : fld (f_1337 a_0) 8 = (v_1351 : Int32).toInt := by rw [e_1345]; rfl
                  have fe_1365 : fld (f_1337 a_0) 9 = (v_1353 : Int32).toInt := by rw [e_1345]; rfl
                  have fe_1366 : fld (f_1337 a_0) 10 = (v_1355 : Int32).toInt := by rw [e_1345]; rfl
                  have fe_1367 : fld (f_1337 a_0) 12 = (v_1358 : Int32).toInt := by rw [e_1345]; rfl
                  rw [fe_1367, fe_1343, fe_1342, fe_1365, fe_1364, fe_1366] at x_1339
                  have nb_1368 : ¬ (v_1358 : Int32).toInt = 0 := x_1339.elim id (fun h9 => absurd h9.1 nb_1315)
                  clear x_1339
                  clear fe_1342 fe_1343 fe_1364 fe_1365 fe_1366 fe_1367
                  try simp only [Int32.reduceToInt, Int64.reduceToInt] at x_1339
                  refine v_iast hC m_22 hf_1344 (vp_in_iff.mpr (by first | omega | (simp only [Int32.lt_iff_toInt_lt, Int32.le_iff_toInt_le, Int32.reduceToInt, ← Int32.toInt_inj, true_and, and_true, or_true, true_or, false_or, or_false, false_and, and_false, not_true_eq_false, not_false_eq_true] <;> omega))) dX12_readLoss_189 (fun f_1369 hf_1370 hk_1371 => ?_)
                  have hW_1373 := hW_1340.up hf_1370 hk_1371 t_23 ⟨_, rfl, (ok_1321.up (by first | omega | (simp only [Int32.lt_iff_toInt_lt, Int32.le_iff_toInt_le, Int32.reduceToInt, ← Int32.toInt_inj, true_and, and_true, or_true, true_or, false_or, or_false, false_and, and_false, not_true_eq_false, not_false_eq_true] <;> omega)) (fun q1 q2 => (by first | omega | (simp only [Int32.lt_iff_toInt_lt, Int32.le_iff_toInt_le, Int32.reduceToInt, ← Int32.toInt_inj] at *; omega))) (fun k9 q1 q2 q3 => (by first | omega | (simp only [Int32.lt_iff_toInt_lt, Int32.le_iff_toInt_le, Int32.reduceToInt, ← Int32.toInt_inj] at *; omega))))⟩
                  obtain ⟨g_1372, hf_1370, ok_1374, eg_1375⟩ : ∃ g9, f_1369 (q 14) = aI E 2076 g9 ∧ FOK g9 ∧ g9 = upd g_1319 (v_1327 : Int32).toNatClampNeg r_1335 := ⟨_, hf_1370, (ok_1321.up (by first | omega | (simp only [Int32.lt_iff_toInt_lt, Int32.le_iff_toInt_le, Int32.reduceToInt, ← Int32.toInt_inj, true_and, and_true, or_true, true_or, false_or, or_false, false_and, and_false, not_true_eq_false, not_false_eq_true] <;> omega)) (fun q1 q2 => (by first | omega | (simp only [Int32.lt_iff_toInt_lt, Int32.le_iff_toInt_le, Int32.reduceToInt, ← Int32.toInt_inj] at *; omega))) (fun k9 q1 q2 q3 => (by first | omega | (simp only [Int32.lt_iff_toInt_lt, Int32.le_iff_toInt_le, Int32.reduceToInt, ← Int32.toInt_inj] at *; omega)))), rfl⟩
                  have hf_1376 := (hk_1371 a_0 (ne_kd e_1345 hf_1344 rfl)).trans e_1345
                  have fr_1377 := FR.w hk_1371 hf_1344 (k := 2176) rfl
                  have lk_1378 := l2_at (g0 := g_f) eg_1375 (by omega) (by omega)
                  have ag_1379 := ag_1326.st eg_1375 (by omega) (by omega)
                  try simp only [Int32.reduceToInt] at lk_1378
                  refine v_goto hC dX12_readLoss_190 (tgt := 258) (by decide) ?_
                  refine v_aload_n hC dX12_readLoss_258 rfl ?_
                  refine v_vv hC (rest := []) m_1 hf_1376 rfl mi_X12_ends ms_X12_ends (p_X12_ends hW_1373 k_0) mx_X12_ends ml_X12_178 (by decide) rfl (cells1 := 0) (slots1 := 0) (by decide) (by decide) (Nat.le_of_ble_eq_true rfl) (Nat.le_of_ble_eq_true rfl) rfl (Nat.le_of_ble_eq_true rfl) dX12_readLoss_259 (fun L_1381 f_1382 h_1383 => ?_)
                  obtain ⟨rfl, hW_1385, hF_1386, -, -, -, -, x_1384⟩ := h_1383
                  have fe_1387 : fld (f_1369 a_0) 8 = (v_1351 : Int32).toInt := by rw [hf_1376]; rfl
                  have fe_1388 : fld (f_1369 a_0) 10 = (v_1355 : Int32).toInt := by rw [hf_1376]; rfl
                  have fe_1389 : fld (f_1369 a_0) 12 = (v_1358 : Int32).toInt := by rw [hf_1376]; rfl
                  have hf_1390 := hF_1386.at hf_1370 rfl
                  obtain ⟨v_1392, v_1393, v_1395, v_1397, v_1399, v_1401, v_1403, v_1404, v_1405, v_1406, v_1408, e_1391, b_1394, b_1396, b_1398, b_1400, b_1402, b_1407, b_1409⟩ := hW_1385.at m_1 t_2
                  have fe_1410 : fld (f_1382 a_0) 8 = (v_1397 : Int32).toInt := by rw [e_1391]; rfl
                  have fe_1411 : fld (f_1382 a_0) 9 = (v_1399 : Int32).toInt := by rw [e_1391]; rfl
                  have fe_1412 : fld (f_1382 a_0) 10 = (v_1401 : Int32).toInt := by rw [e_1391]; rfl
                  have fe_1413 : fld (f_1382 a_0) 12 = (v_1404 : Int32).toInt := by rw [e_1391]; rfl
                  rw [fe_1413, fe_1389, fe_1388, fe_1387, fe_1411, fe_1410, fe_1412] at x_1384
                  have nb_1414 : ¬ (v_1404 : Int32).toInt = 0 := x_1384.elim id (fun h9 => absurd h9.1 nb_1368)
                  clear x_1384
                  clear fe_1387 fe_1388 fe_1389 fe_1410 fe_1411 fe_1412 fe_1413
                  refine v_aload_n hC dX12_readLoss_262 rfl ?_
                  refine v_get hC fl_X12_34 m_1 e_1391 rfl dX12_readLoss_263 ?_
                  refine v_bipush hC dX12_readLoss_266 (v := 6) (by decide) ?_
                  refine v_dup2 hC dX12_readLoss_268 rfl rfl ?_
                  have l6_1415 : (g_1372 6).toInt = (g_f 6).toInt := congrArg Int32.toInt ag_1379.2.1
                  refine v_iald hC m_22 hf_1390 (vp_in_iff.mpr (by decide)) (v := g_1372 6) rfl dX12_readLoss_269 ?_
                  refine v_iconst hC dX12_readLoss_270 (v := 1) (by decide) ?_
                  obtain ⟨v_1416, h_1417⟩ : ∃ v9 : Int32, (g_1372 6) + 1 = v9 := ⟨_, rfl⟩
                  refine v_iadd hC dX12_readLoss_271 h_1417 ?_
                  have h_1418 := add_v h_1417 (by first | omega | (simp only [Int32.lt_iff_toInt_lt, Int32.le_iff_toInt_le, Int32.reduceToInt, ← Int32.toInt_inj, true_and, and_true, or_true, true_or, false_or, or_false, false_and, and_false, not_true_eq_false, not_false_eq_true] <;> omega)) (by first | omega | (simp only [Int32.lt_iff_toInt_lt, Int32.le_iff_toInt_le, Int32.reduceToInt, ← Int32.toInt_inj, true_and, and_true, or_true, true_or, false_or, or_false, false_and, and_false, not_true_eq_false, not_false_eq_true] <;> omega))
                  try simp only [Int32.reduceToInt] at h_1418
                  refine v_iast hC m_22 hf_1390 (vp_in_iff.mpr (by decide)) dX12_readLoss_272 (fun f_1419 hf_1420 hk_1421 => ?_)
                  have hW_1423 := hW_1385.up hf_1420 hk_1421 t_23 ⟨_, rfl, (ok_1374.up (i := 6) (by decide) (fun q1 q2 => absurd (And.intro q1 q2) (by decide)) (fun k9 q1 q2 q3 => by simp only [Int32.reduceToInt] at q3; omega))⟩
                  obtain ⟨g_1422, hf_1420, ok_1424, eg_1425⟩ : ∃ g9, f_1419 (q 14) = aI E 2076 g9 ∧ FOK g9 ∧ g9 = upd g_1372 (6 : Int32).toNatClampNeg v_1416 := ⟨_, hf_1420, (ok_1374.up (i := 6) (by decide) (fun q1 q2 => absurd (And.intro q1 q2) (by decide)) (fun k9 q1 q2 q3 => by simp only [Int32.reduceToInt] at q3; omega)), rfl⟩
                  have hf_1426 := (hk_1421 a_0 (ne_kd e_1391 hf_1390 rfl)).trans e_1391
                  have fr_1427 := FR.w hk_1421 hf_1390 (k := 2176) rfl
                  have ln6_1428 := FOK.n6 ag_1379.1 eg_1425
                  have ln6_1428_t : (g_1422 6).toInt = v_1416.toInt := congrArg Int32.toInt ln6_1428.2
                  have fe_1429 : fld (f_1419 a_0) 12 = (v_1404 : Int32).toInt := by rw [hf_1426]; rfl
                  have fe_1430 : fld (f_1419 a_0) 8 = (v_1397 : Int32).toInt := by rw [hf_1426]; rfl
                  have fe_1431 : fld (f_1419 a_0) 12 = (v_1404 : Int32).toInt := by rw [hf_1426]; rfl
                  have fe_1432 : fld (f_1419 a_0) 20 = (v_1408 : Int32).toInt := by rw [hf_1426]; rfl
                  exact hR _ _ _ _ _ _ dX12_readLoss_273 (Nat.le_of_ble_eq_true rfl) (Nat.le_of_ble_eq_true rfl) ⟨rfl, hW_1423, (((((((((hF_98.tr hF_1231).tr fr_1275).tr hF_1287).tr fr_1324).tr hF_1341).tr fr_1377).tr hF_1386).tr fr_1427).mono rfl), ⟨_, hf_1420, ln6_1428.1, (by omega), (by rw [fe_1429]; exact .inl nb_1414)⟩, (by rw [fe_1430, fe_1431, mz_43, mz_44]; exact .inl nb_1414), (by simp only [fe_1432, mz_45, true_and, and_true, or_true, true_or, false_or, or_false, false_and, and_false, not_true_eq_false, not_false_eq_true] <;> first | omega | (simp only [Int32.lt_iff_toInt_lt, Int32.le_iff_toInt_le, Int32.reduceToInt, ← Int32.toInt_inj, true_and, and_true, or_true, true_or, false_or, or_false, false_and, and_false, not_true_eq_false, not_false_eq_true] <;> omega))⟩
                · simp only [Int32.lt_iff_toInt_lt, Int32.le_iff_toInt_le, Int32.reduceToInt, ← Int32.toInt_inj] at h_1264
                  have g0_1266 := gd_t x_1260 h_1264
                  clear x_1260
                  refine v_aload_n hC dX12_readLoss_131 rfl ?_
                  refine v_vv hC (rest := []) m_1 e_1234 rfl mi_X12_advance ms_X12_advance (p_X12_advance hW_1230 k_0) mx_X12_advance ml_X12_156 (by decide) rfl (cells1 := 0) (slots1 := 0) (by decide) (by decide) (Nat.le_of_ble_eq_true rfl) (Nat.le_of_ble_eq_true rfl) rfl (Nat.le_of_ble_eq_true rfl) dX12_readLoss_132 (fun L_1434 f_1435 h_1436 => ?_)
                  obtain ⟨rfl, hW_1440, hF_1441, x_1437, x_1438, x_1439, -⟩ := h_1436
                  have fe_1442 : fld (f_1226 a_0) 8 = (v_1240 : Int32).toInt := by rw [e_1234]; rfl
                  have fe_1443 : fld (f_1226 a_0) 12 = (v_1247 : Int32).toInt := by rw [e_1234]; rfl
                  have hf_1444 := hF_1441.at hf_1233 rfl
                  obtain ⟨v_1446, v_1447, v_1449, v_1451, v_1453, v_1455, v_1457, v_1458, v_1459, v_1460, v_1462, e_1445, b_1448, b_1450, b_1452, b_1454, b_1456, b_1461, b_1463⟩ := hW_1440.at m_1 t_2
                  have fe_1464 : fld (f_1435 a_0) 8 = (v_1451 : Int32).toInt := by rw [e_1445]; rfl
                  have fe_1465 : fld (f_1435 a_0) 9 = (v_1453 : Int32).toInt := by rw [e_1445]; rfl
                  have fe_1466 : fld (f_1435 a_0) 10 = (v_1455 : Int32).toInt := by rw [e_1445]; rfl
                  have fe_1467 : fld (f_1435 a_0) 12 = (v_1458 : Int32).toInt := by rw [e_1445]; rfl
                  rw [fe_1442, fe_1465, fe_1464] at x_1437
                  rw [fe_1466, fe_1465, fe_1464] at x_1438
                  rw [fe_1467, fe_1443] at x_1439
                  clear fe_1442 fe_1443 fe_1464 fe_1465 fe_1466 fe_1467
                  refine v_aload_n hC dX12_readLoss_135 rfl ?_
                  refine v_get hC fl_X12_34 m_1 e_1445 rfl dX12_readLoss_136 ?_
                  refine v_iload_n hC dX12_readLoss_139 rfl ?_
                  refine v_iload_n hC dX12_readLoss_140 rfl ?_
                  refine v_if_eq_t hC dX12_readLoss_141 (tgt := 148) (by decide) (by first | omega | (simp only [Int32.lt_iff_toInt_lt, Int32.le_iff_toInt_le, Int32.reduceToInt, ← Int32.toInt_inj, true_and, and_true, or_true, true_or, false_or, or_false, false_and, and_false, not_true_eq_false, not_false_eq_true] <;> omega)) ?_
                  refine v_iconst hC dX12_readLoss_148 (v := 0) (by decide) ?_
                  refine v_iast hC m_22 hf_1444 (vp_in_iff.mpr (by first | omega | (simp only [Int32.lt_iff_toInt_lt, Int32.le_iff_toInt_le, Int32.reduceToInt, ← Int32.toInt_inj, true_and, and_true, or_true, true_or, false_or, or_false, false_and, and_false, not_true_eq_false, not_false_eq_true] <;> omega))) dX12_readLoss_149 (fun f_1468 hf_1469 hk_1470 => ?_)
                  have hW_1472 := hW_1440.up hf_1469 hk_1470 t_23 ⟨_, rfl, (o_f.up (by first | omega | (simp only [Int32.lt_iff_toInt_lt, Int32.le_iff_toInt_le, Int32.reduceToInt, ← Int32.toInt_inj, true_and, and_true, or_true, true_or, false_or, or_false, false_and, and_false, not_true_eq_false, not_false_eq_true] <;> omega)) (fun q1 q2 => (by first | omega | (simp only [Int32.lt_iff_toInt_lt, Int32.le_iff_toInt_le, Int32.reduceToInt, ← Int32.toInt_inj] at *; omega))) (fun k9 q1 q2 q3 => (by first | omega | (simp only [Int32.lt_iff_toInt_lt, Int32.le_iff_toInt_le, Int32.reduceToInt, ← Int32.toInt_inj] at *; omega))))⟩
                  obtain ⟨g_1471, hf_1469, ok_1473, eg_1474⟩ : ∃ g9, f_1468 (q 14) = aI E 2076 g9 ∧ FOK g9 ∧ g9 = upd g_f (v_49 : Int32).toNatClampNeg 0 := ⟨_, hf_1469, (o_f.up (by first | omega | (simp only [Int32.lt_iff_toInt_lt, Int32.le_iff_toInt_le, Int32.reduceToInt, ← Int32.toInt_inj, true_and, and_true, or_true, true_or, false_or, or_false, false_and, and_false, not_true_eq_false, not_false_eq_true] <;> omega)) (fun q1 q2 => (by first | omega | (simp only [Int32.lt_iff_toInt_lt, Int32.le_iff_toInt_le, Int32.reduceToInt, ← Int32.toInt_inj] at *; omega))) (fun k9 q1 q2 q3 => (by first | omega | (simp only [Int32.lt_iff_toInt_lt, Int32.le_iff_toInt_le, Int32.reduceToInt, ← Int32.toInt_inj] at *; omega)))), rfl⟩
                  have hf_1475 := (hk_1470 a_0 (ne_kd e_1445 hf_1444 rfl)).trans e_1445
                  have fr_1476 := FR.w hk_1470 hf_1444 (k := 2176) rfl
                  have lk_1477 := lk_at (g0 := g_f) eg_1474 (by omega) (by omega)
                  have ag_1478 := (AG.rf o_f).st eg_1474 (by omega) (by omega)
                  try simp only [Int32.reduceToInt] at lk_1477
                  refine v_aload_n hC dX12_readLoss_150 rfl ?_
                  refine v_get hC fl_X12_34 m_1 hf_1475 rfl dX12_readLoss_151 ?_
                  refine v_iload_n hC dX12_readLoss_154 rfl ?_
                  refine v_iconst hC dX12_readLoss_155 (v := 1) (by decide) ?_
                  obtain ⟨v_1479, h_1480⟩ : ∃ v9 : Int32, v_49 + 1 = v9 := ⟨_, rfl⟩
                  refine v_iadd hC dX12_readLoss_156 h_1480 ?_
                  have h_1481 := add_v h_1480 (by first | omega | (simp only [Int32.lt_iff_toInt_lt, Int32.le_iff_toInt_le, Int32.reduceToInt, ← Int32.toInt_inj, true_and, and_true, or_true, true_or, false_or, or_false, false_and, and_false, not_true_eq_false, not_false_eq_true] <;> omega)) (by first | omega | (simp only [Int32.lt_iff_toInt_lt, Int32.le_iff_toInt_le, Int32.reduceToInt, ← Int32.toInt_inj, true_and, and_true, or_true, true_or, false_or, or_false, false_and, and_false, not_true_eq_false, not_false_eq_true] <;> omega))
                  try simp only [Int32.reduceToInt] at h_1481
                  refine v_aload_n hC dX12_readLoss_157 rfl ?_
                  refine v_iconst hC dX12_readLoss_158 (v := 0) (by decide) ?_
                  refine v_bipush hC dX12_readLoss_159 (v := 15) (by decide) ?_
                  refine v_vi hC (rest := [.int v_1479, .ref (q 14)]) m_1 hf_1475 rfl mi_X12_number ms_X12_number (p_X12_number hW_1472 k_0) mx_X12_number ml_X12_170 (by decide) rfl (cells1 := 0) (slots1 := 0) (by decide) (by decide) (Nat.le_of_ble_eq_true rfl) (Nat.le_of_ble_eq_true rfl) rfl (Nat.le_of_ble_eq_true rfl) dX12_readLoss_161 (fun r_1482 L_1483 f_1484 h_1485 => ?_)
                  obtain ⟨rfl, hW_1487, hF_1488, -, -, -, -, -, x_1486⟩ := h_1485
                  have fe_1489 : fld (f_1468 a_0) 8 = (v_1451 : Int32).toInt := by rw [hf_1475]; rfl
                  have fe_1490 : fld (f_1468 a_0) 10 = (v_1455 : Int32).toInt := by rw [hf_1475]; rfl
                  have fe_1491 : fld (f_1468 a_0) 12 = (v_1458 : Int32).toInt := by rw [hf_1475]; rfl
                  have hf_1492 := hF_1488.at hf_1469 rfl
                  obtain ⟨v_1494, v_1495, v_1497, v_1499, v_1501, v_1503, v_1505, v_1506, v_1507, v_1508, v_1510, e_1493, b_1496, b_1498, b_1500, b_1502, b_1504, b_1509, b_1511⟩ := hW_1487.at m_1 t_2
                  have fe_1512 : fld (f_1484 a_0) 8 = (v_1499 : Int32).toInt := by rw [e_1493]; rfl
                  have fe_1513 : fld (f_1484 a_0) 9 = (v_1501 : Int32).toInt := by rw [e_1493]; rfl
                  have fe_1514 : fld (f_1484 a_0) 10 = (v_1503 : Int32).toInt := by rw [e_1493]; rfl
                  have fe_1515 : fld (f_1484 a_0) 12 = (v_1506 : Int32).toInt := by rw [e_1493]; rfl
                  rw [fe_1515, fe_1491, fe_1490, fe_1489, fe_1513, fe_1512, fe_1514] at x_1486
                  clear fe_1489 fe_1490 fe_1491 fe_1512 fe_1513 fe_1514 fe_1515
                  try simp only [Int32.reduceToInt, Int64.reduceToInt] at x_1486
                  refine v_iast hC m_22 hf_1492 (vp_in_iff.mpr (by first | omega | (simp only [Int32.lt_iff_toInt_lt, Int32.le_iff_toInt_le, Int32.reduceToInt, ← Int32.toInt_inj, true_and, and_true, or_true, true_or, false_or, or_false, false_and, and_false, not_true_eq_false, not_false_eq_true] <;> omega))) dX12_readLoss_164 (fun f_1516 hf_1517 hk_1518 => ?_)
                  have hW_1520 := hW_1487.up hf_1517 hk_1518 t_23 ⟨_, rfl, (ok_1473.up (by first | omega | (simp only [Int32.lt_iff_toInt_lt, Int32.le_iff_toInt_le, Int32.reduceToInt, ← Int32.toInt_inj, true_and, and_true, or_true, true_or, false_or, or_false, false_and, and_false, not_true_eq_false, not_false_eq_true] <;> omega)) (fun q1 q2 => (by first | omega | (simp only [Int32.lt_iff_toInt_lt, Int32.le_iff_toInt_le, Int32.reduceToInt, ← Int32.toInt_inj] at *; omega))) (fun k9 q1 q2 q3 => (by first | omega | (simp only [Int32.lt_iff_toInt_lt, Int32.le_iff_toInt_le, Int32.reduceToInt, ← Int32.toInt_inj] at *; omega))))⟩
                  obtain ⟨g_1519, hf_1517, ok_1521, eg_1522⟩ : ∃ g9, f_1516 (q 14) = aI E 2076 g9 ∧ FOK g9 ∧ g9 = upd g_1471 (v_1479 : Int32).toNatClampNeg r_1482 := ⟨_, hf_1517, (ok_1473.up (by first | omega | (simp only [Int32.lt_iff_toInt_lt, Int32.le_iff_toInt_le, Int32.reduceToInt, ← Int32.toInt_inj, true_and, and_true, or_true, true_or, false_or, or_false, false_and, and_false, not_true_eq_false, not_false_eq_true] <;> omega)) (fun q1 q2 => (by first | omega | (simp only [Int32.lt_iff_toInt_lt, Int32.le_iff_toInt_le, Int32.reduceToInt, ← Int32.toInt_inj] at *; omega))) (fun k9 q1 q2 q3 => (by first | omega | (simp only [Int32.lt_iff_toInt_lt, Int32.le_iff_toInt_le, Int32.reduceToInt, ← Int32.toInt_inj] at *; omega)))), rfl⟩
                  have hf_1523 := (hk_1518 a_0 (ne_kd e_1493 hf_1492 rfl)).trans e_1493
                  have fr_1524 := FR.w hk_1518 hf_1492 (k := 2176) rfl
                  have lk_1525 := lf_at (g0 := g_f) eg_1522 (by omega) (by omega)
                  have ag_1526 := ag_1478.st eg_1522 (by omega) (by omega)
                  try simp only [Int32.reduceToInt] at lk_1525
                  refine v_aload_n hC dX12_readLoss_165 rfl ?_
                  refine v_get hC fl_X12_34 m_1 hf_1523 rfl dX12_readLoss_166 ?_
                  refine v_iload_n hC dX12_readLoss_169 rfl ?_
                  refine v_iconst hC dX12_readLoss_170 (v := 2) (by decide) ?_
                  obtain ⟨v_1527, h_1528⟩ : ∃ v9 : Int32, v_49 + 2 = v9 := ⟨_, rfl⟩
                  refine v_iadd hC dX12_readLoss_171 h_1528 ?_
                  have h_1529 := add_v h_1528 (by first | omega | (simp only [Int32.lt_iff_toInt_lt, Int32.le_iff_toInt_le, Int32.reduceToInt, ← Int32.toInt_inj, true_and, and_true, or_true, true_or, false_or, or_false, false_and, and_false, not_true_eq_false, not_false_eq_true] <;> omega)) (by first | omega | (simp only [Int32.lt_iff_toInt_lt, Int32.le_iff_toInt_le, Int32.reduceToInt, ← Int32.toInt_inj, true_and, and_true, or_true, true_or, false_or, or_false, false_and, and_false, not_true_eq_false, not_false_eq_true] <;> omega))
                  try simp only [Int32.reduceToInt] at h_1529
                  refine v_aload_n hC dX12_readLoss_172 rfl ?_
                  refine v_ldcwS hC sr_X12_295 dX12_readLoss_173 ?_
                  refine v_aload_n hC dX12_readLoss_176 rfl ?_
                  refine v_get hC fl_X12_34 m_1 hf_1523 rfl dX12_readLoss_177 ?_
                  refine v_iload_n hC dX12_readLoss_180 rfl ?_
                  refine v_iconst hC dX12_readLoss_181 (v := 1) (by decide) ?_
                  obtain ⟨v_1530, h_1531⟩ : ∃ v9 : Int32, v_49 + 1 = v9 := ⟨_, rfl⟩
                  refine v_iadd hC dX12_readLoss_182 h_1531 ?_
                  have h_1532 := add_v h_1531 (by first | omega | (simp only [Int32.lt_iff_toInt_lt, Int32.le_iff_toInt_le, Int32.reduceToInt, ← Int32.toInt_inj, true_and, and_true, or_true, true_or, false_or, or_false, false_and, and_false, not_true_eq_false, not_false_eq_true] <;> omega)) (by first | omega | (simp only [Int32.lt_iff_toInt_lt, Int32.le_iff_toInt_le, Int32.reduceToInt, ← Int32.toInt_inj, true_and, and_true, or_true, true_or, false_or, or_false, false_and, and_false, not_true_eq_false, not_false_eq_true] <;> omega))
                  try simp only [Int32.reduceToInt] at h_1532
                  obtain ⟨v_1533, h_1534⟩ : ∃ v9 : Int32, g_1519 (v_1530 : Int32).toNatClampNeg = v9 := ⟨_, rfl⟩
                  refine v_iald hC m_22 hf_1517 (vp_in_iff.mpr (by first | omega | (simp only [Int32.lt_iff_toInt_lt, Int32.le_iff_toInt_le, Int32.reduceToInt, ← Int32.toInt_inj, true_and, and_true, or_true, true_or, false_or, or_false, false_and, and_false, not_true_eq_false, not_false_eq_true] <;> omega))) h_1534 dX12_readLoss_183 ?_
                  refine v_bipush hC dX12_readLoss_184 (v := 15) (by decide) ?_
                  refine v_vi hC (rest := [.int v_1527, .ref (q 14)]) m_1 hf_1523 rfl mi_X12_told ms_X12_told (p_X12_told hW_1520 k_0 (by decide)) mx_X12_told ml_X12_189 (by decide) rfl (cells1 := 0) (slots1 := 0) (by decide) (by decide) (Nat.le_of_ble_eq_true rfl) (Nat.le_of_ble_eq_true rfl) rfl (Nat.le_of_ble_eq_true rfl) dX12_readLoss_186 (fun r_1535 L_1536 f_1537 h_1538 => ?_)
                  obtain ⟨rfl, hW_1540, hF_1541, -, -, -, -, -, x_1539⟩ := h_1538
                  have fe_1542 : fld (f_1516 a_0) 8 = (v_1499 : Int32).toInt := by rw [hf_1523]; rfl
                  have fe_1543 : fld (f_1516 a_0) 12 = (v_1506 : Int32).toInt := by rw [hf_1523]; rfl
                  have hf_1544 := hF_1541.at hf_1517 rfl
                  obtain ⟨v_1546, v_1547, v_1549, v_1551, v_1553, v_1555, v_1557, v_1558, v_1559, v_1560, v_1562, e_1545, b_1548, b_1550, b_1552, b_1554, b_1556, b_1561, b_1563⟩ := hW_1540.at m_1 t_2
                  have fe_1564 : fld (f_1537 a_0) 8 = (v_1551 : Int32).toInt := by rw [e_1545]; rfl
                  have fe_1565 : fld (f_1537 a_0) 9 = (v_1553 : Int32).toInt := by rw [e_1545]; rfl
                  have fe_1566 : fld (f_1537 a_0) 10 = (v_1555 : Int32).toInt := by rw [e_1545]; rfl
                  have fe_1567 : fld (f_1537 a_0) 12 = (v_1558 : Int32).toInt := by rw [e_1545]; rfl
                  rw [fe_1567, fe_1543, fe_1542, fe_1565, fe_1564, fe_1566] at x_1539
                  clear fe_1542 fe_1543 fe_1564 fe_1565 fe_1566 fe_1567
                  try simp only [Int32.reduceToInt, Int64.reduceToInt] at x_1539
                  refine v_iast hC m_22 hf_1544 (vp_in_iff.mpr (by first | omega | (simp only [Int32.lt_iff_toInt_lt, Int32.le_iff_toInt_le, Int32.reduceToInt, ← Int32.toInt_inj, true_and, and_true, or_true, true_or, false_or, or_false, false_and, and_false, not_true_eq_false, not_false_eq_true] <;> omega))) dX12_readLoss_189 (fun f_1568 hf_1569 hk_1570 => ?_)
                  have hW_1572 := hW_1540.up hf_1569 hk_1570 t_23 ⟨_, rfl, (ok_1521.up (by first | omega | (simp only [Int32.lt_iff_toInt_lt, Int32.le_iff_toInt_le, Int32.reduceToInt, ← Int32.toInt_inj, true_and, and_true, or_true, true_or, false_or, or_false, false_and, and_false, not_true_eq_false, not_false_eq_true] <;> omega)) (fun q1 q2 => (by first | omega | (simp only [Int32.lt_iff_toInt_lt, Int32.le_iff_toInt_le, Int32.reduceToInt, ← Int32.toInt_inj] at *; omega))) (fun k9 q1 q2 q3 => (by first | omega | (simp only [Int32.lt_iff_toInt_lt, Int32.le_iff_toInt_le, Int32.reduceToInt, ← Int32.toInt_inj] at *; omega))))⟩
                  obtain ⟨g_1571, hf_1569, ok_1573, eg_1574⟩ : ∃ g9, f_1568 (q 14) = aI E 2076 g9 ∧ FOK g9 ∧ g9 = upd g_1519 (v_1527 : Int32).toNatClampNeg r_1535 := ⟨_, hf_1569, (ok_1521.up (by first | omega | (simp only [Int32.lt_iff_toInt_lt, Int32.le_iff_toInt_le, Int32.reduceToInt, ← Int32.toInt_inj, true_and, and_true, or_true, true_or, false_or, or_false, false_and, and_false, not_true_eq_false, not_false_eq_true] <;> omega)) (fun q1 q2 => (by first | omega | (simp only [Int32.lt_iff_toInt_lt, Int32.le_iff_toInt_le, Int32.reduceToInt, ← Int32.toInt_inj] at *; omega))) (fun k9 q1 q2 q3 => (by first | omega | (simp only [Int32.lt_iff_toInt_lt, Int32.le_iff_toInt_le, Int32.reduceToInt, ← Int32.toInt_inj] at *; omega)))), rfl⟩
                  have hf_1575 := (hk_1570 a_0 (ne_kd e_1545 hf_1544 rfl)).trans e_1545
                  have fr_1576 := FR.w hk_1570 hf_1544 (k := 2176) rfl
                  have lk_1577 := l2_at (g0 := g_f) eg_1574 (by omega) (by omega)
                  have ag_1578 := ag_1526.st eg_1574 (by omega) (by omega)
                  try simp only [Int32.reduceToInt] at lk_1577
                  refine v_goto hC dX12_readLoss_190 (tgt := 258) (by decide) ?_
                  refine v_aload_n hC dX12_readLoss_258 rfl ?_
                  refine v_vv hC (rest := []) m_1 hf_1575 rfl mi_X12_ends ms_X12_ends (p_X12_ends hW_1572 k_0) mx_X12_ends ml_X12_178 (by decide) rfl (cells1 := 0) (slots1 := 0) (by decide) (by decide) (Nat.le_of_ble_eq_true rfl) (Nat.le_of_ble_eq_true rfl) rfl (Nat.le_of_ble_eq_true rfl) dX12_readLoss_259 (fun L_1580 f_1581 h_1582 => ?_)
                  obtain ⟨rfl, hW_1584, hF_1585, -, -, -, -, x_1583⟩ := h_1582
                  have fe_1586 : fld (f_1568 a_0) 8 = (v_1551 : Int32).toInt := by rw [hf_1575]; rfl
                  have fe_1587 : fld (f_1568 a_0) 10 = (v_1555 : Int32).toInt := by rw [hf_1575]; rfl
                  have fe_1588 : fld (f_1568 a_0) 12 = (v_1558 : Int32).toInt := by rw [hf_1575]; rfl
                  have hf_1589 := hF_1585.at hf_1569 rfl
                  obtain ⟨v_1591, v_1592, v_1594, v_1596, v_1598, v_1600, v_1602, v_1603, v_1604, v_1605, v_1607, e_1590, b_1593, b_1595, b_1597, b_1599, b_1601, b_1606, b_1608⟩ := hW_1584.at m_1 t_2
                  have fe_1609 : fld (f_1581 a_0) 8 = (v_1596 : Int32).toInt := by rw [e_1590]; rfl
                  have fe_1610 : fld (f_1581 a_0) 9 = (v_1598 : Int32).toInt := by rw [e_1590]; rfl
                  have fe_1611 : fld (f_1581 a_0) 10 = (v_1600 : Int32).toInt := by rw [e_1590]; rfl
                  have fe_1612 : fld (f_1581 a_0) 12 = (v_1603 : Int32).toInt := by rw [e_1590]; rfl
                  rw [fe_1612, fe_1588, fe_1587, fe_1586, fe_1610, fe_1609, fe_1611] at x_1583
                  clear fe_1586 fe_1587 fe_1588 fe_1609 fe_1610 fe_1611 fe_1612
                  refine v_aload_n hC dX12_readLoss_262 rfl ?_
                  refine v_get hC fl_X12_34 m_1 e_1590 rfl dX12_readLoss_263 ?_
                  refine v_bipush hC dX12_readLoss_266 (v := 6) (by decide) ?_
                  refine v_dup2 hC dX12_readLoss_268 rfl rfl ?_
                  have l6_1613 : (g_1571 6).toInt = (g_f 6).toInt := congrArg Int32.toInt ag_1578.2.1
                  refine v_iald hC m_22 hf_1589 (vp_in_iff.mpr (by decide)) (v := g_1571 6) rfl dX12_readLoss_269 ?_
                  refine v_iconst hC dX12_readLoss_270 (v := 1) (by decide) ?_
                  obtain ⟨v_1614, h_1615⟩ : ∃ v9 : Int32, (g_1571 6) + 1 = v9 := ⟨_, rfl⟩
                  refine v_iadd hC dX12_readLoss_271 h_1615 ?_
                  have h_1616 := add_v h_1615 (by first | omega | (simp only [Int32.lt_iff_toInt_lt, Int32.le_iff_toInt_le, Int32.reduceToInt, ← Int32.toInt_inj, true_and, and_true, or_true, true_or, false_or, or_false, false_and, and_false, not_true_eq_false, not_false_eq_true] <;> omega)) (by first | omega | (simp only [Int32.lt_iff_toInt_lt, Int32.le_iff_toInt_le, Int32.reduceToInt, ← Int32.toInt_inj, true_and, and_true, or_true, true_or, false_or, or_false, false_and, and_false, not_true_eq_false, not_false_eq_true] <;> omega))
                  try simp only [Int32.reduceToInt] at h_1616
                  refine v_iast hC m_22 hf_1589 (vp_in_iff.mpr (by decide)) dX12_readLoss_272 (fun f_1617 hf_1618 hk_1619 => ?_)
                  have hW_1621 := hW_1584.up hf_1618 hk_1619 t_23 ⟨_, rfl, (ok_1573.up (i := 6) (by decide) (fun q1 q2 => absurd (And.intro q1 q2) (by decide)) (fun k9 q1 q2 q3 => by simp only [Int32.reduceToInt] at q3; omega))⟩
                  obtain ⟨g_1620, hf_1618, ok_1622, eg_1623⟩ : ∃ g9, f_1617 (q 14) = aI E 2076 g9 ∧ FOK g9 ∧ g9 = upd g_1571 (6 : Int32).toNatClampNeg v_1614 := ⟨_, hf_1618, (ok_1573.up (i := 6) (by decide) (fun q1 q2 => absurd (And.intro q1 q2) (by decide)) (fun k9 q1 q2 q3 => by simp only [Int32.reduceToInt] at q3; omega)), rfl⟩
                  have hf_1624 := (hk_1619 a_0 (ne_kd e_1590 hf_1589 rfl)).trans e_1590
                  have fr_1625 := FR.w hk_1619 hf_1589 (k := 2176) rfl
                  have ln6_1626 := FOK.n6 ag_1578.1 eg_1623
                  have ln6_1626_t : (g_1620 6).toInt = v_1614.toInt := congrArg Int32.toInt ln6_1626.2
                  have fe_1627 : fld (f_1617 a_0) 12 = (v_1603 : Int32).toInt := by rw [hf_1624]; rfl
                  have fe_1632 : fld (f_1617 a_0) 8 = (v_1596 : Int32).toInt := by rw [hf_1624]; rfl
                  have fe_1633 : fld (f_1617 a_0) 12 = (v_1603 : Int32).toInt := by rw [hf_1624]; rfl
                  have fe_1638 : fld (f_1617 a_0) 20 = (v_1607 : Int32).toInt := by rw [hf_1624]; rfl
                  exact hR _ _ _ _ _ _ dX12_readLoss_273 (Nat.le_of_ble_eq_true rfl) (Nat.le_of_ble_eq_true rfl) ⟨rfl, hW_1621, ((((((((((hF_98.tr hF_1231).tr hF_1441).tr fr_1476).tr hF_1488).tr fr_1524).tr hF_1541).tr fr_1576).tr hF_1585).tr fr_1625).mono rfl), ⟨_, hf_1618, ln6_1626.1, (by omega), (by rw [fe_1627]; by_cases q9 : v_1603.toInt = 0; have gp_1628 := x_1583.resolve_left (fun h9 => h9 q9); clear x_1583; have gp_1629 := x_1539.resolve_left (fun h9 => h9 gp_1628.1); clear x_1539; have gp_1630 := x_1486.resolve_left (fun h9 => h9 gp_1629.1); clear x_1486; have gz_1631 := x_1439.symm.trans gp_1630.1; exact .inr (LO.fin hLO ag_1578 eg_1623 (by omega) (by omega) (fun q8 => by omega)); exact .inl q9)⟩, (by rw [fe_1632, fe_1633, mz_43, mz_44]; by_cases q9 : (v_1603 : Int32).toInt = 0; have gp_1634 := x_1583.resolve_left (fun h9 => h9 q9); clear x_1583; have gp_1635 := x_1539.resolve_left (fun h9 => h9 gp_1634.1); clear x_1539; have gp_1636 := x_1486.resolve_left (fun h9 => h9 gp_1635.1); clear x_1486; have gz_1637 := x_1439.symm.trans gp_1636.1; (right; omega); exact .inl q9), (by simp only [fe_1638, mz_45, true_and, and_true, or_true, true_or, false_or, or_false, false_and, and_false, not_true_eq_false, not_false_eq_true] <;> first | omega | (simp only [Int32.lt_iff_toInt_lt, Int32.le_iff_toInt_le, Int32.reduceToInt, ← Int32.toInt_inj, true_and, and_true, or_true, true_or, false_or, or_false, false_and, and_false, not_true_eq_false, not_false_eq_true] <;> omega))⟩
        · simp only [Int32.lt_iff_toInt_lt, Int32.le_iff_toInt_le, Int32.reduceToInt, ← Int32.toInt_inj] at h_87
          have g0_89 := gd_f x_83 h_87
          clear x_83
          have fe_1639 : fld (f a_0) 12 = (v_37 : Int32).toInt := by rw [e_24]; rfl
          have fe_1640 : fld (f a_0) 8 = (v_30 : Int32).toInt := by rw [e_24]; rfl
          have fe_1641 : fld (f a_0) 12 = (v_37 : Int32).toInt := by rw [e_24]; rfl
          have fe_1642 : fld (f a_0) 20 = (v_41 : Int32).toInt := by rw [e_24]; rfl
          exact hR _ _ _ _ _ _ dX12_readLoss_87 (Nat.le_of_ble_eq_true rfl) (Nat.le_of_ble_eq_true rfl) ⟨rfl, hW, FR.rf, ⟨_, e_f, (AG.rf o_f).1, (by omega), (by rw [fe_1639]; left; omega)⟩, (by rw [fe_1640, fe_1641, mz_43, mz_44]; exact .inl g0_89), (by simp only [fe_1642, mz_45, true_and, and_true, or_true, true_or, false_or, or_false, false_and, and_false, not_true_eq_false, not_false_eq_true] <;> first | omega | (simp only [Int32.lt_iff_toInt_lt, Int32.le_iff_toInt_le, Int32.reduceToInt, ← Int32.toInt_inj, true_and, and_true, or_true, true_or, false_or, or_false, false_and, and_false, not_true_eq_false, not_false_eq_true] <;> omega))⟩
      · simp only [Int32.lt_iff_toInt_lt, Int32.le_iff_toInt_le, Int32.reduceToInt, ← Int32.toInt_inj] at h_77
        refine v_aload_n hC dX12_readLoss_75 rfl ?_
        refine v_iconst hC dX12_readLoss_76 (v := 3) (by decide) ?_
        refine v_vv hC (rest := []) m_1 e_24 rfl mi_X12_errs ms_X12_errs (p_X12_errs hW k_0 (by decide)) mx_X12_errs ml_X12_162 (by decide) rfl (cells1 := 0) (slots1 := 0) (by decide) (by decide) (Nat.le_of_ble_eq_true rfl) (Nat.le_of_ble_eq_true rfl) rfl (Nat.le_of_ble_eq_true rfl) dX12_readLoss_77 (fun L_1644 f_1645 h_1646 => ?_)
        obtain ⟨rfl, hW_1649, hF_1650, x_1647, x_1648, -, -, -⟩ := h_1646
        have fe_1651 : fld (f a_0) 8 = (v_30 : Int32).toInt := by rw [e_24]; rfl
        have hf_1652 := hF_1650.at e_f rfl
        obtain ⟨v_1654, v_1655, v_1657, v_1659, v_1661, v_1663, v_1665, v_1666, v_1667, v_1668, v_1670, e_1653, b_1656, b_1658, b_1660, b_1662, b_1664, b_1669, b_1671⟩ := hW_1649.at m_1 t_2
        have fe_1672 : fld (f_1645 a_0) 8 = (v_1659 : Int32).toInt := by rw [e_1653]; rfl
        have fe_1673 : fld (f_1645 a_0) 12 = (v_1666 : Int32).toInt := by rw [e_1653]; rfl
        rw [fe_1673] at x_1647
        rw [fe_1672, fe_1651] at x_1648
        clear fe_1651 fe_1672 fe_1673
        refine v_aload_n hC dX12_readLoss_80 rfl ?_
        refine v_vi hC (rest := []) m_1 e_1653 rfl mi_X12_good ms_X12_good (p_X12_good hW_1649 k_0) mx_X12_good ml_X12_139 (by decide) rfl (cells1 := 0) (slots1 := 0) (by decide) (by decide) (Nat.le_of_ble_eq_true rfl) (Nat.le_of_ble_eq_true rfl) rfl (Nat.le_of_ble_eq_true rfl) dX12_readLoss_81 (fun r_1674 L_1675 f_1676 h_1677 => ?_)
        obtain ⟨rfl, rfl, b_1678, x_1679⟩ := h_1677
        have fe_1682 : fld (f_1645 a_0) 12 = (v_1666 : Int32).toInt := by rw [e_1653]; rfl
        rw [fe_1682] at x_1679
        clear fe_1682
        try simp only [Int32.reduceToInt, Int64.reduceToInt] at x_1679
        refine v_if_ne hC dX12_readLoss_84 (tgt := 88) (by decide) (fun h_1683 => ?_) (fun h_1683 => ?_)
        · simp only [Int32.lt_iff_toInt_lt, Int32.le_iff_toInt_le, Int32.reduceToInt, ← Int32.toInt_inj] at h_1683
          have g0_1684 := gd_t x_1679 h_1683
          clear x_1679
          refine v_aload_n hC dX12_readLoss_88 rfl ?_
          refine v_ldcwS hC sr_X12_287 dX12_readLoss_89 ?_
          refine v_vi hC (rest := []) m_1 e_1653 rfl mi_X12_takes ms_X12_takes (p_X12_takes hW_1649 k_0 (by decide)) mx_X12_takes ml_X12_159 (by decide) rfl (cells1 := 0) (slots1 := 0) (by decide) (by decide) (Nat.le_of_ble_eq_true rfl) (Nat.le_of_ble_eq_true rfl) rfl (Nat.le_of_ble_eq_true rfl) dX12_readLoss_92 (fun r_1686 L_1687 f_1688 h_1689 => ?_)
          obtain ⟨rfl, hW_1693, hF_1694, rfl, x_1690, x_1691, x_1692, -⟩ := h_1689
          have fe_1695 : fld (f_1645 a_0) 8 = (v_1659 : Int32).toInt := by rw [e_1653]; rfl
          have fe_1696 : fld (f_1645 a_0) 9 = (v_1661 : Int32).toInt := by rw [e_1653]; rfl
          have fe_1697 : fld (f_1645 a_0) 10 = (v_1663 : Int32).toInt := by rw [e_1653]; rfl
          have fe_1698 : fld (f_1645 a_0) 12 = (v_1666 : Int32).toInt := by rw [e_1653]; rfl
          have hf_1699 := hF_1694.at hf_1652 rfl
          obtain ⟨v_1701, v_1702, v_1704, v_1706, v_1708, v_1710, v_1712, v_1713, v_1714, v_1715, v_1717, e_1700, b_1703, b_1705, b_1707, b_1709, b_1711, b_1716, b_1718⟩ := hW_1693.at m_1 t_2
          have fe_1719 : fld (f_1688 a_0) 8 = (v_1706 : Int32).toInt := by rw [e_1700]; rfl
          have fe_1720 : fld (f_1688 a_0) 9 = (v_1708 : Int32).toInt := by rw [e_1700]; rfl
          have fe_1721 : fld (f_1688 a_0) 10 = (v_1710 : Int32).toInt := by rw [e_1700]; rfl
          have fe_1722 : fld (f_1688 a_0) 12 = (v_1713 : Int32).toInt := by rw [e_1700]; rfl
          rw [fe_1695, fe_1720, fe_1719, fe_1721] at x_1690
          rw [fe_1719, fe_1695, fe_1720, fe_1696, fe_1721, fe_1697] at x_1691
          rw [fe_1722, fe_1698] at x_1692
          clear fe_1695 fe_1696 fe_1697 fe_1698 fe_1719 fe_1720 fe_1721 fe_1722
          try simp only [Int32.reduceToInt, Int64.reduceToInt] at x_1690
          try simp only [Int32.reduceToInt, Int64.reduceToInt] at x_1691
          try simp only [Int32.reduceToInt, Int64.reduceToInt] at x_1692
          refine v_if_eq hC dX12_readLoss_95 (tgt := 193) (by decide) (fun h_1723 => ?_) (fun h_1723 => ?_)
          · simp only [Int32.lt_iff_toInt_lt, Int32.le_iff_toInt_le, Int32.reduceToInt, ← Int32.toInt_inj] at h_1723
            refine v_aload_n hC dX12_readLoss_193 rfl ?_
            refine v_ldcwS hC sr_X12_289 dX12_readLoss_194 ?_
            refine v_vi hC (rest := []) m_1 e_1700 rfl mi_X12_takes ms_X12_takes (p_X12_takes hW_1693 k_0 (by decide)) mx_X12_takes ml_X12_159 (by decide) rfl (cells1 := 0) (slots1 := 0) (by decide) (by decide) (Nat.le_of_ble_eq_true rfl) (Nat.le_of_ble_eq_true rfl) rfl (Nat.le_of_ble_eq_true rfl) dX12_readLoss_197 (fun r_1724 L_1725 f_1726 h_1727 => ?_)
            obtain ⟨rfl, hW_1731, hF_1732, rfl, x_1728, x_1729, x_1730, -⟩ := h_1727
            have fe_1733 : fld (f_1688 a_0) 8 = (v_1706 : Int32).toInt := by rw [e_1700]; rfl
            have fe_1734 : fld (f_1688 a_0) 9 = (v_1708 : Int32).toInt := by rw [e_1700]; rfl
            have fe_1735 : fld (f_1688 a_0) 10 = (v_1710 : Int32).toInt := by rw [e_1700]; rfl
            have fe_1736 : fld (f_1688 a_0) 12 = (v_1713 : Int32).toInt := by rw [e_1700]; rfl
            have hf_1737 := hF_1732.at hf_1699 rfl
            obtain ⟨v_1739, v_1740, v_1742, v_1744, v_1746, v_1748, v_1750, v_1751, v_1752, v_1753, v_1755, e_1738, b_1741, b_1743, b_1745, b_1747, b_1749, b_1754, b_1756⟩ := hW_1731.at m_1 t_2
            have fe_1757 : fld (f_1726 a_0) 8 = (v_1744 : Int32).toInt := by rw [e_1738]; rfl
            have fe_1758 : fld (f_1726 a_0) 9 = (v_1746 : Int32).toInt := by rw [e_1738]; rfl
            have fe_1759 : fld (f_1726 a_0) 10 = (v_1748 : Int32).toInt := by rw [e_1738]; rfl
            have fe_1760 : fld (f_1726 a_0) 12 = (v_1751 : Int32).toInt := by rw [e_1738]; rfl
            rw [fe_1733, fe_1758, fe_1757, fe_1759] at x_1728
            rw [fe_1757, fe_1733, fe_1758, fe_1734, fe_1759, fe_1735] at x_1729
            rw [fe_1760, fe_1736] at x_1730
            clear fe_1733 fe_1734 fe_1735 fe_1736 fe_1757 fe_1758 fe_1759 fe_1760
            try simp only [Int32.reduceToInt, Int64.reduceToInt] at x_1728
            try simp only [Int32.reduceToInt, Int64.reduceToInt] at x_1729
            try simp only [Int32.reduceToInt, Int64.reduceToInt] at x_1730
            refine v_if_eq hC dX12_readLoss_200 (tgt := 247) (by decide) (fun h_1761 => ?_) (fun h_1761 => ?_)
            · simp only [Int32.lt_iff_toInt_lt, Int32.le_iff_toInt_le, Int32.reduceToInt, ← Int32.toInt_inj] at h_1761
              refine v_aload_n hC dX12_readLoss_247 rfl ?_
              refine v_vv hC (rest := []) m_1 e_1738 rfl mi_X12_advance ms_X12_advance (p_X12_advance hW_1731 k_0) mx_X12_advance ml_X12_156 (by decide) rfl (cells1 := 0) (slots1 := 0) (by decide) (by decide) (Nat.le_of_ble_eq_true rfl) (Nat.le_of_ble_eq_true rfl) rfl (Nat.le_of_ble_eq_true rfl) dX12_readLoss_248 (fun L_1763 f_1764 h_1765 => ?_)
              obtain ⟨rfl, hW_1769, hF_1770, x_1766, x_1767, x_1768, -⟩ := h_1765
              have fe_1771 : fld (f_1726 a_0) 8 = (v_1744 : Int32).toInt := by rw [e_1738]; rfl
              have fe_1772 : fld (f_1726 a_0) 12 = (v_1751 : Int32).toInt := by rw [e_1738]; rfl
              have hf_1773 := hF_1770.at hf_1737 rfl
              obtain ⟨v_1775, v_1776, v_1778, v_1780, v_1782, v_1784, v_1786, v_1787, v_1788, v_1789, v_1791, e_1774, b_1777, b_1779, b_1781, b_1783, b_1785, b_1790, b_1792⟩ := hW_1769.at m_1 t_2
              have fe_1793 : fld (f_1764 a_0) 8 = (v_1780 : Int32).toInt := by rw [e_1774]; rfl
              have fe_1794 : fld (f_1764 a_0) 9 = (v_1782 : Int32).toInt := by rw [e_1774]; rfl
              have fe_1795 : fld (f_1764 a_0) 10 = (v_1784 : Int32).toInt := by rw [e_1774]; rfl
              have fe_1796 : fld (f_1764 a_0) 12 = (v_1787 : Int32).toInt := by rw [e_1774]; rfl
              rw [fe_1771, fe_1794, fe_1793] at x_1766
              rw [fe_1795, fe_1794, fe_1793] at x_1767
              rw [fe_1796, fe_1772] at x_1768
              clear fe_1771 fe_1772 fe_1793 fe_1794 fe_1795 fe_1796
              refine v_aload_n hC dX12_readLoss_251 rfl ?_
              refine v_get hC fl_X12_34 m_1 e_1774 rfl dX12_readLoss_252 ?_
              refine v_iload_n hC dX12_readLoss_255 rfl ?_
              refine v_iconst hC dX12_readLoss_256 (v := 3) (by decide) ?_
              refine v_iast hC m_22 hf_1773 (vp_in_iff.mpr (by first | omega | (simp only [Int32.lt_iff_toInt_lt, Int32.le_iff_toInt_le, Int32.reduceToInt, ← Int32.toInt_inj, true_and, and_true, or_true, true_or, false_or, or_false, false_and, and_false, not_true_eq_false, not_false_eq_true] <;> omega))) dX12_readLoss_257 (fun f_1797 hf_1798 hk_1799 => ?_)
              have hW_1801 := hW_1769.up hf_1798 hk_1799 t_23 ⟨_, rfl, (o_f.up (by first | omega | (simp only [Int32.lt_iff_toInt_lt, Int32.le_iff_toInt_le, Int32.reduceToInt, ← Int32.toInt_inj, true_and, and_true, or_true, true_or, false_or, or_false, false_and, and_false, not_true_eq_false, not_false_eq_true] <;> omega)) (fun q1 q2 => (by first | omega | (simp only [Int32.lt_iff_toInt_lt, Int32.le_iff_toInt_le, Int32.reduceToInt, ← Int32.toInt_inj] at *; omega))) (fun k9 q1 q2 q3 => (by first | omega | (simp only [Int32.lt_iff_toInt_lt, Int32.le_iff_toInt_le, Int32.reduceToInt, ← Int32.toInt_inj] at *; omega))))⟩
              obtain ⟨g_1800, hf_1798, ok_1802, eg_1803⟩ : ∃ g9, f_1797 (q 14) = aI E 2076 g9 ∧ FOK g9 ∧ g9 = upd g_f (v_49 : Int32).toNatClampNeg 3 := ⟨_, hf_1798, (o_f.up (by first | omega | (simp only [Int32.lt_iff_toInt_lt, Int32.le_iff_toInt_le, Int32.reduceToInt, ← Int32.toInt_inj, true_and, and_true, or_true, true_or, false_or, or_false, false_and, and_false, not_true_eq_false, not_false_eq_true] <;> omega)) (fun q1 q2 => (by first | omega | (simp only [Int32.lt_iff_toInt_lt, Int32.le_iff_toInt_le, Int32.reduceToInt, ← Int32.toInt_inj] at *; omega))) (fun k9 q1 q2 q3 => (by first | omega | (simp only [Int32.lt_iff_toInt_lt, Int32.le_iff_toInt_le, Int32.reduceToInt, ← Int32.toInt_inj] at *; omega)))), rfl⟩
              have hf_1804 := (hk_1799 a_0 (ne_kd e_1774 hf_1773 rfl)).trans e_1774
              have fr_1805 := FR.w hk_1799 hf_1773 (k := 2176) rfl
              have lk_1806 := lk_at (g0 := g_f) eg_1803 (by omega) (by omega)
              have ag_1807 := (AG.rf o_f).st eg_1803 (by omega) (by omega)
              try simp only [Int32.reduceToInt] at lk_1806
              refine v_aload_n hC dX12_readLoss_258 rfl ?_
              refine v_vv hC (rest := []) m_1 hf_1804 rfl mi_X12_ends ms_X12_ends (p_X12_ends hW_1801 k_0) mx_X12_ends ml_X12_178 (by decide) rfl (cells1 := 0) (slots1 := 0) (by decide) (by decide) (Nat.le_of_ble_eq_true rfl) (Nat.le_of_ble_eq_true rfl) rfl (Nat.le_of_ble_eq_true rfl) dX12_readLoss_259 (fun L_1809 f_1810 h_1811 => ?_)
              obtain ⟨rfl, hW_1813, hF_1814, -, -, -, -, x_1812⟩ := h_1811
              have fe_1815 : fld (f_1797 a_0) 8 = (v_1780 : Int32).toInt := by rw [hf_1804]; rfl
              have fe_1816 : fld (f_1797 a_0) 10 = (v_1784 : Int32).toInt := by rw [hf_1804]; rfl
              have fe_1817 : fld (f_1797 a_0) 12 = (v_1787 : Int32).toInt := by rw [hf_1804]; rfl
              have hf_1818 := hF_1814.at hf_1798 rfl
              obtain ⟨v_1820, v_1821, v_1823, v_1825, v_1827, v_1829, v_1831, v_1832, v_1833, v_1834, v_1836, e_1819, b_1822, b_1824, b_1826, b_1828, b_1830, b_1835, b_1837⟩ := hW_1813.at m_1 t_2
              have fe_1838 : fld (f_1810 a_0) 8 = (v_1825 : Int32).toInt := by rw [e_1819]; rfl
              have fe_1839 : fld (f_1810 a_0) 9 = (v_1827 : Int32).toInt := by rw [e_1819]; rfl
              have fe_1840 : fld (f_1810 a_0) 10 = (v_1829 : Int32).toInt := by rw [e_1819]; rfl
              have fe_1841 : fld (f_1810 a_0) 12 = (v_1832 : Int32).toInt := by rw [e_1819]; rfl
              rw [fe_1841, fe_1817, fe_1816, fe_1815, fe_1839, fe_1838, fe_1840] at x_1812
              clear fe_1815 fe_1816 fe_1817 fe_1838 fe_1839 fe_1840 fe_1841
              refine v_aload_n hC dX12_readLoss_262 rfl ?_
              refine v_get hC fl_X12_34 m_1 e_1819 rfl dX12_readLoss_263 ?_
              refine v_bipush hC dX12_readLoss_266 (v := 6) (by decide) ?_
              refine v_dup2 hC dX12_readLoss_268 rfl rfl ?_
              have l6_1842 : (g_1800 6).toInt = (g_f 6).toInt := congrArg Int32.toInt ag_1807.2.1
              refine v_iald hC m_22 hf_1818 (vp_in_iff.mpr (by decide)) (v := g_1800 6) rfl dX12_readLoss_269 ?_
              refine v_iconst hC dX12_readLoss_270 (v := 1) (by decide) ?_
              obtain ⟨v_1843, h_1844⟩ : ∃ v9 : Int32, (g_1800 6) + 1 = v9 := ⟨_, rfl⟩
              refine v_iadd hC dX12_readLoss_271 h_1844 ?_
              have h_1845 := add_v h_1844 (by first | omega | (simp only [Int32.lt_iff_toInt_lt, Int32.le_iff_toInt_le, Int32.reduceToInt, ← Int32.toInt_inj, true_and, and_true, or_true, true_or, false_or, or_false, false_and, and_false, not_true_eq_false, not_false_eq_true] <;> omega)) (by first | omega | (simp only [Int32.lt_iff_toInt_lt, Int32.le_iff_toInt_le, Int32.reduceToInt, ← Int32.toInt_inj, true_and, and_true, or_true, true_or, false_or, or_false, false_and, and_false, not_true_eq_false, not_false_eq_true] <;> omega))
              try simp only [Int32.reduceToInt] at h_1845
              refine v_iast hC m_22 hf_1818 (vp_in_iff.mpr (by decide)) dX12_readLoss_272 (fun f_1846 hf_1847 hk_1848 => ?_)
              have hW_1850 := hW_1813.up hf_1847 hk_1848 t_23 ⟨_, rfl, (ok_1802.up (i := 6) (by decide) (fun q1 q2 => absurd (And.intro q1 q2) (by decide)) (fun k9 q1 q2 q3 => by simp only [Int32.reduceToInt] at q3; omega))⟩
              obtain ⟨g_1849, hf_1847, ok_1851, eg_1852⟩ : ∃ g9, f_1846 (q 14) = aI E 2076 g9 ∧ FOK g9 ∧ g9 = upd g_1800 (6 : Int32).toNatClampNeg v_1843 := ⟨_, hf_1847, (ok_1802.up (i := 6) (by decide) (fun q1 q2 => absurd (And.intro q1 q2) (by decide)) (fun k9 q1 q2 q3 => by simp only [Int32.reduceToInt] at q3; omega)), rfl⟩
              have hf_1853 := (hk_1848 a_0 (ne_kd e_1819 hf_1818 rfl)).trans e_1819
              have fr_1854 := FR.w hk_1848 hf_1818 (k := 2176) rfl
              have ln6_1855 := FOK.n6 ag_1807.1 eg_1852
              have ln6_1855_t : (g_1849 6).toInt = v_1843.toInt := congrArg Int32.toInt ln6_1855.2
              have fe_1856 : fld (f_1846 a_0) 12 = (v_1832 : Int32).toInt := by rw [hf_1853]; rfl
              have fe_1861 : fld (f_1846 a_0) 8 = (v_1825 : Int32).toInt := by rw [hf_1853]; rfl
              have fe_1862 : fld (f_1846 a_0) 12 = (v_1832 : Int32).toInt := by rw [hf_1853]; rfl
              have fe_1867 : fld (f_1846 a_0) 20 = (v_1836 : Int32).toInt := by rw [hf_1853]; rfl
              exact hR _ _ _ _ _ _ dX12_readLoss_273 (Nat.le_of_ble_eq_true rfl) (Nat.le_of_ble_eq_true rfl) ⟨rfl, hW_1850, (((((((hF_1650.tr hF_1694).tr hF_1732).tr hF_1770).tr fr_1805).tr hF_1814).tr fr_1854).mono rfl), ⟨_, hf_1847, ln6_1855.1, (by omega), (by rw [fe_1856]; by_cases q9 : v_1832.toInt = 0; have gp_1857 := x_1812.resolve_left (fun h9 => h9 q9); clear x_1812; have gz_1858 := x_1768.symm.trans gp_1857.1; have gz_1859 := x_1730.symm.trans gz_1858; have gz_1860 := x_1692.symm.trans gz_1859; exact .inr (LO.fin hLO ag_1807 eg_1852 (by omega) (by omega) (fun q8 => by omega)); exact .inl q9)⟩, (by rw [fe_1861, fe_1862, mz_43, mz_44]; by_cases q9 : (v_1832 : Int32).toInt = 0; have gp_1863 := x_1812.resolve_left (fun h9 => h9 q9); clear x_1812; have gz_1864 := x_1768.symm.trans gp_1863.1; have gz_1865 := x_1730.symm.trans gz_1864; have gz_1866 := x_1692.symm.trans gz_1865; (right; omega); exact .inl q9), (by simp only [fe_1867, mz_45, true_and, and_true, or_true, true_or, false_or, or_false, false_and, and_false, not_true_eq_false, not_false_eq_true] <;> first | omega | (simp only [Int32.lt_iff_toInt_lt, Int32.le_iff_toInt_le, Int32.reduceToInt, ← Int32.toInt_inj, true_and, and_true, or_true, true_or, false_or, or_false, false_and, and_false, not_true_eq_false, not_false_eq_true] <;> omega))⟩
            · simp only [Int32.lt_iff_toInt_lt, Int32.le_iff_toInt_le, Int32.reduceToInt, ← Int32.toInt_inj] at h_1761
              refine v_aload_n hC dX12_readLoss_203 rfl ?_
              refine v_get hC fl_X12_34 m_1 e_1738 rfl dX12_readLoss_204 ?_
              refine v_iload_n hC dX12_readLoss_207 rfl ?_
              refine v_iconst hC dX12_readLoss_208 (v := 2) (by decide) ?_
              refine v_iast hC m_22 hf_1737 (vp_in_iff.mpr (by first | omega | (simp only [Int32.lt_iff_toInt_lt, Int32.le_iff_toInt_le, Int32.reduceToInt, ← Int32.toInt_inj, true_and, and_true, or_true, true_or, false_or, or_false, false_and, and_false, not_true_eq_false, not_false_eq_true] <;> omega))) dX12_readLoss_209 (fun f_1868 hf_1869 hk_1870 => ?_)
              have hW_1872 := hW_1731.up hf_1869 hk_1870 t_23 ⟨_, rfl, (o_f.up (by first | omega | (simp only [Int32.lt_iff_toInt_lt, Int32.le_iff_toInt_le, Int32.reduceToInt, ← Int32.toInt_inj, true_and, and_true, or_true, true_or, false_or, or_false, false_and, and_false, not_true_eq_false, not_false_eq_true] <;> omega)) (fun q1 q2 => (by first | omega | (simp only [Int32.lt_iff_toInt_lt, Int32.le_iff_toInt_le, Int32.reduceToInt, ← Int32.toInt_inj] at *; omega))) (fun k9 q1 q2 q3 => (by first | omega | (simp only [Int32.lt_iff_toInt_lt, Int32.le_iff_toInt_le, Int32.reduceToInt, ← Int32.toInt_inj] at *; omega))))⟩
              obtain ⟨g_1871, hf_1869, ok_1873, eg_1874⟩ : ∃ g9, f_1868 (q 14) = aI E 2076 g9 ∧ FOK g9 ∧ g9 = upd g_f (v_49 : Int32).toNatClampNeg 2 := ⟨_, hf_1869, (o_f.up (by first | omega | (simp only [Int32.lt_iff_toInt_lt, Int32.le_iff_toInt_le, Int32.reduceToInt, ← Int32.toInt_inj, true_and, and_true, or_true, true_or, false_or, or_false, false_and, and_false, not_true_eq_false, not_false_eq_true] <;> omega)) (fun q1 q2 => (by first | omega | (simp only [Int32.lt_iff_toInt_lt, Int32.le_iff_toInt_le, Int32.reduceToInt, ← Int32.toInt_inj] at *; omega))) (fun k9 q1 q2 q3 => (by first | omega | (simp only [Int32.lt_iff_toInt_lt, Int32.le_iff_toInt_le, Int32.reduceToInt, ← Int32.toInt_inj] at *; omega)))), rfl⟩
              have hf_1875 := (hk_1870 a_0 (ne_kd e_1738 hf_1737 rfl)).trans e_1738
              have fr_1876 := FR.w hk_1870 hf_1737 (k := 2176) rfl
              have lk_1877 := lk_at (g0 := g_f) eg_1874 (by omega) (by omega)
              have ag_1878 := (AG.rf o_f).st eg_1874 (by omega) (by omega)
              try simp only [Int32.reduceToInt] at lk_1877
              refine v_aload_n hC dX12_readLoss_210 rfl ?_
              refine v_get hC fl_X12_34 m_1 hf_1875 rfl dX12_readLoss_211 ?_
              refine v_iload_n hC dX12_readLoss_214 rfl ?_
              refine v_iconst hC dX12_readLoss_215 (v := 1) (by decide) ?_
              obtain ⟨v_1879, h_1880⟩ : ∃ v9 : Int32, v_49 + 1 = v9 := ⟨_, rfl⟩
              refine v_iadd hC dX12_readLoss_216 h_1880 ?_
              have h_1881 := add_v h_1880 (by first | omega | (simp only [Int32.lt_iff_toInt_lt, Int32.le_iff_toInt_le, Int32.reduceToInt, ← Int32.toInt_inj, true_and, and_true, or_true, true_or, false_or, or_false, false_and, and_false, not_true_eq_false, not_false_eq_true] <;> omega)) (by first | omega | (simp only [Int32.lt_iff_toInt_lt, Int32.le_iff_toInt_le, Int32.reduceToInt, ← Int32.toInt_inj, true_and, and_true, or_true, true_or, false_or, or_false, false_and, and_false, not_true_eq_false, not_false_eq_true] <;> omega))
              try simp only [Int32.reduceToInt] at h_1881
              refine v_aload_n hC dX12_readLoss_217 rfl ?_
              refine v_iconst hC dX12_readLoss_218 (v := 1) (by decide) ?_
              refine v_bipush hC dX12_readLoss_219 (v := 99) (by decide) ?_
              refine v_vi hC (rest := [.int v_1879, .ref (q 14)]) m_1 hf_1875 rfl mi_X12_number ms_X12_number (p_X12_number hW_1872 k_0) mx_X12_number ml_X12_170 (by decide) rfl (cells1 := 0) (slots1 := 0) (by decide) (by decide) (Nat.le_of_ble_eq_true rfl) (Nat.le_of_ble_eq_true rfl) rfl (Nat.le_of_ble_eq_true rfl) dX12_readLoss_221 (fun r_1882 L_1883 f_1884 h_1885 => ?_)
              obtain ⟨rfl, hW_1887, hF_1888, -, -, -, -, -, x_1886⟩ := h_1885
              have fe_1889 : fld (f_1868 a_0) 8 = (v_1744 : Int32).toInt := by rw [hf_1875]; rfl
              have fe_1890 : fld (f_1868 a_0) 10 = (v_1748 : Int32).toInt := by rw [hf_1875]; rfl
              have fe_1891 : fld (f_1868 a_0) 12 = (v_1751 : Int32).toInt := by rw [hf_1875]; rfl
              have hf_1892 := hF_1888.at hf_1869 rfl
              obtain ⟨v_1894, v_1895, v_1897, v_1899, v_1901, v_1903, v_1905, v_1906, v_1907, v_1908, v_1910, e_1893, b_1896, b_1898, b_1900, b_1902, b_1904, b_1909, b_1911⟩ := hW_1887.at m_1 t_2
              have fe_1912 : fld (f_1884 a_0) 8 = (v_1899 : Int32).toInt := by rw [e_1893]; rfl
              have fe_1913 : fld (f_1884 a_0) 9 = (v_1901 : Int32).toInt := by rw [e_1893]; rfl
              have fe_1914 : fld (f_1884 a_0) 10 = (v_1903 : Int32).toInt := by rw [e_1893]; rfl
              have fe_1915 : fld (f_1884 a_0) 12 = (v_1906 : Int32).toInt := by rw [e_1893]; rfl
              rw [fe_1915, fe_1891, fe_1890, fe_1889, fe_1913, fe_1912, fe_1914] at x_1886
              clear fe_1889 fe_1890 fe_1891 fe_1912 fe_1913 fe_1914 fe_1915
              try simp only [Int32.reduceToInt, Int64.reduceToInt] at x_1886
              refine v_iast hC m_22 hf_1892 (vp_in_iff.mpr (by first | omega | (simp only [Int32.lt_iff_toInt_lt, Int32.le_iff_toInt_le, Int32.reduceToInt, ← Int32.toInt_inj, true_and, and_true, or_true, true_or, false_or, or_false, false_and, and_false, not_true_eq_false, not_false_eq_true] <;> omega))) dX12_readLoss_224 (fun f_1916 hf_1917 hk_1918 => ?_)
              have hW_1920 := hW_1887.up hf_1917 hk_1918 t_23 ⟨_, rfl, (ok_1873.up (by first | omega | (simp only [Int32.lt_iff_toInt_lt, Int32.le_iff_toInt_le, Int32.reduceToInt, ← Int32.toInt_inj, true_and, and_true, or_true, true_or, false_or, or_false, false_and, and_false, not_true_eq_false, not_false_eq_true] <;> omega)) (fun q1 q2 => (by first | omega | (simp only [Int32.lt_iff_toInt_lt, Int32.le_iff_toInt_le, Int32.reduceToInt, ← Int32.toInt_inj] at *; omega))) (fun k9 q1 q2 q3 => (by first | omega | (simp only [Int32.lt_iff_toInt_lt, Int32.le_iff_toInt_le, Int32.reduceToInt, ← Int32.toInt_inj] at *; omega))))⟩
              obtain ⟨g_1919, hf_1917, ok_1921, eg_1922⟩ : ∃ g9, f_1916 (q 14) = aI E 2076 g9 ∧ FOK g9 ∧ g9 = upd g_1871 (v_1879 : Int32).toNatClampNeg r_1882 := ⟨_, hf_1917, (ok_1873.up (by first | omega | (simp only [Int32.lt_iff_toInt_lt, Int32.le_iff_toInt_le, Int32.reduceToInt, ← Int32.toInt_inj, true_and, and_true, or_true, true_or, false_or, or_false, false_and, and_false, not_true_eq_false, not_false_eq_true] <;> omega)) (fun q1 q2 => (by first | omega | (simp only [Int32.lt_iff_toInt_lt, Int32.le_iff_toInt_le, Int32.reduceToInt, ← Int32.toInt_inj] at *; omega))) (fun k9 q1 q2 q3 => (by first | omega | (simp only [Int32.lt_iff_toInt_lt, Int32.le_iff_toInt_le, Int32.reduceToInt, ← Int32.toInt_inj] at *; omega)))), rfl⟩
              have hf_1923 := (hk_1918 a_0 (ne_kd e_1893 hf_1892 rfl)).trans e_1893
              have fr_1924 := FR.w hk_1918 hf_1892 (k := 2176) rfl
              have lk_1925 := lf_at (g0 := g_f) eg_1922 (by omega) (by omega)
              have ag_1926 := ag_1878.st eg_1922 (by omega) (by omega)
              try simp only [Int32.reduceToInt] at lk_1925
              refine v_aload_n hC dX12_readLoss_225 rfl ?_
              refine v_get hC fl_X12_34 m_1 hf_1923 rfl dX12_readLoss_226 ?_
              refine v_iload_n hC dX12_readLoss_229 rfl ?_
              refine v_iconst hC dX12_readLoss_230 (v := 2) (by decide) ?_
              obtain ⟨v_1927, h_1928⟩ : ∃ v9 : Int32, v_49 + 2 = v9 := ⟨_, rfl⟩
              refine v_iadd hC dX12_readLoss_231 h_1928 ?_
              have h_1929 := add_v h_1928 (by first | omega | (simp only [Int32.lt_iff_toInt_lt, Int32.le_iff_toInt_le, Int32.reduceToInt, ← Int32.toInt_inj, true_and, and_true, or_true, true_or, false_or, or_false, false_and, and_false, not_true_eq_false, not_false_eq_true] <;> omega)) (by first | omega | (simp only [Int32.lt_iff_toInt_lt, Int32.le_iff_toInt_le, Int32.reduceToInt, ← Int32.toInt_inj, true_and, and_true, or_true, true_or, false_or, or_false, false_and, and_false, not_true_eq_false, not_false_eq_true] <;> omega))
              try simp only [Int32.reduceToInt] at h_1929
              refine v_aload_n hC dX12_readLoss_232 rfl ?_
              refine v_ldcwS hC sr_X12_297 dX12_readLoss_233 ?_
              refine v_iconst hC dX12_readLoss_236 (v := 0) (by decide) ?_
              refine v_sipush hC dX12_readLoss_237 (v := 255) (by decide) ?_
              refine v_vi hC (rest := [.int v_1927, .ref (q 14)]) m_1 hf_1923 rfl mi_X12_told ms_X12_told (p_X12_told hW_1920 k_0 (by decide)) mx_X12_told ml_X12_189 (by decide) rfl (cells1 := 0) (slots1 := 0) (by decide) (by decide) (Nat.le_of_ble_eq_true rfl) (Nat.le_of_ble_eq_true rfl) rfl (Nat.le_of_ble_eq_true rfl) dX12_readLoss_240 (fun r_1930 L_1931 f_1932 h_1933 => ?_)
              obtain ⟨rfl, hW_1935, hF_1936, -, -, -, -, -, x_1934⟩ := h_1933
              have fe_1937 : fld (f_1916 a_0) 8 = (v_1899 : Int32).toInt := by rw [hf_1923]; rfl
              have fe_1938 : fld (f_1916 a_0) 12 = (v_1906 : Int32).toInt := by rw [hf_1923]; rfl
              have hf_1939 := hF_1936.at hf_1917 rfl
              obtain ⟨v_1941, v_1942, v_1944, v_1946, v_1948, v_1950, v_1952, v_1953, v_1954, v_1955, v_1957, e_1940, b_1943, b_1945, b_1947, b_1949, b_1951, b_1956, b_1958⟩ := hW_1935.at m_1 t_2
              have fe_1959 : fld (f_1932 a_0) 8 = (v_1946 : Int32).toInt := by rw [e_1940]; rfl
              have fe_1960 : fld (f_1932 a_0) 9 = (v_1948 : Int32).toInt := by rw [e_1940]; rfl
              have fe_1961 : fld (f_1932 a_0) 10 = (v_1950 : Int32).toInt := by rw [e_1940]; rfl
              have fe_1962 : fld (f_1932 a_0) 12 = (v_1953 : Int32).toInt := by rw [e_1940]; rfl
              rw [fe_1962, fe_1938, fe_1937, fe_1960, fe_1959, fe_1961] at x_1934
              clear fe_1937 fe_1938 fe_1959 fe_1960 fe_1961 fe_1962
              try simp only [Int32.reduceToInt, Int64.reduceToInt] at x_1934
              refine v_iast hC m_22 hf_1939 (vp_in_iff.mpr (by first | omega | (simp only [Int32.lt_iff_toInt_lt, Int32.le_iff_toInt_le, Int32.reduceToInt, ← Int32.toInt_inj, true_and, and_true, or_true, true_or, false_or, or_false, false_and, and_false, not_true_eq_false, not_false_eq_true] <;> omega))) dX12_readLoss_243 (fun f_1963 hf_1964 hk_1965 => ?_)
              have hW_1967 := hW_1935.up hf_1964 hk_1965 t_23 ⟨_, rfl, (ok_1921.up (by first | omega | (simp only [Int32.lt_iff_toInt_lt, Int32.le_iff_toInt_le, Int32.reduceToInt, ← Int32.toInt_inj, true_and, and_true, or_true, true_or, false_or, or_false, false_and, and_false, not_true_eq_false, not_false_eq_true] <;> omega)) (fun q1 q2 => (by first | omega | (simp only [Int32.lt_iff_toInt_lt, Int32.le_iff_toInt_le, Int32.reduceToInt, ← Int32.toInt_inj] at *; omega))) (fun k9 q1 q2 q3 => (by first | omega | (simp only [Int32.lt_iff_toInt_lt, Int32.le_iff_toInt_le, Int32.reduceToInt, ← Int32.toInt_inj] at *; omega))))⟩
              obtain ⟨g_1966, hf_1964, ok_1968, eg_1969⟩ : ∃ g9, f_1963 (q 14) = aI E 2076 g9 ∧ FOK g9 ∧ g9 = upd g_1919 (v_1927 : Int32).toNatClampNeg r_1930 := ⟨_, hf_1964, (ok_1921.up (by first | omega | (simp only [Int32.lt_iff_toInt_lt, Int32.le_iff_toInt_le, Int32.reduceToInt, ← Int32.toInt_inj, true_and, and_true, or_true, true_or, false_or, or_false, false_and, and_false, not_true_eq_false, not_false_eq_true] <;> omega)) (fun q1 q2 => (by first | omega | (simp only [Int32.lt_iff_toInt_lt, Int32.le_iff_toInt_le, Int32.reduceToInt, ← Int32.toInt_inj] at *; omega))) (fun k9 q1 q2 q3 => (by first | omega | (simp only [Int32.lt_iff_toInt_lt, Int32.le_iff_toInt_le, Int32.reduceToInt, ← Int32.toInt_inj] at *; omega)))), rfl⟩
              have hf_1970 := (hk_1965 a_0 (ne_kd e_1940 hf_1939 rfl)).trans e_1940
              have fr_1971 := FR.w hk_1965 hf_1939 (k := 2176) rfl
              have lk_1972 := l2_at (g0 := g_f) eg_1969 (by omega) (by omega)
              have ag_1973 := ag_1926.st eg_1969 (by omega) (by omega)
              try simp only [Int32.reduceToInt] at lk_1972
              refine v_goto hC dX12_readLoss_244 (tgt := 258) (by decide) ?_
              refine v_aload_n hC dX12_readLoss_258 rfl ?_
              refine v_vv hC (rest := []) m_1 hf_1970 rfl mi_X12_ends ms_X12_ends (p_X12_ends hW_1967 k_0) mx_X12_ends ml_X12_178 (by decide) rfl (cells1 := 0) (slots1 := 0) (by decide) (by decide) (Nat.le_of_ble_eq_true rfl) (Nat.le_of_ble_eq_true rfl) rfl (Nat.le_of_ble_eq_true rfl) dX12_readLoss_259 (fun L_1975 f_1976 h_1977 => ?_)
              obtain ⟨rfl, hW_1979, hF_1980, -, -, -, -, x_1978⟩ := h_1977
              have fe_1981 : fld (f_1963 a_0) 8 = (v_1946 : Int32).toInt := by rw [hf_1970]; rfl
              have fe_1982 : fld (f_1963 a_0) 10 = (v_1950 : Int32).toInt := by rw [hf_1970]; rfl
              have fe_1983 : fld (f_1963 a_0) 12 = (v_1953 : Int32).toInt := by rw [hf_1970]; rfl
              have hf_1984 := hF_1980.at hf_1964 rfl
              obtain ⟨v_1986, v_1987, v_1989, v_1991, v_1993, v_1995, v_1997, v_1998, v_1999, v_2000, v_2002, e_1985, b_1988, b_1990, b_1992, b_1994, b_1996, b_2001, b_2003⟩ := hW_1979.at m_1 t_2
              have fe_2004 : fld (f_1976 a_0) 8 = (v_1991 : Int32).toInt := by rw [e_1985]; rfl
              have fe_2005 : fld (f_1976 a_0) 9 = (v_1993 : Int32).toInt := by rw [e_1985]; rfl
              have fe_2006 : fld (f_1976 a_0) 10 = (v_1995 : Int32).toInt := by rw [e_1985]; rfl
              have fe_2007 : fld (f_1976 a_0) 12 = (v_1998 : Int32).toInt := by rw [e_1985]; rfl
              rw [fe_2007, fe_1983, fe_1982, fe_1981, fe_2005, fe_2004, fe_2006] at x_1978
              clear fe_1981 fe_1982 fe_1983 fe_2004 fe_2005 fe_2006 fe_2007
              refine v_aload_n hC dX12_readLoss_262 rfl ?_
              refine v_get hC fl_X12_34 m_1 e_1985 rfl dX12_readLoss_263 ?_
              refine v_bipush hC dX12_readLoss_266 (v := 6) (by decide) ?_
              refine v_dup2 hC dX12_readLoss_268 rfl rfl ?_
              have l6_2008 : (g_1966 6).toInt = (g_f 6).toInt := congrArg Int32.toInt ag_1973.2.1
              refine v_iald hC m_22 hf_1984 (vp_in_iff.mpr (by decide)) (v := g_1966 6) rfl dX12_readLoss_269 ?_
              refine v_iconst hC dX12_readLoss_270 (v := 1) (by decide) ?_
              obtain ⟨v_2009, h_2010⟩ : ∃ v9 : Int32, (g_1966 6) + 1 = v9 := ⟨_, rfl⟩
              refine v_iadd hC dX12_readLoss_271 h_2010 ?_
              have h_2011 := add_v h_2010 (by first | omega | (simp only [Int32.lt_iff_toInt_lt, Int32.le_iff_toInt_le, Int32.reduceToInt, ← Int32.toInt_inj, true_and, and_true, or_true, true_or, false_or, or_false, false_and, and_false, not_true_eq_false, not_false_eq_true] <;> omega)) (by first | omega | (simp only [Int32.lt_iff_toInt_lt, Int32.le_iff_toInt_le, Int32.reduceToInt, ← Int32.toInt_inj, true_and, and_true, or_true, true_or, false_or, or_false, false_and, and_false, not_true_eq_false, not_false_eq_true] <;> omega))
              try simp only [Int32.reduceToInt] at h_2011
              refine v_iast hC m_22 hf_1984 (vp_in_iff.mpr (by decide)) dX12_readLoss_272 (fun f_2012 hf_2013 hk_2014 => ?_)
              have hW_2016 := hW_1979.up hf_2013 hk_2014 t_23 ⟨_, rfl, (ok_1968.up (i := 6) (by decide) (fun q1 q2 => absurd (And.intro q1 q2) (by decide)) (fun k9 q1 q2 q3 => by simp only [Int32.reduceToInt] at q3; omega))⟩
              obtain ⟨g_2015, hf_2013, ok_2017, eg_2018⟩ : ∃ g9, f_2012 (q 14) = aI E 2076 g9 ∧ FOK g9 ∧ g9 = upd g_1966 (6 : Int32).toNatClampNeg v_2009 := ⟨_, hf_2013, (ok_1968.up (i := 6) (by decide) (fun q1 q2 => absurd (And.intro q1 q2) (by decide)) (fun k9 q1 q2 q3 => by simp only [Int32.reduceToInt] at q3; omega)), rfl⟩
              have hf_2019 := (hk_2014 a_0 (ne_kd e_1985 hf_1984 rfl)).trans e_1985
              have fr_2020 := FR.w hk_2014 hf_1984 (k := 2176) rfl
              have ln6_2021 := FOK.n6 ag_1973.1 eg_2018
              have ln6_2021_t : (g_2015 6).toInt = v_2009.toInt := congrArg Int32.toInt ln6_2021.2
              have fe_2022 : fld (f_2012 a_0) 12 = (v_1998 : Int32).toInt := by rw [hf_2019]; rfl
              have fe_2028 : fld (f_2012 a_0) 8 = (v_1991 : Int32).toInt := by rw [hf_2019]; rfl
              have fe_2029 : fld (f_2012 a_0) 12 = (v_1998 : Int32).toInt := by rw [hf_2019]; rfl
              have fe_2035 : fld (f_2012 a_0) 20 = (v_2002 : Int32).toInt := by rw [hf_2019]; rfl
              exact hR _ _ _ _ _ _ dX12_readLoss_273 (Nat.le_of_ble_eq_true rfl) (Nat.le_of_ble_eq_true rfl) ⟨rfl, hW_2016, ((((((((((hF_1650.tr hF_1694).tr hF_1732).tr fr_1876).tr hF_1888).tr fr_1924).tr hF_1936).tr fr_1971).tr hF_1980).tr fr_2020).mono rfl), ⟨_, hf_2013, ln6_2021.1, (by omega), (by rw [fe_2022]; by_cases q9 : v_1998.toInt = 0; have gp_2023 := x_1978.resolve_left (fun h9 => h9 q9); clear x_1978; have gp_2024 := x_1934.resolve_left (fun h9 => h9 gp_2023.1); clear x_1934; have gp_2025 := x_1886.resolve_left (fun h9 => h9 gp_2024.1); clear x_1886; have gz_2026 := x_1730.symm.trans gp_2025.1; have gz_2027 := x_1692.symm.trans gz_2026; exact .inr (LO.fin hLO ag_1973 eg_2018 (by omega) (by omega) (fun q8 => by omega)); exact .inl q9)⟩, (by rw [fe_2028, fe_2029, mz_43, mz_44]; by_cases q9 : (v_1998 : Int32).toInt = 0; have gp_2030 := x_1978.resolve_left (fun h9 => h9 q9); clear x_1978; have gp_2031 := x_1934.resolve_left (fun h9 => h9 gp_2030.1); clear x_1934; have gp_2032 := x_1886.resolve_left (fun h9 => h9 gp_2031.1); clear x_1886; have gz_2033 := x_1730.symm.trans gp_2032.1; have gz_2034 := x_1692.symm.trans gz_2033; (right; omega); exact .inl q9), (by simp only [fe_2035, mz_45, true_and, and_true, or_true, true_or, false_or, or_false, false_and, and_false, not_true_eq_false, not_false_eq_true] <;> first | omega | (simp only [Int32.lt_iff_toInt_lt, Int32.le_iff_toInt_le, Int32.reduceToInt, ← Int32.toInt_inj, true_and, and_true, or_true, true_or, false_or, or_false, false_and, and_false, not_true_eq_false, not_false_eq_true] <;> omega))⟩
          · simp only [Int32.lt_iff_toInt_lt, Int32.le_iff_toInt_le, Int32.reduceToInt, ← Int32.toInt_inj] at h_1723
            refine v_aload_n hC dX12_readLoss_98 rfl ?_
            refine v_ldcwS hC sr_X12_293 dX12_readLoss_99 ?_
            refine v_vi hC (rest := []) m_1 e_1700 rfl mi_X12_is ms_X12_is (p_X12_is hW_1693 k_0 (by decide)) mx_X12_is ml_X12_152 (by decide) rfl (cells1 := 0) (slots1 := 0) (by decide) (by decide) (Nat.le_of_ble_eq_true rfl) (Nat.le_of_ble_eq_true rfl) rfl (Nat.le_of_ble_eq_true rfl) dX12_readLoss_102 (fun r_2036 L_2037 f_2038 h_2039 => ?_)
            obtain ⟨rfl, rfl, rfl⟩ := h_2039
            refine v_istore_n hC dX12_readLoss_105 (by decide) (lv' := [(3, .int (iw (f_1688 a_0) (f_1688 (q 4)) 74)), (2, .int v_74), (1, .int v_49), (0, .ref a_0)]) rfl ?_
            refine v_iload_n hC dX12_readLoss_106 rfl ?_
            refine v_if_ne hC dX12_readLoss_107 (tgt := 124) (by decide) (fun h_2042 => ?_) (fun h_2042 => ?_)
            · simp only [Int32.lt_iff_toInt_lt, Int32.le_iff_toInt_le, Int32.reduceToInt, ← Int32.toInt_inj] at h_2042
              refine v_aload_n hC dX12_readLoss_124 rfl ?_
              refine v_vi hC (rest := []) m_1 e_1700 rfl mi_X12_good ms_X12_good (p_X12_good hW_1693 k_0) mx_X12_good ml_X12_139 (by decide) rfl (cells1 := 0) (slots1 := 0) (by decide) (by decide) (Nat.le_of_ble_eq_true rfl) (Nat.le_of_ble_eq_true rfl) rfl (Nat.le_of_ble_eq_true rfl) dX12_readLoss_125 (fun r_2043 L_2044 f_2045 h_2046 => ?_)
              obtain ⟨rfl, rfl, b_2047, x_2048⟩ := h_2046
              have fe_2051 : fld (f_1688 a_0) 12 = (v_1713 : Int32).toInt := by rw [e_1700]; rfl
              rw [fe_2051] at x_2048
              clear fe_2051
              try simp only [Int32.reduceToInt, Int64.reduceToInt] at x_2048
              refine v_if_eq hC dX12_readLoss_128 (tgt := 135) (by decide) (fun h_2052 => ?_) (fun h_2052 => ?_)
              · simp only [Int32.lt_iff_toInt_lt, Int32.le_iff_toInt_le, Int32.reduceToInt, ← Int32.toInt_inj] at h_2052
                have g0_2053 := gd_f x_2048 h_2052
                clear x_2048
                clear x_1692
                refine v_aload_n hC dX12_readLoss_135 rfl ?_
                refine v_get hC fl_X12_34 m_1 e_1700 rfl dX12_readLoss_136 ?_
                refine v_iload_n hC dX12_readLoss_139 rfl ?_
                refine v_iload_n hC dX12_readLoss_140 rfl ?_
                refine v_if_eq_f hC dX12_readLoss_141 (tgt := 148) (by decide) (by first | omega | (simp only [Int32.lt_iff_toInt_lt, Int32.le_iff_toInt_le, Int32.reduceToInt, ← Int32.toInt_inj, true_and, and_true, or_true, true_or, false_or, or_false, false_and, and_false, not_true_eq_false, not_false_eq_true] <;> omega)) ?_
                refine v_iconst hC dX12_readLoss_144 (v := 1) (by decide) ?_
                refine v_goto hC dX12_readLoss_145 (tgt := 149) (by decide) ?_
                refine v_iast hC m_22 hf_1699 (vp_in_iff.mpr (by first | omega | (simp only [Int32.lt_iff_toInt_lt, Int32.le_iff_toInt_le, Int32.reduceToInt, ← Int32.toInt_inj, true_and, and_true, or_true, true_or, false_or, or_false, false_and, and_false, not_true_eq_false, not_false_eq_true] <;> omega))) dX12_readLoss_149 (fun f_2056 hf_2057 hk_2058 => ?_)
                have hW_2060 := hW_1693.up hf_2057 hk_2058 t_23 ⟨_, rfl, (o_f.up (by first | omega | (simp only [Int32.lt_iff_toInt_lt, Int32.le_iff_toInt_le, Int32.reduceToInt, ← Int32.toInt_inj, true_and, and_true, or_true, true_or, false_or, or_false, false_and, and_false, not_true_eq_false, not_false_eq_true] <;> omega)) (fun q1 q2 => (by first | omega | (simp only [Int32.lt_iff_toInt_lt, Int32.le_iff_toInt_le, Int32.reduceToInt, ← Int32.toInt_inj] at *; omega))) (fun k9 q1 q2 q3 => (by first | omega | (simp only [Int32.lt_iff_toInt_lt, Int32.le_iff_toInt_le, Int32.reduceToInt, ← Int32.toInt_inj] at *; omega))))⟩
                obtain ⟨g_2059, hf_2057, ok_2061, eg_2062⟩ : ∃ g9, f_2056 (q 14) = aI E 2076 g9 ∧ FOK g9 ∧ g9 = upd g_f (v_49 : Int32).toNatClampNeg 1 := ⟨_, hf_2057, (o_f.up (by first | omega | (simp only [Int32.lt_iff_toInt_lt, Int32.le_iff_toInt_le, Int32.reduceToInt, ← Int32.toInt_inj, true_and, and_true, or_true, true_or, false_or, or_false, false_and, and_false, not_true_eq_false, not_false_eq_true] <;> omega)) (fun q1 q2 => (by first | omega | (simp only [Int32.lt_iff_toInt_lt, Int32.le_iff_toInt_le, Int32.reduceToInt, ← Int32.toInt_inj] at *; omega))) (fun k9 q1 q2 q3 => (by first | omega | (simp only [Int32.lt_iff_toInt_lt, Int32.le_iff_toInt_le, Int32.reduceToInt, ← Int32.toInt_inj] at *; omega)))), rfl⟩
                have hf_2063 := (hk_2058 a_0 (ne_kd e_1700 hf_1699 rfl)).trans e_1700
                have fr_2064 := FR.w hk_2058 hf_1699 (k := 2176) rfl
                have lk_2065 := lk_at (g0 := g_f) eg_2062 (by omega) (by omega)
                have ag_2066 := (AG.rf o_f).st eg_2062 (by omega) (by omega)
                try simp only [Int32.reduceToInt] at lk_2065
                refine v_aload_n hC dX12_readLoss_150 rfl ?_
                refine v_get hC fl_X12_34 m_1 hf_2063 rfl dX12_readLoss_151 ?_
                refine v_iload_n hC dX12_readLoss_154 rfl ?_
                refine v_iconst hC dX12_readLoss_155 (v := 1) (by decide) ?_
                obtain ⟨v_2067, h_2068⟩ : ∃ v9 : Int32, v_49 + 1 = v9 := ⟨_, rfl⟩
                refine v_iadd hC dX12_readLoss_156 h_2068 ?_
                have h_2069 := add_v h_2068 (by first | omega | (simp only [Int32.lt_iff_toInt_lt, Int32.le_iff_toInt_le, Int32.reduceToInt, ← Int32.toInt_inj, true_and, and_true, or_true, true_or, false_or, or_false, false_and, and_false, not_true_eq_false, not_false_eq_true] <;> omega)) (by first | omega | (simp only [Int32.lt_iff_toInt_lt, Int32.le_iff_toInt_le, Int32.reduceToInt, ← Int32.toInt_inj, true_and, and_true, or_true, true_or, false_or, or_false, false_and, and_false, not_true_eq_false, not_false_eq_true] <;> omega))
                try simp only [Int32.reduceToInt] at h_2069
                refine v_aload_n hC dX12_readLoss_157 rfl ?_
                refine v_iconst hC dX12_readLoss_158 (v := 0) (by decide) ?_
                refine v_bipush hC dX12_readLoss_159 (v := 15) (by decide) ?_
                refine v_vi hC (rest := [.int v_2067, .ref (q 14)]) m_1 hf_2063 rfl mi_X12_number ms_X12_number (p_X12_number hW_2060 k_0) mx_X12_number ml_X12_170 (by decide) rfl (cells1 := 0) (slots1 := 0) (by decide) (by decide) (Nat.le_of_ble_eq_true rfl) (Nat.le_of_ble_eq_true rfl) rfl (Nat.le_of_ble_eq_true rfl) dX12_readLoss_161 (fun r_2070 L_2071 f_2072 h_2073 => ?_)
                obtain ⟨rfl, hW_2075, hF_2076, -, -, -, -, -, x_2074⟩ := h_2073
                have fe_2077 : fld (f_2056 a_0) 8 = (v_1706 : Int32).toInt := by rw [hf_2063]; rfl
                have fe_2078 : fld (f_2056 a_0) 10 = (v_1710 : Int32).toInt := by rw [hf_2063]; rfl
                have fe_2079 : fld (f_2056 a_0) 12 = (v_1713 : Int32).toInt := by rw [hf_2063]; rfl
                have hf_2080 := hF_2076.at hf_2057 rfl
                obtain ⟨v_2082, v_2083, v_2085, v_2087, v_2089, v_2091, v_2093, v_2094, v_2095, v_2096, v_2098, e_2081, b_2084, b_2086, b_2088, b_2090, b_2092, b_2097, b_2099⟩ := hW_2075.at m_1 t_2
                have fe_2100 : fld (f_2072 a_0) 8 = (v_2087 : Int32).toInt := by rw [e_2081]; rfl
                have fe_2101 : fld (f_2072 a_0) 9 = (v_2089 : Int32).toInt := by rw [e_2081]; rfl
                have fe_2102 : fld (f_2072 a_0) 10 = (v_2091 : Int32).toInt := by rw [e_2081]; rfl
                have fe_2103 : fld (f_2072 a_0) 12 = (v_2094 : Int32).toInt := by rw [e_2081]; rfl
                rw [fe_2103, fe_2079, fe_2078, fe_2077, fe_2101, fe_2100, fe_2102] at x_2074
                have nb_2104 : ¬ (v_2094 : Int32).toInt = 0 := x_2074.elim id (fun h9 => absurd h9.1 g0_2053)
                clear x_2074
                clear fe_2077 fe_2078 fe_2079 fe_2100 fe_2101 fe_2102 fe_2103
                try simp only [Int32.reduceToInt, Int64.reduceToInt] at x_2074
                refine v_iast hC m_22 hf_2080 (vp_in_iff.mpr (by first | omega | (simp only [Int32.lt_iff_toInt_lt, Int32.le_iff_toInt_le, Int32.reduceToInt, ← Int32.toInt_inj, true_and, and_true, or_true, true_or, false_or, or_false, false_and, and_false, not_true_eq_false, not_false_eq_true] <;> omega))) dX12_readLoss_164 (fun f_2105 hf_2106 hk_2107 => ?_)
                have hW_2109 := hW_2075.up hf_2106 hk_2107 t_23 ⟨_, rfl, (ok_2061.up (by first | omega | (simp only [Int32.lt_iff_toInt_lt, Int32.le_iff_toInt_le, Int32.reduceToInt, ← Int32.toInt_inj, true_and, and_true, or_true, true_or, false_or, or_false, false_and, and_false, not_true_eq_false, not_false_eq_true] <;> omega)) (fun q1 q2 => (by first | omega | (simp only [Int32.lt_iff_toInt_lt, Int32.le_iff_toInt_le, Int32.reduceToInt, ← Int32.toInt_inj] at *; omega))) (fun k9 q1 q2 q3 => (by first | omega | (simp only [Int32.lt_iff_toInt_lt, Int32.le_iff_toInt_le, Int32.reduceToInt, ← Int32.toInt_inj] at *; omega))))⟩
                obtain ⟨g_2108, hf_2106, ok_2110, eg_2111⟩ : ∃ g9, f_2105 (q 14) = aI E 2076 g9 ∧ FOK g9 ∧ g9 = upd g_2059 (v_2067 : Int32).toNatClampNeg r_2070 := ⟨_, hf_2106, (ok_2061.up (by first | omega | (simp only [Int32.lt_iff_toInt_lt, Int32.le_iff_toInt_le, Int32.reduceToInt, ← Int32.toInt_inj, true_and, and_true, or_true, true_or, false_or, or_false, false_and, and_false, not_true_eq_false, not_false_eq_true] <;> omega)) (fun q1 q2 => (by first | omega | (simp only [Int32.lt_iff_toInt_lt, Int32.le_iff_toInt_le, Int32.reduceToInt, ← Int32.toInt_inj] at *; omega))) (fun k9 q1 q2 q3 => (by first | omega | (simp only [Int32.lt_iff_toInt_lt, Int32.le_iff_toInt_le, Int32.reduceToInt, ← Int32.toInt_inj] at *; omega)))), rfl⟩
                have hf_2112 := (hk_2107 a_0 (ne_kd e_2081 hf_2080 rfl)).trans e_2081
                have fr_2113 := FR.w hk_2107 hf_2080 (k := 2176) rfl
                have lk_2114 := lf_at (g0 := g_f) eg_2111 (by omega) (by omega)
                have ag_2115 := ag_2066.st eg_2111 (by omega) (by omega)
                try simp only [Int32.reduceToInt] at lk_2114
                refine v_aload_n hC dX12_readLoss_165 rfl ?_
                refine v_get hC fl_X12_34 m_1 hf_2112 rfl dX12_readLoss_166 ?_
                refine v_iload_n hC dX12_readLoss_169 rfl ?_
                refine v_iconst hC dX12_readLoss_170 (v := 2) (by decide) ?_
                obtain ⟨v_2116, h_2117⟩ : ∃ v9 : Int32, v_49 + 2 = v9 := ⟨_, rfl⟩
                refine v_iadd hC dX12_readLoss_171 h_2117 ?_
                have h_2118 := add_v h_2117 (by first | omega | (simp only [Int32.lt_iff_toInt_lt, Int32.le_iff_toInt_le, Int32.reduceToInt, ← Int32.toInt_inj, true_and, and_true, or_true, true_or, false_or, or_false, false_and, and_false, not_true_eq_false, not_false_eq_true] <;> omega)) (by first | omega | (simp only [Int32.lt_iff_toInt_lt, Int32.le_iff_toInt_le, Int32.reduceToInt, ← Int32.toInt_inj, true_and, and_true, or_true, true_or, false_or, or_false, false_and, and_false, not_true_eq_false, not_false_eq_true] <;> omega))
                try simp only [Int32.reduceToInt] at h_2118
                refine v_aload_n hC dX12_readLoss_172 rfl ?_
                refine v_ldcwS hC sr_X12_295 dX12_readLoss_173 ?_
                refine v_aload_n hC dX12_readLoss_176 rfl ?_
                refine v_get hC fl_X12_34 m_1 hf_2112 rfl dX12_readLoss_177 ?_
                refine v_iload_n hC dX12_readLoss_180 rfl ?_
                refine v_iconst hC dX12_readLoss_181 (v := 1) (by decide) ?_
                obtain ⟨v_2119, h_2120⟩ : ∃ v9 : Int32, v_49 + 1 = v9 := ⟨_, rfl⟩
                refine v_iadd hC dX12_readLoss_182 h_2120 ?_
                have h_2121 := add_v h_2120 (by first | omega | (simp only [Int32.lt_iff_toInt_lt, Int32.le_iff_toInt_le, Int32.reduceToInt, ← Int32.toInt_inj, true_and, and_true, or_true, true_or, false_or, or_false, false_and, and_false, not_true_eq_false, not_false_eq_true] <;> omega)) (by first | omega | (simp only [Int32.lt_iff_toInt_lt, Int32.le_iff_toInt_le, Int32.reduceToInt, ← Int32.toInt_inj, true_and, and_true, or_true, true_or, false_or, or_false, false_and, and_false, not_true_eq_false, not_false_eq_true] <;> omega))
                try simp only [Int32.reduceToInt] at h_2121
                obtain ⟨v_2122, h_2123⟩ : ∃ v9 : Int32, g_2108 (v_2119 : Int32).toNatClampNeg = v9 := ⟨_, rfl⟩
                refine v_iald hC m_22 hf_2106 (vp_in_iff.mpr (by first | omega | (simp only [Int32.lt_iff_toInt_lt, Int32.le_iff_toInt_le, Int32.reduceToInt, ← Int32.toInt_inj, true_and, and_true, or_true, true_or, false_or, or_false, false_and, and_false, not_true_eq_false, not_false_eq_true] <;> omega))) h_2123 dX12_readLoss_183 ?_
                refine v_bipush hC dX12_readLoss_184 (v := 15) (by decide) ?_
                refine v_vi hC (rest := [.int v_2116, .ref (q 14)]) m_1 hf_2112 rfl mi_X12_told ms_X12_told (p_X12_told hW_2109 k_0 (by decide)) mx_X12_told ml_X12_189 (by decide) rfl (cells1 := 0) (slots1 := 0) (by decide) (by decide) (Nat.le_of_ble_eq_true rfl) (Nat.le_of_ble_eq_true rfl) rfl (Nat.le_of_ble_eq_true rfl) dX12_readLoss_186 (fun r_2124 L_2125 f_2126 h_2127 => ?_)
                obtain ⟨rfl, hW_2129, hF_2130, -, -, -, -, -, x_2128⟩ := h_2127
                have fe_2131 : fld (f_2105 a_0) 8 = (v_2087 : Int32).toInt := by rw [hf_2112]; rfl
                have fe_2132 : fld (f_2105 a_0) 12 = (v_2094 : Int32).toInt := by rw [hf_2112]; rfl
                have hf_2133 := hF_2130.at hf_2106 rfl
                obtain ⟨v_2135, v_2136, v_2138, v_2140, v_2142, v_2144, v_2146, v_2147, v_2148, v_2149, v_2151, e_2134, b_2137, b_2139, b_2141, b_2143, b_2145, b_2150, b_2152⟩ := hW_2129.at m_1 t_2
                have fe_2153 : fld (f_2126 a_0) 8 = (v_2140 : Int32).toInt := by rw [e_2134]; rfl
                have fe_2154 : fld (f_2126 a_0) 9 = (v_2142 : Int32).toInt := by rw [e_2134]; rfl
                have fe_2155 : fld (f_2126 a_0) 10 = (v_2144 : Int32).toInt := by rw [e_2134]; rfl
                have fe_2156 : fld (f_2126 a_0) 12 = (v_2147 : Int32).toInt := by rw [e_2134]; rfl
                rw [fe_2156, fe_2132, fe_2131, fe_2154, fe_2153, fe_2155] at x_2128
                have nb_2157 : ¬ (v_2147 : Int32).toInt = 0 := x_2128.elim id (fun h9 => absurd h9.1 nb_2104)
                clear x_2128
                clear fe_2131 fe_2132 fe_2153 fe_2154 fe_2155 fe_2156
                try simp only [Int32.reduceToInt, Int64.reduceToInt] at x_2128
                refine v_iast hC m_22 hf_2133 (vp_in_iff.mpr (by first | omega | (simp only [Int32.lt_iff_toInt_lt, Int32.le_iff_toInt_le, Int32.reduceToInt, ← Int32.toInt_inj, true_and, and_true, or_true, true_or, false_or, or_false, false_and, and_false, not_true_eq_false, not_false_eq_true] <;> omega))) dX12_readLoss_189 (fun f_2158 hf_2159 hk_2160 => ?_)
                have hW_2162 := hW_2129.up hf_2159 hk_2160 t_23 ⟨_, rfl, (ok_2110.up (by first | omega | (simp only [Int32.lt_iff_toInt_lt, Int32.le_iff_toInt_le, Int32.reduceToInt, ← Int32.toInt_inj, true_and, and_true, or_true, true_or, false_or, or_false, false_and, and_false, not_true_eq_false, not_false_eq_true] <;> omega)) (fun q1 q2 => (by first | omega | (simp only [Int32.lt_iff_toInt_lt, Int32.le_iff_toInt_le, Int32.reduceToInt, ← Int32.toInt_inj] at *; omega))) (fun k9 q1 q2 q3 => (by first | omega | (simp only [Int32.lt_iff_toInt_lt, Int32.le_iff_toInt_le, Int32.reduceToInt, ← Int32.toInt_inj] at *; omega))))⟩
                obtain ⟨g_2161, hf_2159, ok_2163, eg_2164⟩ : ∃ g9, f_2158 (q 14) = aI E 2076 g9 ∧ FOK g9 ∧ g9 = upd g_2108 (v_2116 : Int32).toNatClampNeg r_2124 := ⟨_, hf_2159, (ok_2110.up (by first | omega | (simp only [Int32.lt_iff_toInt_lt, Int32.le_iff_toInt_le, Int32.reduceToInt, ← Int32.toInt_inj, true_and, and_true, or_true, true_or, false_or, or_false, false_and, and_false, not_true_eq_false, not_false_eq_true] <;> omega)) (fun q1 q2 => (by first | omega | (simp only [Int32.lt_iff_toInt_lt, Int32.le_iff_toInt_le, Int32.reduceToInt, ← Int32.toInt_inj] at *; omega))) (fun k9 q1 q2 q3 => (by first | omega | (simp only [Int32.lt_iff_toInt_lt, Int32.le_iff_toInt_le, Int32.reduceToInt, ← Int32.toInt_inj] at *; omega)))), rfl⟩
                have hf_2165 := (hk_2160 a_0 (ne_kd e_2134 hf_2133 rfl)).trans e_2134
                have fr_2166 := FR.w hk_2160 hf_2133 (k := 2176) rfl
                have lk_2167 := l2_at (g0 := g_f) eg_2164 (by omega) (by omega)
                have ag_2168 := ag_2115.st eg_2164 (by omega) (by omega)
                try simp only [Int32.reduceToInt] at lk_2167
                refine v_goto hC dX12_readLoss_190 (tgt := 258) (by decide) ?_
                refine v_aload_n hC dX12_readLoss_258 rfl ?_
                refine v_vv hC (rest := []) m_1 hf_2165 rfl mi_X12_ends ms_X12_ends (p_X12_ends hW_2162 k_0) mx_X12_ends ml_X12_178 (by decide) rfl (cells1 := 0) (slots1 := 0) (by decide) (by decide) (Nat.le_of_ble_eq_true rfl) (Nat.le_of_ble_eq_true rfl) rfl (Nat.le_of_ble_eq_true rfl) dX12_readLoss_259 (fun L_2170 f_2171 h_2172 => ?_)
                obtain ⟨rfl, hW_2174, hF_2175, -, -, -, -, x_2173⟩ := h_2172
                have fe_2176 : fld (f_2158 a_0) 8 = (v_2140 : Int32).toInt := by rw [hf_2165]; rfl
                have fe_2177 : fld (f_2158 a_0) 10 = (v_2144 : Int32).toInt := by rw [hf_2165]; rfl
                have fe_2178 : fld (f_2158 a_0) 12 = (v_2147 : Int32).toInt := by rw [hf_2165]; rfl
                have hf_2179 := hF_2175.at hf_2159 rfl
                obtain ⟨v_2181, v_2182, v_2184, v_2186, v_2188, v_2190, v_2192, v_2193, v_2194, v_2195, v_2197, e_2180, b_2183, b_2185, b_2187, b_2189, b_2191, b_2196, b_2198⟩ := hW_2174.at m_1 t_2
                have fe_2199 : fld (f_2171 a_0) 8 = (v_2186 : Int32).toInt := by rw [e_2180]; rfl
                have fe_2200 : fld (f_2171 a_0) 9 = (v_2188 : Int32).toInt := by rw [e_2180]; rfl
                have fe_2201 : fld (f_2171 a_0) 10 = (v_2190 : Int32).toInt := by rw [e_2180]; rfl
                have fe_2202 : fld (f_2171 a_0) 12 = (v_2193 : Int32).toInt := by rw [e_2180]; rfl
                rw [fe_2202, fe_2178, fe_2177, fe_2176, fe_2200, fe_2199, fe_2201] at x_2173
                have nb_2203 : ¬ (v_2193 : Int32).toInt = 0 := x_2173.elim id (fun h9 => absurd h9.1 nb_2157)
                clear x_2173
                clear fe_2176 fe_2177 fe_2178 fe_2199 fe_2200 fe_2201 fe_2202
                refine v_aload_n hC dX12_readLoss_262 rfl ?_
                refine v_get hC fl_X12_34 m_1 e_2180 rfl dX12_readLoss_263 ?_
                refine v_bipush hC dX12_readLoss_266 (v := 6) (by decide) ?_
                refine v_dup2 hC dX12_readLoss_268 rfl rfl ?_
                have l6_2204 : (g_2161 6).toInt = (g_f 6).toInt := congrArg Int32.toInt ag_2168.2.1
                refine v_iald hC m_22 hf_2179 (vp_in_iff.mpr (by decide)) (v := g_2161 6) rfl dX12_readLoss_269 ?_
                refine v_iconst hC dX12_readLoss_270 (v := 1) (by decide) ?_
                obtain ⟨v_2205, h_2206⟩ : ∃ v9 : Int32, (g_2161 6) + 1 = v9 := ⟨_, rfl⟩
                refine v_iadd hC dX12_readLoss_271 h_2206 ?_
                have h_2207 := add_v h_2206 (by first | omega | (simp only [Int32.lt_iff_toInt_lt, Int32.le_iff_toInt_le, Int32.reduceToInt, ← Int32.toInt_inj, true_and, and_true, or_true, true_or, false_or, or_false, false_and, and_false, not_true_eq_false, not_false_eq_true] <;> omega)) (by first | omega | (simp only [Int32.lt_iff_toInt_lt, Int32.le_iff_toInt_le, Int32.reduceToInt, ← Int32.toInt_inj, true_and, and_true, or_true, true_or, false_or, or_false, false_and, and_false, not_true_eq_false, not_false_eq_true] <;> omega))
                try simp only [Int32.reduceToInt] at h_2207
                refine v_iast hC m_22 hf_2179 (vp_in_iff.mpr (by decide)) dX12_readLoss_272 (fun f_2208 hf_2209 hk_2210 => ?_)
                have hW_2212 := hW_2174.up hf_2209 hk_2210 t_23 ⟨_, rfl, (ok_2163.up (i := 6) (by decide) (fun q1 q2 => absurd (And.intro q1 q2) (by decide)) (fun k9 q1 q2 q3 => by simp only [Int32.reduceToInt] at q3; omega))⟩
                obtain ⟨g_2211, hf_2209, ok_2213, eg_2214⟩ : ∃ g9, f_2208 (q 14) = aI E 2076 g9 ∧ FOK g9 ∧ g9 = upd g_2161 (6 : Int32).toNatClampNeg v_2205 := ⟨_, hf_2209, (ok_2163.up (i := 6) (by decide) (fun q1 q2 => absurd (And.intro q1 q2) (by decide)) (fun k9 q1 q2 q3 => by simp only [Int32.reduceToInt] at q3; omega)), rfl⟩
                have hf_2215 := (hk_2210 a_0 (ne_kd e_2180 hf_2179 rfl)).trans e_2180
                have fr_2216 := FR.w hk_2210 hf_2179 (k := 2176) rfl
                have ln6_2217 := FOK.n6 ag_2168.1 eg_2214
                have ln6_2217_t : (g_2211 6).toInt = v_2205.toInt := congrArg Int32.toInt ln6_2217.2
                have fe_2218 : fld (f_2208 a_0) 12 = (v_2193 : Int32).toInt := by rw [hf_2215]; rfl
                have fe_2219 : fld (f_2208 a_0) 8 = (v_2186 : Int32).toInt := by rw [hf_2215]; rfl
                have fe_2220 : fld (f_2208 a_0) 12 = (v_2193 : Int32).toInt := by rw [hf_2215]; rfl
                have fe_2221 : fld (f_2208 a_0) 20 = (v_2197 : Int32).toInt := by rw [hf_2215]; rfl
                exact hR _ _ _ _ _ _ dX12_readLoss_273 (Nat.le_of_ble_eq_true rfl) (Nat.le_of_ble_eq_true rfl) ⟨rfl, hW_2212, (((((((((hF_1650.tr hF_1694).tr fr_2064).tr hF_2076).tr fr_2113).tr hF_2130).tr fr_2166).tr hF_2175).tr fr_2216).mono rfl), ⟨_, hf_2209, ln6_2217.1, (by omega), (by rw [fe_2218]; exact .inl nb_2203)⟩, (by rw [fe_2219, fe_2220, mz_43, mz_44]; exact .inl nb_2203), (by simp only [fe_2221, mz_45, true_and, and_true, or_true, true_or, false_or, or_false, false_and, and_false, not_true_eq_false, not_false_eq_true] <;> first | omega | (simp only [Int32.lt_iff_toInt_lt, Int32.le_iff_toInt_le, Int32.reduceToInt, ← Int32.toInt_inj, true_and, and_true, or_true, true_or, false_or, or_false, false_and, and_false, not_true_eq_false, not_false_eq_true] <;> omega))⟩
              · simp only [Int32.lt_iff_toInt_lt, Int32.le_iff_toInt_le, Int32.reduceToInt, ← Int32.toInt_inj] at h_2052
                have g0_2054 := gd_t x_2048 h_2052
                clear x_2048
                have gz_2055 := x_1692.symm.trans g0_2054
                refine v_aload_n hC dX12_readLoss_131 rfl ?_
                refine v_vv hC (rest := []) m_1 e_1700 rfl mi_X12_advance ms_X12_advance (p_X12_advance hW_1693 k_0) mx_X12_advance ml_X12_156 (by decide) rfl (cells1 := 0) (slots1 := 0) (by decide) (by decide) (Nat.le_of_ble_eq_true rfl) (Nat.le_of_ble_eq_true rfl) rfl (Nat.le_of_ble_eq_true rfl) dX12_readLoss_132 (fun L_2223 f_2224 h_2225 => ?_)
                obtain ⟨rfl, hW_2229, hF_2230, x_2226, x_2227, x_2228, -⟩ := h_2225
                have fe_2231 : fld (f_1688 a_0) 8 = (v_1706 : Int32).toInt := by rw [e_1700]; rfl
                have fe_2232 : fld (f_1688 a_0) 12 = (v_1713 : Int32).toInt := by rw [e_1700]; rfl
                have hf_2233 := hF_2230.at hf_1699 rfl
                obtain ⟨v_2235, v_2236, v_2238, v_2240, v_2242, v_2244, v_2246, v_2247, v_2248, v_2249, v_2251, e_2234, b_2237, b_2239, b_2241, b_2243, b_2245, b_2250, b_2252⟩ := hW_2229.at m_1 t_2
                have fe_2253 : fld (f_2224 a_0) 8 = (v_2240 : Int32).toInt := by rw [e_2234]; rfl
                have fe_2254 : fld (f_2224 a_0) 9 = (v_2242 : Int32).toInt := by rw [e_2234]; rfl
                have fe_2255 : fld (f_2224 a_0) 10 = (v_2244 : Int32).toInt := by rw [e_2234]; rfl
                have fe_2256 : fld (f_2224 a_0) 12 = (v_2247 : Int32).toInt := by rw [e_2234]; rfl
                rw [fe_2231, fe_2254, fe_2253] at x_2226
                rw [fe_2255, fe_2254, fe_2253] at x_2227
                rw [fe_2256, fe_2232] at x_2228
                clear fe_2231 fe_2232 fe_2253 fe_2254 fe_2255 fe_2256
                refine v_aload_n hC dX12_readLoss_135 rfl ?_
                refine v_get hC fl_X12_34 m_1 e_2234 rfl dX12_readLoss_136 ?_
                refine v_iload_n hC dX12_readLoss_139 rfl ?_
                refine v_iload_n hC dX12_readLoss_140 rfl ?_
                refine v_if_eq_f hC dX12_readLoss_141 (tgt := 148) (by decide) (by first | omega | (simp only [Int32.lt_iff_toInt_lt, Int32.le_iff_toInt_le, Int32.reduceToInt, ← Int32.toInt_inj, true_and, and_true, or_true, true_or, false_or, or_false, false_and, and_false, not_true_eq_false, not_false_eq_true] <;> omega)) ?_
                refine v_iconst hC dX12_readLoss_144 (v := 1) (by decide) ?_
                refine v_goto hC dX12_readLoss_145 (tgt := 149) (by decide) ?_
                refine v_iast hC m_22 hf_2233 (vp_in_iff.mpr (by first | omega | (simp only [Int32.lt_iff_toInt_lt, Int32.le_iff_toInt_le, Int32.reduceToInt, ← Int32.toInt_inj, true_and, and_true, or_true, true_or, false_or, or_false, false_and, and_false, not_true_eq_false, not_false_eq_true] <;> omega))) dX12_readLoss_149 (fun f_2257 hf_2258 hk_2259 => ?_)
                have hW_2261 := hW_2229.up hf_2258 hk_2259 t_23 ⟨_, rfl, (o_f.up (by first | omega | (simp only [Int32.lt_iff_toInt_lt, Int32.le_iff_toInt_le, Int32.reduceToInt, ← Int32.toInt_inj, true_and, and_true, or_true, true_or, false_or, or_false, false_and, and_false, not_true_eq_false, not_false_eq_true] <;> omega)) (fun q1 q2 => (by first | omega | (simp only [Int32.lt_iff_toInt_lt, Int32.le_iff_toInt_le, Int32.reduceToInt, ← Int32.toInt_inj] at *; omega))) (fun k9 q1 q2 q3 => (by first | omega | (simp only [Int32.lt_iff_toInt_lt, Int32.le_iff_toInt_le, Int32.reduceToInt, ← Int32.toInt_inj] at *; omega))))⟩
                obtain ⟨g_2260, hf_2258, ok_2262, eg_2263⟩ : ∃ g9, f_2257 (q 14) = aI E 2076 g9 ∧ FOK g9 ∧ g9 = upd g_f (v_49 : Int32).toNatClampNeg 1 := ⟨_, hf_2258, (o_f.up (by first | omega | (simp only [Int32.lt_iff_toInt_lt, Int32.le_iff_toInt_le, Int32.reduceToInt, ← Int32.toInt_inj, true_and, and_true, or_true, true_or, false_or, or_false, false_and, and_false, not_true_eq_false, not_false_eq_true] <;> omega)) (fun q1 q2 => (by first | omega | (simp only [Int32.lt_iff_toInt_lt, Int32.le_iff_toInt_le, Int32.reduceToInt, ← Int32.toInt_inj] at *; omega))) (fun k9 q1 q2 q3 => (by first | omega | (simp only [Int32.lt_iff_toInt_lt, Int32.le_iff_toInt_le, Int32.reduceToInt, ← Int32.toInt_inj] at *; omega)))), rfl⟩
                have hf_2264 := (hk_2259 a_0 (ne_kd e_2234 hf_2233 rfl)).trans e_2234
                have fr_2265 := FR.w hk_2259 hf_2233 (k := 2176) rfl
                have lk_2266 := lk_at (g0 := g_f) eg_2263 (by omega) (by omega)
                have ag_2267 := (AG.rf o_f).st eg_2263 (by omega) (by omega)
                try simp only [Int32.reduceToInt] at lk_2266
                refine v_aload_n hC dX12_readLoss_150 rfl ?_
                refine v_get hC fl_X12_34 m_1 hf_2264 rfl dX12_readLoss_151 ?_
                refine v_iload_n hC dX12_readLoss_154 rfl ?_
                refine v_iconst hC dX12_readLoss_155 (v := 1) (by decide) ?_
                obtain ⟨v_2268, h_2269⟩ : ∃ v9 : Int32, v_49 + 1 = v9 := ⟨_, rfl⟩
                refine v_iadd hC dX12_readLoss_156 h_2269 ?_
                have h_2270 := add_v h_2269 (by first | omega | (simp only [Int32.lt_iff_toInt_lt, Int32.le_iff_toInt_le, Int32.reduceToInt, ← Int32.toInt_inj, true_and, and_true, or_true, true_or, false_or, or_false, false_and, and_false, not_true_eq_false, not_false_eq_true] <;> omega)) (by first | omega | (simp only [Int32.lt_iff_toInt_lt, Int32.le_iff_toInt_le, Int32.reduceToInt, ← Int32.toInt_inj, true_and, and_true, or_true, true_or, false_or, or_false, false_and, and_false, not_true_eq_false, not_false_eq_true] <;> omega))
                try simp only [Int32.reduceToInt] at h_2270
                refine v_aload_n hC dX12_readLoss_157 rfl ?_
                refine v_iconst hC dX12_readLoss_158 (v := 0) (by decide) ?_
                refine v_bipush hC dX12_readLoss_159 (v := 15) (by decide) ?_
                refine v_vi hC (rest := [.int v_2268, .ref (q 14)]) m_1 hf_2264 rfl mi_X12_number ms_X12_number (p_X12_number hW_2261 k_0) mx_X12_number ml_X12_170 (by decide) rfl (cells1 := 0) (slots1 := 0) (by decide) (by decide) (Nat.le_of_ble_eq_true rfl) (Nat.le_of_ble_eq_true rfl) rfl (Nat.le_of_ble_eq_true rfl) dX12_readLoss_161 (fun r_2271 L_2272 f_2273 h_2274 => ?_)
                obtain ⟨rfl, hW_2276, hF_2277, -, -, -, -, -, x_2275⟩ := h_2274
                have fe_2278 : fld (f_2257 a_0) 8 = (v_2240 : Int32).toInt := by rw [hf_2264]; rfl
                have fe_2279 : fld (f_2257 a_0) 10 = (v_2244 : Int32).toInt := by rw [hf_2264]; rfl
                have fe_2280 : fld (f_2257 a_0) 12 = (v_2247 : Int32).toInt := by rw [hf_2264]; rfl
                have hf_2281 := hF_2277.at hf_2258 rfl
                obtain ⟨v_2283, v_2284, v_2286, v_2288, v_2290, v_2292, v_2294, v_2295, v_2296, v_2297, v_2299, e_2282, b_2285, b_2287, b_2289, b_2291, b_2293, b_2298, b_2300⟩ := hW_2276.at m_1 t_2
                have fe_2301 : fld (f_2273 a_0) 8 = (v_2288 : Int32).toInt := by rw [e_2282]; rfl
                have fe_2302 : fld (f_2273 a_0) 9 = (v_2290 : Int32).toInt := by rw [e_2282]; rfl
                have fe_2303 : fld (f_2273 a_0) 10 = (v_2292 : Int32).toInt := by rw [e_2282]; rfl
                have fe_2304 : fld (f_2273 a_0) 12 = (v_2295 : Int32).toInt := by rw [e_2282]; rfl
                rw [fe_2304, fe_2280, fe_2279, fe_2278, fe_2302, fe_2301, fe_2303] at x_2275
                clear fe_2278 fe_2279 fe_2280 fe_2301 fe_2302 fe_2303 fe_2304
                try simp only [Int32.reduceToInt, Int64.reduceToInt] at x_2275
                refine v_iast hC m_22 hf_2281 (vp_in_iff.mpr (by first | omega | (simp only [Int32.lt_iff_toInt_lt, Int32.le_iff_toInt_le, Int32.reduceToInt, ← Int32.toInt_inj, true_and, and_true, or_true, true_or, false_or, or_false, false_and, and_false, not_true_eq_false, not_false_eq_true] <;> omega))) dX12_readLoss_164 (fun f_2305 hf_2306 hk_2307 => ?_)
                have hW_2309 := hW_2276.up hf_2306 hk_2307 t_23 ⟨_, rfl, (ok_2262.up (by first | omega | (simp only [Int32.lt_iff_toInt_lt, Int32.le_iff_toInt_le, Int32.reduceToInt, ← Int32.toInt_inj, true_and, and_true, or_true, true_or, false_or, or_false, false_and, and_false, not_true_eq_false, not_false_eq_true] <;> omega)) (fun q1 q2 => (by first | omega | (simp only [Int32.lt_iff_toInt_lt, Int32.le_iff_toInt_le, Int32.reduceToInt, ← Int32.toInt_inj] at *; omega))) (fun k9 q1 q2 q3 => (by first | omega | (simp only [Int32.lt_iff_toInt_lt, Int32.le_iff_toInt_le, Int32.reduceToInt, ← Int32.toInt_inj] at *; omega))))⟩
                obtain ⟨g_2308, hf_2306, ok_2310, eg_2311⟩ : ∃ g9, f_2305 (q 14) = aI E 2076 g9 ∧ FOK g9 ∧ g9 = upd g_2260 (v_2268 : Int32).toNatClampNeg r_2271 := ⟨_, hf_2306, (ok_2262.up (by first | omega | (simp only [Int32.lt_iff_toInt_lt, Int32.le_iff_toInt_le, Int32.reduceToInt, ← Int32.toInt_inj, true_and, and_true, or_true, true_or, false_or, or_false, false_and, and_false, not_true_eq_false, not_false_eq_true] <;> omega)) (fun q1 q2 => (by first | omega | (simp only [Int32.lt_iff_toInt_lt, Int32.le_iff_toInt_le, Int32.reduceToInt, ← Int32.toInt_inj] at *; omega))) (fun k9 q1 q2 q3 => (by first | omega | (simp only [Int32.lt_iff_toInt_lt, Int32.le_iff_toInt_le, Int32.reduceToInt, ← Int32.toInt_inj] at *; omega)))), rfl⟩
                have hf_2312 := (hk_2307 a_0 (ne_kd e_2282 hf_2281 rfl)).trans e_2282
                have fr_2313 := FR.w hk_2307 hf_2281 (k := 2176) rfl
                have lk_2314 := lf_at (g0 := g_f) eg_2311 (by omega) (by omega)
                have ag_2315 := ag_2267.st eg_2311 (by omega) (by omega)
                try simp only [Int32.reduceToInt] at lk_2314
                refine v_aload_n hC dX12_readLoss_165 rfl ?_
                refine v_get hC fl_X12_34 m_1 hf_2312 rfl dX12_readLoss_166 ?_
                refine v_iload_n hC dX12_readLoss_169 rfl ?_
                refine v_iconst hC dX12_readLoss_170 (v := 2) (by decide) ?_
                obtain ⟨v_2316, h_2317⟩ : ∃ v9 : Int32, v_49 + 2 = v9 := ⟨_, rfl⟩
                refine v_iadd hC dX12_readLoss_171 h_2317 ?_
                have h_2318 := add_v h_2317 (by first | omega | (simp only [Int32.lt_iff_toInt_lt, Int32.le_iff_toInt_le, Int32.reduceToInt, ← Int32.toInt_inj, true_and, and_true, or_true, true_or, false_or, or_false, false_and, and_false, not_true_eq_false, not_false_eq_true] <;> omega)) (by first | omega | (simp only [Int32.lt_iff_toInt_lt, Int32.le_iff_toInt_le, Int32.reduceToInt, ← Int32.toInt_inj, true_and, and_true, or_true, true_or, false_or, or_false, false_and, and_false, not_true_eq_false, not_false_eq_true] <;> omega))
                try simp only [Int32.reduceToInt] at h_2318
                refine v_aload_n hC dX12_readLoss_172 rfl ?_
                refine v_ldcwS hC sr_X12_295 dX12_readLoss_173 ?_
                refine v_aload_n hC dX12_readLoss_176 rfl ?_
                refine v_get hC fl_X12_34 m_1 hf_2312 rfl dX12_readLoss_177 ?_
                refine v_iload_n hC dX12_readLoss_180 rfl ?_
                refine v_iconst hC dX12_readLoss_181 (v := 1) (by decide) ?_
                obtain ⟨v_2319, h_2320⟩ : ∃ v9 : Int32, v_49 + 1 = v9 := ⟨_, rfl⟩
                refine v_iadd hC dX12_readLoss_182 h_2320 ?_
                have h_2321 := add_v h_2320 (by first | omega | (simp only [Int32.lt_iff_toInt_lt, Int32.le_iff_toInt_le, Int32.reduceToInt, ← Int32.toInt_inj, true_and, and_true, or_true, true_or, false_or, or_false, false_and, and_false, not_true_eq_false, not_false_eq_true] <;> omega)) (by first | omega | (simp only [Int32.lt_iff_toInt_lt, Int32.le_iff_toInt_le, Int32.reduceToInt, ← Int32.toInt_inj, true_and, and_true, or_true, true_or, false_or, or_false, false_and, and_false, not_true_eq_false, not_false_eq_true] <;> omega))
                try simp only [Int32.reduceToInt] at h_2321
                obtain ⟨v_2322, h_2323⟩ : ∃ v9 : Int32, g_2308 (v_2319 : Int32).toNatClampNeg = v9 := ⟨_, rfl⟩
                refine v_iald hC m_22 hf_2306 (vp_in_iff.mpr (by first | omega | (simp only [Int32.lt_iff_toInt_lt, Int32.le_iff_toInt_le, Int32.reduceToInt, ← Int32.toInt_inj, true_and, and_true, or_true, true_or, false_or, or_false, false_and, and_false, not_true_eq_false, not_false_eq_true] <;> omega))) h_2323 dX12_readLoss_183 ?_
                refine v_bipush hC dX12_readLoss_184 (v := 15) (by decide) ?_
                refine v_vi hC (rest := [.int v_2316, .ref (q 14)]) m_1 hf_2312 rfl mi_X12_told ms_X12_told (p_X12_told hW_2309 k_0 (by decide)) mx_X12_told ml_X12_189 (by decide) rfl (cells1 := 0) (slots1 := 0) (by decide) (by decide) (Nat.le_of_ble_eq_true rfl) (Nat.le_of_ble_eq_true rfl) rfl (Nat.le_of_ble_eq_true rfl) dX12_readLoss_186 (fun r_2324 L_2325 f_2326 h_2327 => ?_)
                obtain ⟨rfl, hW_2329, hF_2330, -, -, -, -, -, x_2328⟩ := h_2327
                have fe_2331 : fld (f_2305 a_0) 8 = (v_2288 : Int32).toInt := by rw [hf_2312]; rfl
                have fe_2332 : fld (f_2305 a_0) 12 = (v_2295 : Int32).toInt := by rw [hf_2312]; rfl
                have hf_2333 := hF_2330.at hf_2306 rfl
                obtain ⟨v_2335, v_2336, v_2338, v_2340, v_2342, v_2344, v_2346, v_2347, v_2348, v_2349, v_2351, e_2334, b_2337, b_2339, b_2341, b_2343, b_2345, b_2350, b_2352⟩ := hW_2329.at m_1 t_2
                have fe_2353 : fld (f_2326 a_0) 8 = (v_2340 : Int32).toInt := by rw [e_2334]; rfl
                have fe_2354 : fld (f_2326 a_0) 9 = (v_2342 : Int32).toInt := by rw [e_2334]; rfl
                have fe_2355 : fld (f_2326 a_0) 10 = (v_2344 : Int32).toInt := by rw [e_2334]; rfl
                have fe_2356 : fld (f_2326 a_0) 12 = (v_2347 : Int32).toInt := by rw [e_2334]; rfl
                rw [fe_2356, fe_2332, fe_2331, fe_2354, fe_2353, fe_2355] at x_2328
                clear fe_2331 fe_2332 fe_2353 fe_2354 fe_2355 fe_2356
                try simp only [Int32.reduceToInt, Int64.reduceToInt] at x_2328
                refine v_iast hC m_22 hf_2333 (vp_in_iff.mpr (by first | omega | (simp only [Int32.lt_iff_toInt_lt, Int32.le_iff_toInt_le, Int32.reduceToInt, ← Int32.toInt_inj, true_and, and_true, or_true, true_or, false_or, or_false, false_and, and_false, not_true_eq_false, not_false_eq_true] <;> omega))) dX12_readLoss_189 (fun f_2357 hf_2358 hk_2359 => ?_)
                have hW_2361 := hW_2329.up hf_2358 hk_2359 t_23 ⟨_, rfl, (ok_2310.up (by first | omega | (simp only [Int32.lt_iff_toInt_lt, Int32.le_iff_toInt_le, Int32.reduceToInt, ← Int32.toInt_inj, true_and, and_true, or_true, true_or, false_or, or_false, false_and, and_false, not_true_eq_false, not_false_eq_true] <;> omega)) (fun q1 q2 => (by first | omega | (simp only [Int32.lt_iff_toInt_lt, Int32.le_iff_toInt_le, Int32.reduceToInt, ← Int32.toInt_inj] at *; omega))) (fun k9 q1 q2 q3 => (by first | omega | (simp only [Int32.lt_iff_toInt_lt, Int32.le_iff_toInt_le, Int32.reduceToInt, ← Int32.toInt_inj] at *; omega))))⟩
                obtain ⟨g_2360, hf_2358, ok_2362, eg_2363⟩ : ∃ g9, f_2357 (q 14) = aI E 2076 g9 ∧ FOK g9 ∧ g9 = upd g_2308 (v_2316 : Int32).toNatClampNeg r_2324 := ⟨_, hf_2358, (ok_2310.up (by first | omega | (simp only [Int32.lt_iff_toInt_lt, Int32.le_iff_toInt_le, Int32.reduceToInt, ← Int32.toInt_inj, true_and, and_true, or_true, true_or, false_or, or_false, false_and, and_false, not_true_eq_false, not_false_eq_true] <;> omega)) (fun q1 q2 => (by first | omega | (simp only [Int32.lt_iff_toInt_lt, Int32.le_iff_toInt_le, Int32.reduceToInt, ← Int32.toInt_inj] at *; omega))) (fun k9 q1 q2 q3 => (by first | omega | (simp only [Int32.lt_iff_toInt_lt, Int32.le_iff_toInt_le, Int32.reduceToInt, ← Int32.toInt_inj] at *; omega)))), rfl⟩
                have hf_2364 := (hk_2359 a_0 (ne_kd e_2334 hf_2333 rfl)).trans e_2334
                have fr_2365 := FR.w hk_2359 hf_2333 (k := 2176) rfl
                have lk_2366 := l2_at (g0 := g_f) eg_2363 (by omega) (by omega)
                have ag_2367 := ag_2315.st eg_2363 (by omega) (by omega)
                try simp only [Int32.reduceToInt] at lk_2366
                refine v_goto hC dX12_readLoss_190 (tgt := 258) (by decide) ?_
                refine v_aload_n hC dX12_readLoss_258 rfl ?_
                refine v_vv hC (rest := []) m_1 hf_2364 rfl mi_X12_ends ms_X12_ends (p_X12_ends hW_2361 k_0) mx_X12_ends ml_X12_178 (by decide) rfl (cells1 := 0) (slots1 := 0) (by decide) (by decide) (Nat.le_of_ble_eq_true rfl) (Nat.le_of_ble_eq_true rfl) rfl (Nat.le_of_ble_eq_true rfl) dX12_readLoss_259 (fun L_2369 f_2370 h_2371 => ?_)
                obtain ⟨rfl, hW_2373, hF_2374, -, -, -, -, x_2372⟩ := h_2371
                have fe_2375 : fld (f_2357 a_0) 8 = (v_2340 : Int32).toInt := by rw [hf_2364]; rfl
                have fe_2376 : fld (f_2357 a_0) 10 = (v_2344 : Int32).toInt := by rw [hf_2364]; rfl
                have fe_2377 : fld (f_2357 a_0) 12 = (v_2347 : Int32).toInt := by rw [hf_2364]; rfl
                have hf_2378 := hF_2374.at hf_2358 rfl
                obtain ⟨v_2380, v_2381, v_2383, v_2385, v_2387, v_2389, v_2391, v_2392, v_2393, v_2394, v_2396, e_2379, b_2382, b_2384, b_2386, b_2388, b_2390, b_2395, b_2397⟩ := hW_2373.at m_1 t_2
                have fe_2398 : fld (f_2370 a_0) 8 = (v_2385 : Int32).toInt := by rw [e_2379]; rfl
                have fe_2399 : fld (f_2370 a_0) 9 = (v_2387 : Int32).toInt := by rw [e_2379]; rfl
                have fe_2400 : fld (f_2370 a_0) 10 = (v_2389 : Int32).toInt := by rw [e_2379]; rfl
                have fe_2401 : fld (f_2370 a_0) 12 = (v_2392 : Int32).toInt := by rw [e_2379]; rfl
                rw [fe_2401, fe_2377, fe_2376, fe_2375, fe_2399, fe_2398, fe_2400] at x_2372
                clear fe_2375 fe_2376 fe_2377 fe_2398 fe_2399 fe_2400 fe_2401
                refine v_aload_n hC dX12_readLoss_262 rfl ?_
                refine v_get hC fl_X12_34 m_1 e_2379 rfl dX12_readLoss_263 ?_
                refine v_bipush hC dX12_readLoss_266 (v := 6) (by decide) ?_
                refine v_dup2 hC dX12_readLoss_268 rfl rfl ?_
                have l6_2402 : (g_2360 6).toInt = (g_f 6).toInt := congrArg Int32.toInt ag_2367.2.1
                refine v_iald hC m_22 hf_2378 (vp_in_iff.mpr (by decide)) (v := g_2360 6) rfl dX12_readLoss_269 ?_
                refine v_iconst hC dX12_readLoss_270 (v := 1) (by decide) ?_
                obtain ⟨v_2403, h_2404⟩ : ∃ v9 : Int32, (g_2360 6) + 1 = v9 := ⟨_, rfl⟩
                refine v_iadd hC dX12_readLoss_271 h_2404 ?_
                have h_2405 := add_v h_2404 (by first | omega | (simp only [Int32.lt_iff_toInt_lt, Int32.le_iff_toInt_le, Int32.reduceToInt, ← Int32.toInt_inj, true_and, and_true, or_true, true_or, false_or, or_false, false_and, and_false, not_true_eq_false, not_false_eq_true] <;> omega)) (by first | omega | (simp only [Int32.lt_iff_toInt_lt, Int32.le_iff_toInt_le, Int32.reduceToInt, ← Int32.toInt_inj, true_and, and_true, or_true, true_or, false_or, or_false, false_and, and_false, not_true_eq_false, not_false_eq_true] <;> omega))
                try simp only [Int32.reduceToInt] at h_2405
                refine v_iast hC m_22 hf_2378 (vp_in_iff.mpr (by decide)) dX12_readLoss_272 (fun f_2406 hf_2407 hk_2408 => ?_)
                have hW_2410 := hW_2373.up hf_2407 hk_2408 t_23 ⟨_, rfl, (ok_2362.up (i := 6) (by decide) (fun q1 q2 => absurd (And.intro q1 q2) (by decide)) (fun k9 q1 q2 q3 => by simp only [Int32.reduceToInt] at q3; omega))⟩
                obtain ⟨g_2409, hf_2407, ok_2411, eg_2412⟩ : ∃ g9, f_2406 (q 14) = aI E 2076 g9 ∧ FOK g9 ∧ g9 = upd g_2360 (6 : Int32).toNatClampNeg v_2403 := ⟨_, hf_2407, (ok_2362.up (i := 6) (by decide) (fun q1 q2 => absurd (And.intro q1 q2) (by decide)) (fun k9 q1 q2 q3 => by simp only [Int32.reduceToInt] at q3; omega)), rfl⟩
                have hf_2413 := (hk_2408 a_0 (ne_kd e_2379 hf_2378 rfl)).trans e_2379
                have fr_2414 := FR.w hk_2408 hf_2378 (k := 2176) rfl
                have ln6_2415 := FOK.n6 ag_2367.1 eg_2412
                have ln6_2415_t : (g_2409 6).toInt = v_2403.toInt := congrArg Int32.toInt ln6_2415.2
                have fe_2416 : fld (f_2406 a_0) 12 = (v_2392 : Int32).toInt := by rw [hf_2413]; rfl
                have fe_2421 : fld (f_2406 a_0) 8 = (v_2385 : Int32).toInt := by rw [hf_2413]; rfl
                have fe_2422 : fld (f_2406 a_0) 12 = (v_2392 : Int32).toInt := by rw [hf_2413]; rfl
                have fe_2427 : fld (f_2406 a_0) 20 = (v_2396 : Int32).toInt := by rw [hf_2413]; rfl
                exact hR _ _ _ _ _ _ dX12_readLoss_273 (Nat.le_of_ble_eq_true rfl) (Nat.le_of_ble_eq_true rfl) ⟨rfl, hW_2410, ((((((((((hF_1650.tr hF_1694).tr hF_2230).tr fr_2265).tr hF_2277).tr fr_2313).tr hF_2330).tr fr_2365).tr hF_2374).tr fr_2414).mono rfl), ⟨_, hf_2407, ln6_2415.1, (by omega), (by rw [fe_2416]; by_cases q9 : v_2392.toInt = 0; have gp_2417 := x_2372.resolve_left (fun h9 => h9 q9); clear x_2372; have gp_2418 := x_2328.resolve_left (fun h9 => h9 gp_2417.1); clear x_2328; have gp_2419 := x_2275.resolve_left (fun h9 => h9 gp_2418.1); clear x_2275; have gz_2420 := x_2228.symm.trans gp_2419.1; exact .inr (LO.fin hLO ag_2367 eg_2412 (by omega) (by omega) (fun q8 => by omega)); exact .inl q9)⟩, (by rw [fe_2421, fe_2422, mz_43, mz_44]; by_cases q9 : (v_2392 : Int32).toInt = 0; have gp_2423 := x_2372.resolve_left (fun h9 => h9 q9); clear x_2372; have gp_2424 := x_2328.resolve_left (fun h9 => h9 gp_2423.1); clear x_2328; have gp_2425 := x_2275.resolve_left (fun h9 => h9 gp_2424.1); clear x_2275; have gz_2426 := x_2228.symm.trans gp_2425.1; (right; omega); exact .inl q9), (by simp only [fe_2427, mz_45, true_and, and_true, or_true, true_or, false_or, or_false, false_and, and_false, not_true_eq_false, not_false_eq_true] <;> first | omega | (simp only [Int32.lt_iff_toInt_lt, Int32.le_iff_toInt_le, Int32.reduceToInt, ← Int32.toInt_inj, true_and, and_true, or_true, true_or, false_or, or_false, false_and, and_false, not_true_eq_false, not_false_eq_true] <;> omega))⟩
            · simp only [Int32.lt_iff_toInt_lt, Int32.le_iff_toInt_le, Int32.reduceToInt, ← Int32.toInt_inj] at h_2042
              refine v_aload_n hC dX12_readLoss_110 rfl ?_
              refine v_ldcS hC sr_X12_193 dX12_readLoss_111 ?_
              refine v_vi hC (rest := []) m_1 e_1700 rfl mi_X12_is ms_X12_is (p_X12_is hW_1693 k_0 (by decide)) mx_X12_is ml_X12_152 (by decide) rfl (cells1 := 0) (slots1 := 0) (by decide) (by decide) (Nat.le_of_ble_eq_true rfl) (Nat.le_of_ble_eq_true rfl) rfl (Nat.le_of_ble_eq_true rfl) dX12_readLoss_113 (fun r_2428 L_2429 f_2430 h_2431 => ?_)
              obtain ⟨rfl, rfl, rfl⟩ := h_2431
              refine v_if_ne hC dX12_readLoss_116 (tgt := 124) (by decide) (fun h_2434 => ?_) (fun h_2434 => ?_)
              · simp only [Int32.lt_iff_toInt_lt, Int32.le_iff_toInt_le, Int32.reduceToInt, ← Int32.toInt_inj] at h_2434
                refine v_aload_n hC dX12_readLoss_124 rfl ?_
                refine v_vi hC (rest := []) m_1 e_1700 rfl mi_X12_good ms_X12_good (p_X12_good hW_1693 k_0) mx_X12_good ml_X12_139 (by decide) rfl (cells1 := 0) (slots1 := 0) (by decide) (by decide) (Nat.le_of_ble_eq_true rfl) (Nat.le_of_ble_eq_true rfl) rfl (Nat.le_of_ble_eq_true rfl) dX12_readLoss_125 (fun r_2435 L_2436 f_2437 h_2438 => ?_)
                obtain ⟨rfl, rfl, b_2439, x_2440⟩ := h_2438
                have fe_2443 : fld (f_1688 a_0) 12 = (v_1713 : Int32).toInt := by rw [e_1700]; rfl
                rw [fe_2443] at x_2440
                clear fe_2443
                try simp only [Int32.reduceToInt, Int64.reduceToInt] at x_2440
                refine v_if_eq hC dX12_readLoss_128 (tgt := 135) (by decide) (fun h_2444 => ?_) (fun h_2444 => ?_)
                · simp only [Int32.lt_iff_toInt_lt, Int32.le_iff_toInt_le, Int32.reduceToInt, ← Int32.toInt_inj] at h_2444
                  have g0_2445 := gd_f x_2440 h_2444
                  clear x_2440
                  clear x_1692
                  refine v_aload_n hC dX12_readLoss_135 rfl ?_
                  refine v_get hC fl_X12_34 m_1 e_1700 rfl dX12_readLoss_136 ?_
                  refine v_iload_n hC dX12_readLoss_139 rfl ?_
                  refine v_iload_n hC dX12_readLoss_140 rfl ?_
                  refine v_if_eq_t hC dX12_readLoss_141 (tgt := 148) (by decide) (by first | omega | (simp only [Int32.lt_iff_toInt_lt, Int32.le_iff_toInt_le, Int32.reduceToInt, ← Int32.toInt_inj, true_and, and_true, or_true, true_or, false_or, or_false, false_and, and_false, not_true_eq_false, not_false_eq_true] <;> omega)) ?_
                  refine v_iconst hC dX12_readLoss_148 (v := 0) (by decide) ?_
                  refine v_iast hC m_22 hf_1699 (vp_in_iff.mpr (by first | omega | (simp only [Int32.lt_iff_toInt_lt, Int32.le_iff_toInt_le, Int32.reduceToInt, ← Int32.toInt_inj, true_and, and_true, or_true, true_or, false_or, or_false, false_and, and_false, not_true_eq_false, not_false_eq_true] <;> omega))) dX12_readLoss_149 (fun f_2448 hf_2449 hk_2450 => ?_)
                  have hW_2452 := hW_1693.up hf_2449 hk_2450 t_23 ⟨_, rfl, (o_f.up (by first | omega | (simp only [Int32.lt_iff_toInt_lt, Int32.le_iff_toInt_le, Int32.reduceToInt, ← Int32.toInt_inj, true_and, and_true, or_true, true_or, false_or, or_false, false_and, and_false, not_true_eq_false, not_false_eq_true] <;> omega)) (fun q1 q2 => (by first | omega | (simp only [Int32.lt_iff_toInt_lt, Int32.le_iff_toInt_le, Int32.reduceToInt, ← Int32.toInt_inj] at *; omega))) (fun k9 q1 q2 q3 => (by first | omega | (simp only [Int32.lt_iff_toInt_lt, Int32.le_iff_toInt_le, Int32.reduceToInt, ← Int32.toInt_inj] at *; omega))))⟩
                  obtain ⟨g_2451, hf_2449, ok_2453, eg_2454⟩ : ∃ g9, f_2448 (q 14) = aI E 2076 g9 ∧ FOK g9 ∧ g9 = upd g_f (v_49 : Int32).toNatClampNeg 0 := ⟨_, hf_2449, (o_f.up (by first | omega | (simp only [Int32.lt_iff_toInt_lt, Int32.le_iff_toInt_le, Int32.reduceToInt, ← Int32.toInt_inj, true_and, and_true, or_true, true_or, false_or, or_false, false_and, and_false, not_true_eq_false, not_false_eq_true] <;> omega)) (fun q1 q2 => (by first | omega | (simp only [Int32.lt_iff_toInt_lt, Int32.le_iff_toInt_le, Int32.reduceToInt, ← Int32.toInt_inj] at *; omega))) (fun k9 q1 q2 q3 => (by first | omega | (simp only [Int32.lt_iff_toInt_lt, Int32.le_iff_toInt_le, Int32.reduceToInt, ← Int32.toInt_inj] at *; omega)))), rfl⟩
                  have hf_2455 := (hk_2450 a_0 (ne_kd e_1700 hf_1699 rfl)).trans e_1700
                  have fr_2456 := FR.w hk_2450 hf_1699 (k := 2176) rfl
                  have lk_2457 := lk_at (g0 := g_f) eg_2454 (by omega) (by omega)
                  have ag_2458 := (AG.rf o_f).st eg_2454 (by omega) (by omega)
                  try simp only [Int32.reduceToInt] at lk_2457
                  refine v_aload_n hC dX12_readLoss_150 rfl ?_
                  refine v_get hC fl_X12_34 m_1 hf_2455 rfl dX12_readLoss_151 ?_
                  refine v_iload_n hC dX12_readLoss_154 rfl ?_
                  refine v_iconst hC dX12_readLoss_155 (v := 1) (by decide) ?_
                  obtain ⟨v_2459, h_2460⟩ : ∃ v9 : Int32, v_49 + 1 = v9 := ⟨_, rfl⟩
                  refine v_iadd hC dX12_readLoss_156 h_2460 ?_
                  have h_2461 := add_v h_2460 (by first | omega | (simp only [Int32.lt_iff_toInt_lt, Int32.le_iff_toInt_le, Int32.reduceToInt, ← Int32.toInt_inj, true_and, and_true, or_true, true_or, false_or, or_false, false_and, and_false, not_true_eq_false, not_false_eq_true] <;> omega)) (by first | omega | (simp only [Int32.lt_iff_toInt_lt, Int32.le_iff_toInt_le, Int32.reduceToInt, ← Int32.toInt_inj, true_and, and_true, or_true, true_or, false_or, or_false, false_and, and_false, not_true_eq_false, not_false_eq_true] <;> omega))
                  try simp only [Int32.reduceToInt] at h_2461
                  refine v_aload_n hC dX12_readLoss_157 rfl ?_
                  refine v_iconst hC dX12_readLoss_158 (v := 0) (by decide) ?_
                  refine v_bipush hC dX12_readLoss_159 (v := 15) (by decide) ?_
                  refine v_vi hC (rest := [.int v_2459, .ref (q 14)]) m_1 hf_2455 rfl mi_X12_number ms_X12_number (p_X12_number hW_2452 k_0) mx_X12_number ml_X12_170 (by decide) rfl (cells1 := 0) (slots1 := 0) (by decide) (by decide) (Nat.le_of_ble_eq_true rfl) (Nat.le_of_ble_eq_true rfl) rfl (Nat.le_of_ble_eq_true rfl) dX12_readLoss_161 (fun r_2462 L_2463 f_2464 h_2465 => ?_)
                  obtain ⟨rfl, hW_2467, hF_2468, -, -, -, -, -, x_2466⟩ := h_2465
                  have fe_2469 : fld (f_2448 a_0) 8 = (v_1706 : Int32).toInt := by rw [hf_2455]; rfl
                  have fe_2470 : fld (f_2448 a_0) 10 = (v_1710 : Int32).toInt := by rw [hf_2455]; rfl
                  have fe_2471 : fld (f_2448 a_0) 12 = (v_1713 : Int32).toInt := by rw [hf_2455]; rfl
                  have hf_2472 := hF_2468.at hf_2449 rfl
                  obtain ⟨v_2474, v_2475, v_2477, v_2479, v_2481, v_2483, v_2485, v_2486, v_2487, v_2488, v_2490, e_2473, b_2476, b_2478, b_2480, b_2482, b_2484, b_2489, b_2491⟩ := hW_2467.at m_1 t_2
                  have fe_2492 : fld (f_2464 a_0) 8 = (v_2479 : Int32).toInt := by rw [e_2473]; rfl
                  have fe_2493 : fld (f_2464 a_0) 9 = (v_2481 : Int32).toInt := by rw [e_2473]; rfl
                  have fe_2494 : fld (f_2464 a_0) 10 = (v_2483 : Int32).toInt := by rw [e_2473]; rfl
                  have fe_2495 : fld (f_2464 a_0) 12 = (v_2486 : Int32).toInt := by rw [e_2473]; rfl
                  rw [fe_2495, fe_2471, fe_2470, fe_2469, fe_2493, fe_2492, fe_2494] at x_2466
                  have nb_2496 : ¬ (v_2486 : Int32).toInt = 0 := x_2466.elim id (fun h9 => absurd h9.1 g0_2445)
                  clear x_2466
                  clear fe_2469 fe_2470 fe_2471 fe_2492 fe_2493 fe_2494 fe_2495
                  try simp only [Int32.reduceToInt, Int64.reduceToInt] at x_2466
                  refine v_iast hC m_22 hf_2472 (vp_in_iff.mpr (by first | omega | (simp only [Int32.lt_iff_toInt_lt, Int32.le_iff_toInt_le, Int32.reduceToInt, ← Int32.toInt_inj, true_and, and_true, or_true, true_or, false_or, or_false, false_and, and_false, not_true_eq_false, not_false_eq_true] <;> omega))) dX12_readLoss_164 (fun f_2497 hf_2498 hk_2499 => ?_)
                  have hW_2501 := hW_2467.up hf_2498 hk_2499 t_23 ⟨_, rfl, (ok_2453.up (by first | omega | (simp only [Int32.lt_iff_toInt_lt, Int32.le_iff_toInt_le, Int32.reduceToInt, ← Int32.toInt_inj, true_and, and_true, or_true, true_or, false_or, or_false, false_and, and_false, not_true_eq_false, not_false_eq_true] <;> omega)) (fun q1 q2 => (by first | omega | (simp only [Int32.lt_iff_toInt_lt, Int32.le_iff_toInt_le, Int32.reduceToInt, ← Int32.toInt_inj] at *; omega))) (fun k9 q1 q2 q3 => (by first | omega | (simp only [Int32.lt_iff_toInt_lt, Int32.le_iff_toInt_le, Int32.reduceToInt, ← Int32.toInt_inj] at *; omega))))⟩
                  obtain ⟨g_2500, hf_2498, ok_2502, eg_2503⟩ : ∃ g9, f_2497 (q 14) = aI E 2076 g9 ∧ FOK g9 ∧ g9 = upd g_2451 (v_2459 : Int32).toNatClampNeg r_2462 := ⟨_, hf_2498, (ok_2453.up (by first | omega | (simp only [Int32.lt_iff_toInt_lt, Int32.le_iff_toInt_le, Int32.reduceToInt, ← Int32.toInt_inj, true_and, and_true, or_true, true_or, false_or, or_false, false_and, and_false, not_true_eq_false, not_false_eq_true] <;> omega)) (fun q1 q2 => (by first | omega | (simp only [Int32.lt_iff_toInt_lt, Int32.le_iff_toInt_le, Int32.reduceToInt, ← Int32.toInt_inj] at *; omega))) (fun k9 q1 q2 q3 => (by first | omega | (simp only [Int32.lt_iff_toInt_lt, Int32.le_iff_toInt_le, Int32.reduceToInt, ← Int32.toInt_inj] at *; omega)))), rfl⟩
                  have hf_2504 := (hk_2499 a_0 (ne_kd e_2473 hf_2472 rfl)).trans e_2473
                  have fr_2505 := FR.w hk_2499 hf_2472 (k := 2176) rfl
                  have lk_2506 := lf_at (g0 := g_f) eg_2503 (by omega) (by omega)
                  have ag_2507 := ag_2458.st eg_2503 (by omega) (by omega)
                  try simp only [Int32.reduceToInt] at lk_2506
                  refine v_aload_n hC dX12_readLoss_165 rfl ?_
                  refine v_get hC fl_X12_34 m_1 hf_2504 rfl dX12_readLoss_166 ?_
                  refine v_iload_n hC dX12_readLoss_169 rfl ?_
                  refine v_iconst hC dX12_readLoss_170 (v := 2) (by decide) ?_
                  obtain ⟨v_2508, h_2509⟩ : ∃ v9 : Int32, v_49 + 2 = v9 := ⟨_, rfl⟩
                  refine v_iadd hC dX12_readLoss_171 h_2509 ?_
                  have h_2510 := add_v h_2509 (by first | omega | (simp only [Int32.lt_iff_toInt_lt, Int32.le_iff_toInt_le, Int32.reduceToInt, ← Int32.toInt_inj, true_and, and_true, or_true, true_or, false_or, or_false, false_and, and_false, not_true_eq_false, not_false_eq_true] <;> omega)) (by first | omega | (simp only [Int32.lt_iff_toInt_lt, Int32.le_iff_toInt_le, Int32.reduceToInt, ← Int32.toInt_inj, true_and, and_true, or_true, true_or, false_or, or_false, false_and, and_false, not_true_eq_false, not_false_eq_true] <;> omega))
                  try simp only [Int32.reduceToInt] at h_2510
                  refine v_aload_n hC dX12_readLoss_172 rfl ?_
                  refine v_ldcwS hC sr_X12_295 dX12_readLoss_173 ?_
                  refine v_aload_n hC dX12_readLoss_176 rfl ?_
                  refine v_get hC fl_X12_34 m_1 hf_2504 rfl dX12_readLoss_177 ?_
                  refine v_iload_n hC dX12_readLoss_180 rfl ?_
                  refine v_iconst hC dX12_readLoss_181 (v := 1) (by decide) ?_
                  obtain ⟨v_2511, h_2512⟩ : ∃ v9 : Int32, v_49 + 1 = v9 := ⟨_, rfl⟩
                  refine v_iadd hC dX12_readLoss_182 h_2512 ?_
                  have h_2513 := add_v h_2512 (by first | omega | (simp only [Int32.lt_iff_toInt_lt, Int32.le_iff_toInt_le, Int32.reduceToInt, ← Int32.toInt_inj, true_and, and_true, or_true, true_or, false_or, or_false, false_and, and_false, not_true_eq_false, not_false_eq_true] <;> omega)) (by first | omega | (simp only [Int32.lt_iff_toInt_lt, Int32.le_iff_toInt_le, Int32.reduceToInt, ← Int32.toInt_inj, true_and, and_true, or_true, true_or, false_or, or_false, false_and, and_false, not_true_eq_false, not_false_eq_true] <;> omega))
                  try simp only [Int32.reduceToInt] at h_2513
                  obtain ⟨v_2514, h_2515⟩ : ∃ v9 : Int32, g_2500 (v_2511 : Int32).toNatClampNeg = v9 := ⟨_, rfl⟩
                  refine v_iald hC m_22 hf_2498 (vp_in_iff.mpr (by first | omega | (simp only [Int32.lt_iff_toInt_lt, Int32.le_iff_toInt_le, Int32.reduceToInt, ← Int32.toInt_inj, true_and, and_true, or_true, true_or, false_or, or_false, false_and, and_false, not_true_eq_false, not_false_eq_true] <;> omega))) h_2515 dX12_readLoss_183 ?_
                  refine v_bipush hC dX12_readLoss_184 (v := 15) (by decide) ?_
                  refine v_vi hC (rest := [.int v_2508, .ref (q 14)]) m_1 hf_2504 rfl mi_X12_told ms_X12_told (p_X12_told hW_2501 k_0 (by decide)) mx_X12_told ml_X12_189 (by decide) rfl (cells1 := 0) (slots1 := 0) (by decide) (by decide) (Nat.le_of_ble_eq_true rfl) (Nat.le_of_ble_eq_true rfl) rfl (Nat.le_of_ble_eq_true rfl) dX12_readLoss_186 (fun r_2516 L_2517 f_2518 h_2519 => ?_)
                  obtain ⟨rfl, hW_2521, hF_2522, -, -, -, -, -, x_2520⟩ := h_2519
                  have fe_2523 : fld (f_2497 a_0) 8 = (v_2479 : Int32).toInt := by rw [hf_2504]; rfl
                  have fe_2524 : fld (f_2497 a_0) 12 = (v_2486 : Int32).toInt := by rw [hf_2504]; rfl
                  have hf_2525 := hF_2522.at hf_2498 rfl
                  obtain ⟨v_2527, v_2528, v_2530, v_2532, v_2534, v_2536, v_2538, v_2539, v_2540, v_2541, v_2543, e_2526, b_2529, b_2531, b_2533, b_2535, b_2537, b_2542, b_2544⟩ := hW_2521.at m_1 t_2
                  have fe_2545 : fld (f_2518 a_0) 8 = (v_2532 : Int32).toInt := by rw [e_2526]; rfl
                  have fe_2546 : fld (f_2518 a_0) 9 = (v_2534 : Int32).toInt := by rw [e_2526]; rfl
                  have fe_2547 : fld (f_2518 a_0) 10 = (v_2536 : Int32).toInt := by rw [e_2526]; rfl
                  have fe_2548 : fld (f_2518 a_0) 12 = (v_2539 : Int32).toInt := by rw [e_2526]; rfl
                  rw [fe_2548, fe_2524, fe_2523, fe_2546, fe_2545, fe_2547] at x_2520
                  have nb_2549 : ¬ (v_2539 : Int32).toInt = 0 := x_2520.elim id (fun h9 => absurd h9.1 nb_2496)
                  clear x_2520
                  clear fe_2523 fe_2524 fe_2545 fe_2546 fe_2547 fe_2548
                  try simp only [Int32.reduceToInt, Int64.reduceToInt] at x_2520
                  refine v_iast hC m_22 hf_2525 (vp_in_iff.mpr (by first | omega | (simp only [Int32.lt_iff_toInt_lt, Int32.le_iff_toInt_le, Int32.reduceToInt, ← Int32.toInt_inj, true_and, and_true, or_true, true_or, false_or, or_false, false_and, and_false, not_true_eq_false, not_false_eq_true] <;> omega))) dX12_readLoss_189 (fun f_2550 hf_2551 hk_2552 => ?_)
                  have hW_2554 := hW_2521.up hf_2551 hk_2552 t_23 ⟨_, rfl, (ok_2502.up (by first | omega | (simp only [Int32.lt_iff_toInt_lt, Int32.le_iff_toInt_le, Int32.reduceToInt, ← Int32.toInt_inj, true_and, and_true, or_true, true_or, false_or, or_false, false_and, and_false, not_true_eq_false, not_false_eq_true] <;> omega)) (fun q1 q2 => (by first | omega | (simp only [Int32.lt_iff_toInt_lt, Int32.le_iff_toInt_le, Int32.reduceToInt, ← Int32.toInt_inj] at *; omega))) (fun k9 q1 q2 q3 => (by first | omega | (simp only [Int32.lt_iff_toInt_lt, Int32.le_iff_toInt_le, Int32.reduceToInt, ← Int32.toInt_inj] at *; omega))))⟩
                  obtain ⟨g_2553, hf_2551, ok_2555, eg_2556⟩ : ∃ g9, f_2550 (q 14) = aI E 2076 g9 ∧ FOK g9 ∧ g9 = upd g_2500 (v_2508 : Int32).toNatClampNeg r_2516 := ⟨_, hf_2551, (ok_2502.up (by first | omega | (simp only [Int32.lt_iff_toInt_lt, Int32.le_iff_toInt_le, Int32.reduceToInt, ← Int32.toInt_inj, true_and, and_true, or_true, true_or, false_or, or_false, false_and, and_false, not_true_eq_false, not_false_eq_true] <;> omega)) (fun q1 q2 => (by first | omega | (simp only [Int32.lt_iff_toInt_lt, Int32.le_iff_toInt_le, Int32.reduceToInt, ← Int32.toInt_inj] at *; omega))) (fun k9 q1 q2 q3 => (by first | omega | (simp only [Int32.lt_iff_toInt_lt, Int32.le_iff_toInt_le, Int32.reduceToInt, ← Int32.toInt_inj] at *; omega)))), rfl⟩
                  have hf_2557 := (hk_2552 a_0 (ne_kd e_2526 hf_2525 rfl)).trans e_2526
                  have fr_2558 := FR.w hk_2552 hf_2525 (k := 2176) rfl
                  have lk_2559 := l2_at (g0 := g_f) eg_2556 (by omega) (by omega)
                  have ag_2560 := ag_2507.st eg_2556 (by omega) (by omega)
                  try simp only [Int32.reduceToInt] at lk_2559
                  refine v_goto hC dX12_readLoss_190 (tgt := 258) (by decide) ?_
                  refine v_aload_n hC dX12_readLoss_258 rfl ?_
                  refine v_vv hC (rest := []) m_1 hf_2557 rfl mi_X12_ends ms_X12_ends (p_X12_ends hW_2554 k_0) mx_X12_ends ml_X12_178 (by decide) rfl (cells1 := 0) (slots1 := 0) (by decide) (by decide) (Nat.le_of_ble_eq_true rfl) (Nat.le_of_ble_eq_true rfl) rfl (Nat.le_of_ble_eq_true rfl) dX12_readLoss_259 (fun L_2562 f_2563 h_2564 => ?_)
                  obtain ⟨rfl, hW_2566, hF_2567, -, -, -, -, x_2565⟩ := h_2564
                  have fe_2568 : fld (f_2550 a_0) 8 = (v_2532 : Int32).toInt := by rw [hf_2557]; rfl
                  have fe_2569 : fld (f_2550 a_0) 10 = (v_2536 : Int32).toInt := by rw [hf_2557]; rfl
                  have fe_2570 : fld (f_2550 a_0) 12 = (v_2539 : Int32).toInt := by rw [hf_2557]; rfl
                  have hf_2571 := hF_2567.at hf_2551 rfl
                  obtain ⟨v_2573, v_2574, v_2576, v_2578, v_2580, v_2582, v_2584, v_2585, v_2586, v_2587, v_2589, e_2572, b_2575, b_2577, b_2579, b_2581, b_2583, b_2588, b_2590⟩ := hW_2566.at m_1 t_2
                  have fe_2591 : fld (f_2563 a_0) 8 = (v_2578 : Int32).toInt := by rw [e_2572]; rfl
                  have fe_2592 : fld (f_2563 a_0) 9 = (v_2580 : Int32).toInt := by rw [e_2572]; rfl
                  have fe_2593 : fld (f_2563 a_0) 10 = (v_2582 : Int32).toInt := by rw [e_2572]; rfl
                  have fe_2594 : fld (f_2563 a_0) 12 = (v_2585 : Int32).toInt := by rw [e_2572]; rfl
                  rw [fe_2594, fe_2570, fe_2569, fe_2568, fe_2592, fe_2591, fe_2593] at x_2565
                  have nb_2595 : ¬ (v_2585 : Int32).toInt = 0 := x_2565.elim id (fun h9 => absurd h9.1 nb_2549)
                  clear x_2565
                  clear fe_2568 fe_2569 fe_2570 fe_2591 fe_2592 fe_2593 fe_2594
                  refine v_aload_n hC dX12_readLoss_262 rfl ?_
                  refine v_get hC fl_X12_34 m_1 e_2572 rfl dX12_readLoss_263 ?_
                  refine v_bipush hC dX12_readLoss_266 (v := 6) (by decide) ?_
                  refine v_dup2 hC dX12_readLoss_268 rfl rfl ?_
                  have l6_2596 : (g_2553 6).toInt = (g_f 6).toInt := congrArg Int32.toInt ag_2560.2.1
                  refine v_iald hC m_22 hf_2571 (vp_in_iff.mpr (by decide)) (v := g_2553 6) rfl dX12_readLoss_269 ?_
                  refine v_iconst hC dX12_readLoss_270 (v := 1) (by decide) ?_
                  obtain ⟨v_2597, h_2598⟩ : ∃ v9 : Int32, (g_2553 6) + 1 = v9 := ⟨_, rfl⟩
                  refine v_iadd hC dX12_readLoss_271 h_2598 ?_
                  have h_2599 := add_v h_2598 (by first | omega | (simp only [Int32.lt_iff_toInt_lt, Int32.le_iff_toInt_le, Int32.reduceToInt, ← Int32.toInt_inj, true_and, and_true, or_true, true_or, false_or, or_false, false_and, and_false, not_true_eq_false, not_false_eq_true] <;> omega)) (by first | omega | (simp only [Int32.lt_iff_toInt_lt, Int32.le_iff_toInt_le, Int32.reduceToInt, ← Int32.toInt_inj, true_and, and_true, or_true, true_or, false_or, or_false, false_and, and_false, not_true_eq_false, not_false_eq_true] <;> omega))
                  try simp only [Int32.reduceToInt] at h_2599
                  refine v_iast hC m_22 hf_2571 (vp_in_iff.mpr (by decide)) dX12_readLoss_272 (fun f_2600 hf_2601 hk_2602 => ?_)
                  have hW_2604 := hW_2566.up hf_2601 hk_2602 t_23 ⟨_, rfl, (ok_2555.up (i := 6) (by decide) (fun q1 q2 => absurd (And.intro q1 q2) (by decide)) (fun k9 q1 q2 q3 => by simp only [Int32.reduceToInt] at q3; omega))⟩
                  obtain ⟨g_2603, hf_2601, ok_2605, eg_2606⟩ : ∃ g9, f_2600 (q 14) = aI E 2076 g9 ∧ FOK g9 ∧ g9 = upd g_2553 (6 : Int32).toNatClampNeg v_2597 := ⟨_, hf_2601, (ok_2555.up (i := 6) (by decide) (fun q1 q2 => absurd (And.intro q1 q2) (by decide)) (fun k9 q1 q2 q3 => by simp only [Int32.reduceToInt] at q3; omega)), rfl⟩
                  have hf_2607 := (hk_2602 a_0 (ne_kd e_2572 hf_2571 rfl)).trans e_2572
                  have fr_2608 := FR.w hk_2602 hf_2571 (k := 2176) rfl
                  have ln6_2609 := FOK.n6 ag_2560.1 eg_2606
                  have ln6_2609_t : (g_2603 6).toInt = v_2597.toInt := congrArg Int32.toInt ln6_2609.2
                  have fe_2610 : fld (f_2600 a_0) 12 = (v_2585 : Int32).toInt := by rw [hf_2607]; rfl
                  have fe_2611 : fld (f_2600 a_0) 8 = (v_2578 : Int32).toInt := by rw [hf_2607]; rfl
                  have fe_2612 : fld (f_2600 a_0) 12 = (v_2585 : Int32).toInt := by rw [hf_2607]; rfl
                  have fe_2613 : fld (f_2600 a_0) 20 = (v_2589 : Int32).toInt := by rw [hf_2607]; rfl
                  exact hR _ _ _ _ _ _ dX12_readLoss_273 (Nat.le_of_ble_eq_true rfl) (Nat.le_of_ble_eq_true rfl) ⟨rfl, hW_2604, (((((((((hF_1650.tr hF_1694).tr fr_2456).tr hF_2468).tr fr_2505).tr hF_2522).tr fr_2558).tr hF_2567).tr fr_2608).mono rfl), ⟨_, hf_2601, ln6_2609.1, (by omega), (by rw [fe_2610]; exact .inl nb_2595)⟩, (by rw [fe_2611, fe_2612, mz_43, mz_44]; exact .inl nb_2595), (by simp only [fe_2613, mz_45, true_and, and_true, or_true, true_or, false_or, or_false, false_and, and_false, not_true_eq_false, not_false_eq_true] <;> first | omega | (simp only [Int32.lt_iff_toInt_lt, Int32.le_iff_toInt_le, Int32.reduceToInt, ← Int32.toInt_inj, true_and, and_true, or_true, true_or, false_or, or_false, false_and, and_false, not_true_eq_false, not_false_eq_true] <;> omega))⟩
                · simp only [Int32.lt_iff_toInt_lt, Int32.le_iff_toInt_le, Int32.reduceToInt, ← Int32.toInt_inj] at h_2444
                  have g0_2446 := gd_t x_2440 h_2444
                  clear x_2440
                  have gz_2447 := x_1692.symm.trans g0_2446
                  refine v_aload_n hC dX12_readLoss_131 rfl ?_
                  refine v_vv hC (rest := []) m_1 e_1700 rfl mi_X12_advance ms_X12_advance (p_X12_advance hW_1693 k_0) mx_X12_advance ml_X12_156 (by decide) rfl (cells1 := 0) (slots1 := 0) (by decide) (by decide) (Nat.le_of_ble_eq_true rfl) (Nat.le_of_ble_eq_true rfl) rfl (Nat.le_of_ble_eq_true rfl) dX12_readLoss_132 (fun L_2615 f_2616 h_2617 => ?_)
                  obtain ⟨rfl, hW_2621, hF_2622, x_2618, x_2619, x_2620, -⟩ := h_2617
                  have fe_2623 : fld (f_1688 a_0) 8 = (v_1706 : Int32).toInt := by rw [e_1700]; rfl
                  have fe_2624 : fld (f_1688 a_0) 12 = (v_1713 : Int32).toInt := by rw [e_1700]; rfl
                  have hf_2625 := hF_2622.at hf_1699 rfl
                  obtain ⟨v_2627, v_2628, v_2630, v_2632, v_2634, v_2636, v_2638, v_2639, v_2640, v_2641, v_2643, e_2626, b_2629, b_2631, b_2633, b_2635, b_2637, b_2642, b_2644⟩ := hW_2621.at m_1 t_2
                  have fe_2645 : fld (f_2616 a_0) 8 = (v_2632 : Int32).toInt := by rw [e_2626]; rfl
                  have fe_2646 : fld (f_2616 a_0) 9 = (v_2634 : Int32).toInt := by rw [e_2626]; rfl
                  have fe_2647 : fld (f_2616 a_0) 10 = (v_2636 : Int32).toInt := by rw [e_2626]; rfl
                  have fe_2648 : fld (f_2616 a_0) 12 = (v_2639 : Int32).toInt := by rw [e_2626]; rfl
                  rw [fe_2623, fe_2646, fe_2645] at x_2618
                  rw [fe_2647, fe_2646, fe_2645] at x_2619
                  rw [fe_2648, fe_2624] at x_2620
                  clear fe_2623 fe_2624 fe_2645 fe_2646 fe_2647 fe_2648
                  refine v_aload_n hC dX12_readLoss_135 rfl ?_
                  refine v_get hC fl_X12_34 m_1 e_2626 rfl dX12_readLoss_136 ?_
                  refine v_iload_n hC dX12_readLoss_139 rfl ?_
                  refine v_iload_n hC dX12_readLoss_140 rfl ?_
                  refine v_if_eq_t hC dX12_readLoss_141 (tgt := 148) (by decide) (by first | omega | (simp only [Int32.lt_iff_toInt_lt, Int32.le_iff_toInt_le, Int32.reduceToInt, ← Int32.toInt_inj, true_and, and_true, or_true, true_or, false_or, or_false, false_and, and_false, not_true_eq_false, not_false_eq_true] <;> omega)) ?_
                  refine v_iconst hC dX12_readLoss_148 (v := 0) (by decide) ?_
                  refine v_iast hC m_22 hf_2625 (vp_in_iff.mpr (by first | omega | (simp only [Int32.lt_iff_toInt_lt, Int32.le_iff_toInt_le, Int32.reduceToInt, ← Int32.toInt_inj, true_and, and_true, or_true, true_or, false_or, or_false, false_and, and_false, not_true_eq_false, not_false_eq_true] <;> omega))) dX12_readLoss_149 (fun f_2649 hf_2650 hk_2651 => ?_)
                  have hW_2653 := hW_2621.up hf_2650 hk_2651 t_23 ⟨_, rfl, (o_f.up (by first | omega | (simp only [Int32.lt_iff_toInt_lt, Int32.le_iff_toInt_le, Int32.reduceToInt, ← Int32.toInt_inj, true_and, and_true, or_true, true_or, false_or, or_false, false_and, and_false, not_true_eq_false, not_false_eq_true] <;> omega)) (fun q1 q2 => (by first | omega | (simp only [Int32.lt_iff_toInt_lt, Int32.le_iff_toInt_le, Int32.reduceToInt, ← Int32.toInt_inj] at *; omega))) (fun k9 q1 q2 q3 => (by first | omega | (simp only [Int32.lt_iff_toInt_lt, Int32.le_iff_toInt_le, Int32.reduceToInt, ← Int32.toInt_inj] at *; omega))))⟩
                  obtain ⟨g_2652, hf_2650, ok_2654, eg_2655⟩ : ∃ g9, f_2649 (q 14) = aI E 2076 g9 ∧ FOK g9 ∧ g9 = upd g_f (v_49 : Int32).toNatClampNeg 0 := ⟨_, hf_2650, (o_f.up (by first | omega | (simp only [Int32.lt_iff_toInt_lt, Int32.le_iff_toInt_le, Int32.reduceToInt, ← Int32.toInt_inj, true_and, and_true, or_true, true_or, false_or, or_false, false_and, and_false, not_true_eq_false, not_false_eq_true] <;> omega)) (fun q1 q2 => (by first | omega | (simp only [Int32.lt_iff_toInt_lt, Int32.le_iff_toInt_le, Int32.reduceToInt, ← Int32.toInt_inj] at *; omega))) (fun k9 q1 q2 q3 => (by first | omega | (simp only [Int32.lt_iff_toInt_lt, Int32.le_iff_toInt_le, Int32.reduceToInt, ← Int32.toInt_inj] at *; omega)))), rfl⟩
                  have hf_2656 := (hk_2651 a_0 (ne_kd e_2626 hf_2625 rfl)).trans e_2626
                  have fr_2657 := FR.w hk_2651 hf_2625 (k := 2176) rfl
                  have lk_2658 := lk_at (g0 := g_f) eg_2655 (by omega) (by omega)
                  have ag_2659 := (AG.rf o_f).st eg_2655 (by omega) (by omega)
                  try simp only [Int32.reduceToInt] at lk_2658
                  refine v_aload_n hC dX12_readLoss_150 rfl ?_
                  refine v_get hC fl_X12_34 m_1 hf_2656 rfl dX12_readLoss_151 ?_
                  refine v_iload_n hC dX12_readLoss_154 rfl ?_
                  refine v_iconst hC dX12_readLoss_155 (v := 1) (by decide) ?_
                  obtain ⟨v_2660, h_2661⟩ : ∃ v9 : Int32, v_49 + 1 = v9 := ⟨_, rfl⟩
                  refine v_iadd hC dX12_readLoss_156 h_2661 ?_
                  have h_2662 := add_v h_2661 (by first | omega | (simp only [Int32.lt_iff_toInt_lt, Int32.le_iff_toInt_le, Int32.reduceToInt, ← Int32.toInt_inj, true_and, and_true, or_true, true_or, false_or, or_false, false_and, and_false, not_true_eq_false, not_false_eq_true] <;> omega)) (by first | omega | (simp only [Int32.lt_iff_toInt_lt, Int32.le_iff_toInt_le, Int32.reduceToInt, ← Int32.toInt_inj, true_and, and_true, or_true, true_or, false_or, or_false, false_and, and_false, not_true_eq_false, not_false_eq_true] <;> omega))
                  try simp only [Int32.reduceToInt] at h_2662
                  refine v_aload_n hC dX12_readLoss_157 rfl ?_
                  refine v_iconst hC dX12_readLoss_158 (v := 0) (by decide) ?_
                  refine v_bipush hC dX12_readLoss_159 (v := 15) (by decide) ?_
                  refine v_vi hC (rest := [.int v_2660, .ref (q 14)]) m_1 hf_2656 rfl mi_X12_number ms_X12_number (p_X12_number hW_2653 k_0) mx_X12_number ml_X12_170 (by decide) rfl (cells1 := 0) (slots1 := 0) (by decide) (by decide) (Nat.le_of_ble_eq_true rfl) (Nat.le_of_ble_eq_true rfl) rfl (Nat.le_of_ble_eq_true rfl) dX12_readLoss_161 (fun r_2663 L_2664 f_2665 h_2666 => ?_)
                  obtain ⟨rfl, hW_2668, hF_2669, -, -, -, -, -, x_2667⟩ := h_2666
                  have fe_2670 : fld (f_2649 a_0) 8 = (v_2632 : Int32).toInt := by rw [hf_2656]; rfl
                  have fe_2671 : fld (f_2649 a_0) 10 = (v_2636 : Int32).toInt := by rw [hf_2656]; rfl
                  have fe_2672 : fld (f_2649 a_0) 12 = (v_2639 : Int32).toInt := by rw [hf_2656]; rfl
                  have hf_2673 := hF_2669.at hf_2650 rfl
                  obtain ⟨v_2675, v_2676, v_2678, v_2680, v_2682, v_2684, v_2686, v_2687, v_2688, v_2689, v_2691, e_2674, b_2677, b_2679, b_2681, b_2683, b_2685, b_2690, b_2692⟩ := hW_2668.at m_1 t_2
                  have fe_2693 : fld (f_2665 a_0) 8 = (v_2680 : Int32).toInt := by rw [e_2674]; rfl
                  have fe_2694 : fld (f_2665 a_0) 9 = (v_2682 : Int32).toInt := by rw [e_2674]; rfl
                  have fe_2695 : fld (f_2665 a_0) 10 = (v_2684 : Int32).toInt := by rw [e_2674]; rfl
                  have fe_2696 : fld (f_2665 a_0) 12 = (v_2687 : Int32).toInt := by rw [e_2674]; rfl
                  rw [fe_2696, fe_2672, fe_2671, fe_2670, fe_2694, fe_2693, fe_2695] at x_2667
                  clear fe_2670 fe_2671 fe_2672 fe_2693 fe_2694 fe_2695 fe_2696
                  try simp only [Int32.reduceToInt, Int64.reduceToInt] at x_2667
                  refine v_iast hC m_22 hf_2673 (vp_in_iff.mpr (by first | omega | (simp only [Int32.lt_iff_toInt_lt, Int32.le_iff_toInt_le, Int32.reduceToInt, ← Int32.toInt_inj, true_and, and_true, or_true, true_or, false_or, or_false, false_and, and_false, not_true_eq_false, not_false_eq_true] <;> omega))) dX12_readLoss_164 (fun f_2697 hf_2698 hk_2699 => ?_)
                  have hW_2701 := hW_2668.up hf_2698 hk_2699 t_23 ⟨_, rfl, (ok_2654.up (by first | omega | (simp only [Int32.lt_iff_toInt_lt, Int32.le_iff_toInt_le, Int32.reduceToInt, ← Int32.toInt_inj, true_and, and_true, or_true, true_or, false_or, or_false, false_and, and_false, not_true_eq_false, not_false_eq_true] <;> omega)) (fun q1 q2 => (by first | omega | (simp only [Int32.lt_iff_toInt_lt, Int32.le_iff_toInt_le, Int32.reduceToInt, ← Int32.toInt_inj] at *; omega))) (fun k9 q1 q2 q3 => (by first | omega | (simp only [Int32.lt_iff_toInt_lt, Int32.le_iff_toInt_le, Int32.reduceToInt, ← Int32.toInt_inj] at *; omega))))⟩
                  obtain ⟨g_2700, hf_2698, ok_2702, eg_2703⟩ : ∃ g9, f_2697 (q 14) = aI E 2076 g9 ∧ FOK g9 ∧ g9 = upd g_2652 (v_2660 : Int32).toNatClampNeg r_2663 := ⟨_, hf_2698, (ok_2654.up (by first | omega | (simp only [Int32.lt_iff_toInt_lt, Int32.le_iff_toInt_le, Int32.reduceToInt, ← Int32.toInt_inj, true_and, and_true, or_true, true_or, false_or, or_false, false_and, and_false, not_true_eq_false, not_false_eq_true] <;> omega)) (fun q1 q2 => (by first | omega | (simp only [Int32.lt_iff_toInt_lt, Int32.le_iff_toInt_le, Int32.reduceToInt, ← Int32.toInt_inj] at *; omega))) (fun k9 q1 q2 q3 => (by first | omega | (simp only [Int32.lt_iff_toInt_lt, Int32.le_iff_toInt_le, Int32.reduceToInt, ← Int32.toInt_inj] at *; omega)))), rfl⟩
                  have hf_2704 := (hk_2699 a_0 (ne_kd e_2674 hf_2673 rfl)).trans e_2674
                  have fr_2705 := FR.w hk_2699 hf_2673 (k := 2176) rfl
                  have lk_2706 := lf_at (g0 := g_f) eg_2703 (by omega) (by omega)
                  have ag_2707 := ag_2659.st eg_2703 (by omega) (by omega)
                  try simp only [Int32.reduceToInt] at lk_2706
                  refine v_aload_n hC dX12_readLoss_165 rfl ?_
                  refine v_get hC fl_X12_34 m_1 hf_2704 rfl dX12_readLoss_166 ?_
                  refine v_iload_n hC dX12_readLoss_169 rfl ?_
                  refine v_iconst hC dX12_readLoss_170 (v := 2) (by decide) ?_
                  obtain ⟨v_2708, h_2709⟩ : ∃ v9 : Int32, v_49 + 2 = v9 := ⟨_, rfl⟩
                  refine v_iadd hC dX12_readLoss_171 h_2709 ?_
                  have h_2710 := add_v h_2709 (by first | omega | (simp only [Int32.lt_iff_toInt_lt, Int32.le_iff_toInt_le, Int32.reduceToInt, ← Int32.toInt_inj, true_and, and_true, or_true, true_or, false_or, or_false, false_and, and_false, not_true_eq_false, not_false_eq_true] <;> omega)) (by first | omega | (simp only [Int32.lt_iff_toInt_lt, Int32.le_iff_toInt_le, Int32.reduceToInt, ← Int32.toInt_inj, true_and, and_true, or_true, true_or, false_or, or_false, false_and, and_false, not_true_eq_false, not_false_eq_true] <;> omega))
                  try simp only [Int32.reduceToInt] at h_2710
                  refine v_aload_n hC dX12_readLoss_172 rfl ?_
                  refine v_ldcwS hC sr_X12_295 dX12_readLoss_173 ?_
                  refine v_aload_n hC dX12_readLoss_176 rfl ?_
                  refine v_get hC fl_X12_34 m_1 hf_2704 rfl dX12_readLoss_177 ?_
                  refine v_iload_n hC dX12_readLoss_180 rfl ?_
                  refine v_iconst hC dX12_readLoss_181 (v := 1) (by decide) ?_
                  obtain ⟨v_2711, h_2712⟩ : ∃ v9 : Int32, v_49 + 1 = v9 := ⟨_, rfl⟩
                  refine v_iadd hC dX12_readLoss_182 h_2712 ?_
                  have h_2713 := add_v h_2712 (by first | omega | (simp only [Int32.lt_iff_toInt_lt, Int32.le_iff_toInt_le, Int32.reduceToInt, ← Int32.toInt_inj, true_and, and_true, or_true, true_or, false_or, or_false, false_and, and_false, not_true_eq_false, not_false_eq_true] <;> omega)) (by first | omega | (simp only [Int32.lt_iff_toInt_lt, Int32.le_iff_toInt_le, Int32.reduceToInt, ← Int32.toInt_inj, true_and, and_true, or_true, true_or, false_or, or_false, false_and, and_false, not_true_eq_false, not_false_eq_true] <;> omega))
                  try simp only [Int32.reduceToInt] at h_2713
                  obtain ⟨v_2714, h_2715⟩ : ∃ v9 : Int32, g_2700 (v_2711 : Int32).toNatClampNeg = v9 := ⟨_, rfl⟩
                  refine v_iald hC m_22 hf_2698 (vp_in_iff.mpr (by first | omega | (simp only [Int32.lt_iff_toInt_lt, Int32.le_iff_toInt_le, Int32.reduceToInt, ← Int32.toInt_inj, true_and, and_true, or_true, true_or, false_or, or_false, false_and, and_false, not_true_eq_false, not_false_eq_true] <;> omega))) h_2715 dX12_readLoss_183 ?_
                  refine v_bipush hC dX12_readLoss_184 (v := 15) (by decide) ?_
                  refine v_vi hC (rest := [.int v_2708, .ref (q 14)]) m_1 hf_2704 rfl mi_X12_told ms_X12_told (p_X12_told hW_2701 k_0 (by decide)) mx_X12_told ml_X12_189 (by decide) rfl (cells1 := 0) (slots1 := 0) (by decide) (by decide) (Nat.le_of_ble_eq_true rfl) (Nat.le_of_ble_eq_true rfl) rfl (Nat.le_of_ble_eq_true rfl) dX12_readLoss_186 (fun r_2716 L_2717 f_2718 h_2719 => ?_)
                  obtain ⟨rfl, hW_2721, hF_2722, -, -, -, -, -, x_2720⟩ := h_2719
                  have fe_2723 : fld (f_2697 a_0) 8 = (v_2680 : Int32).toInt := by rw [hf_2704]; rfl
                  have fe_2724 : fld (f_2697 a_0) 12 = (v_2687 : Int32).toInt := by rw [hf_2704]; rfl
                  have hf_2725 := hF_2722.at hf_2698 rfl
                  obtain ⟨v_2727, v_2728, v_2730, v_2732, v_2734, v_2736, v_2738, v_2739, v_2740, v_2741, v_2743, e_2726, b_2729, b_2731, b_2733, b_2735, b_2737, b_2742, b_2744⟩ := hW_2721.at m_1 t_2
                  have fe_2745 : fld (f_2718 a_0) 8 = (v_2732 : Int32).toInt := by rw [e_2726]; rfl
                  have fe_2746 : fld (f_2718 a_0) 9 = (v_2734 : Int32).toInt := by rw [e_2726]; rfl
                  have fe_2747 : fld (f_2718 a_0) 10 = (v_2736 : Int32).toInt := by rw [e_2726]; rfl
                  have fe_2748 : fld (f_2718 a_0) 12 = (v_2739 : Int32).toInt := by rw [e_2726]; rfl
                  rw [fe_2748, fe_2724, fe_2723, fe_2746, fe_2745, fe_2747] at x_2720
                  clear fe_2723 fe_2724 fe_2745 fe_2746 fe_2747 fe_2748
                  try simp only [Int32.reduceToInt, Int64.reduceToInt] at x_2720
                  refine v_iast hC m_22 hf_2725 (vp_in_iff.mpr (by first | omega | (simp only [Int32.lt_iff_toInt_lt, Int32.le_iff_toInt_le, Int32.reduceToInt, ← Int32.toInt_inj, true_and, and_true, or_true, true_or, false_or, or_false, false_and, and_false, not_true_eq_false, not_false_eq_true] <;> omega))) dX12_readLoss_189 (fun f_2749 hf_2750 hk_2751 => ?_)
                  have hW_2753 := hW_2721.up hf_2750 hk_2751 t_23 ⟨_, rfl, (ok_2702.up (by first | omega | (simp only [Int32.lt_iff_toInt_lt, Int32.le_iff_toInt_le, Int32.reduceToInt, ← Int32.toInt_inj, true_and, and_true, or_true, true_or, false_or, or_false, false_and, and_false, not_true_eq_false, not_false_eq_true] <;> omega)) (fun q1 q2 => (by first | omega | (simp only [Int32.lt_iff_toInt_lt, Int32.le_iff_toInt_le, Int32.reduceToInt, ← Int32.toInt_inj] at *; omega))) (fun k9 q1 q2 q3 => (by first | omega | (simp only [Int32.lt_iff_toInt_lt, Int32.le_iff_toInt_le, Int32.reduceToInt, ← Int32.toInt_inj] at *; omega))))⟩
                  obtain ⟨g_2752, hf_2750, ok_2754, eg_2755⟩ : ∃ g9, f_2749 (q 14) = aI E 2076 g9 ∧ FOK g9 ∧ g9 = upd g_2700 (v_2708 : Int32).toNatClampNeg r_2716 := ⟨_, hf_2750, (ok_2702.up (by first | omega | (simp only [Int32.lt_iff_toInt_lt, Int32.le_iff_toInt_le, Int32.reduceToInt, ← Int32.toInt_inj, true_and, and_true, or_true, true_or, false_or, or_false, false_and, and_false, not_true_eq_false, not_false_eq_true] <;> omega)) (fun q1 q2 => (by first | omega | (simp only [Int32.lt_iff_toInt_lt, Int32.le_iff_toInt_le, Int32.reduceToInt, ← Int32.toInt_inj] at *; omega))) (fun k9 q1 q2 q3 => (by first | omega | (simp only [Int32.lt_iff_toInt_lt, Int32.le_iff_toInt_le, Int32.reduceToInt, ← Int32.toInt_inj] at *; omega)))), rfl⟩
                  have hf_2756 := (hk_2751 a_0 (ne_kd e_2726 hf_2725 rfl)).trans e_2726
                  have fr_2757 := FR.w hk_2751 hf_2725 (k := 2176) rfl
                  have lk_2758 := l2_at (g0 := g_f) eg_2755 (by omega) (by omega)
                  have ag_2759 := ag_2707.st eg_2755 (by omega) (by omega)
                  try simp only [Int32.reduceToInt] at lk_2758
                  refine v_goto hC dX12_readLoss_190 (tgt := 258) (by decide) ?_
                  refine v_aload_n hC dX12_readLoss_258 rfl ?_
                  refine v_vv hC (rest := []) m_1 hf_2756 rfl mi_X12_ends ms_X12_ends (p_X12_ends hW_2753 k_0) mx_X12_ends ml_X12_178 (by decide) rfl (cells1 := 0) (slots1 := 0) (by decide) (by decide) (Nat.le_of_ble_eq_true rfl) (Nat.le_of_ble_eq_true rfl) rfl (Nat.le_of_ble_eq_true rfl) dX12_readLoss_259 (fun L_2761 f_2762 h_2763 => ?_)
                  obtain ⟨rfl, hW_2765, hF_2766, -, -, -, -, x_2764⟩ := h_2763
                  have fe_2767 : fld (f_2749 a_0) 8 = (v_2732 : Int32).toInt := by rw [hf_2756]; rfl
                  have fe_2768 : fld (f_2749 a_0) 10 = (v_2736 : Int32).toInt := by rw [hf_2756]; rfl
                  have fe_2769 : fld (f_2749 a_0) 12 = (v_2739 : Int32).toInt := by rw [hf_2756]; rfl
                  have hf_2770 := hF_2766.at hf_2750 rfl
                  obtain ⟨v_2772, v_2773, v_2775, v_2777, v_2779, v_2781, v_2783, v_2784, v_2785, v_2786, v_2788, e_2771, b_2774, b_2776, b_2778, b_2780, b_2782, b_2787, b_2789⟩ := hW_2765.at m_1 t_2
                  have fe_2790 : fld (f_2762 a_0) 8 = (v_2777 : Int32).toInt := by rw [e_2771]; rfl
                  have fe_2791 : fld (f_2762 a_0) 9 = (v_2779 : Int32).toInt := by rw [e_2771]; rfl
                  have fe_2792 : fld (f_2762 a_0) 10 = (v_2781 : Int32).toInt := by rw [e_2771]; rfl
                  have fe_2793 : fld (f_2762 a_0) 12 = (v_2784 : Int32).toInt := by rw [e_2771]; rfl
                  rw [fe_2793, fe_2769, fe_2768, fe_2767, fe_2791, fe_2790, fe_2792] at x_2764
                  clear fe_2767 fe_2768 fe_2769 fe_2790 fe_2791 fe_2792 fe_2793
                  refine v_aload_n hC dX12_readLoss_262 rfl ?_
                  refine v_get hC fl_X12_34 m_1 e_2771 rfl dX12_readLoss_263 ?_
                  refine v_bipush hC dX12_readLoss_266 (v := 6) (by decide) ?_
                  refine v_dup2 hC dX12_readLoss_268 rfl rfl ?_
                  have l6_2794 : (g_2752 6).toInt = (g_f 6).toInt := congrArg Int32.toInt ag_2759.2.1
                  refine v_iald hC m_22 hf_2770 (vp_in_iff.mpr (by decide)) (v := g_2752 6) rfl dX12_readLoss_269 ?_
                  refine v_iconst hC dX12_readLoss_270 (v := 1) (by decide) ?_
                  obtain ⟨v_2795, h_2796⟩ : ∃ v9 : Int32, (g_2752 6) + 1 = v9 := ⟨_, rfl⟩
                  refine v_iadd hC dX12_readLoss_271 h_2796 ?_
                  have h_2797 := add_v h_2796 (by first | omega | (simp only [Int32.lt_iff_toInt_lt, Int32.le_iff_toInt_le, Int32.reduceToInt, ← Int32.toInt_inj, true_and, and_true, or_true, true_or, false_or, or_false, false_and, and_false, not_true_eq_false, not_false_eq_true] <;> omega)) (by first | omega | (simp only [Int32.lt_iff_toInt_lt, Int32.le_iff_toInt_le, Int32.reduceToInt, ← Int32.toInt_inj, true_and, and_true, or_true, true_or, false_or, or_false, false_and, and_false, not_true_eq_false, not_false_eq_true] <;> omega))
                  try simp only [Int32.reduceToInt] at h_2797
                  refine v_iast hC m_22 hf_2770 (vp_in_iff.mpr (by decide)) dX12_readLoss_272 (fun f_2798 hf_2799 hk_2800 => ?_)
                  have hW_2802 := hW_2765.up hf_2799 hk_2800 t_23 ⟨_, rfl, (ok_2754.up (i := 6) (by decide) (fun q1 q2 => absurd (And.intro q1 q2) (by decide)) (fun k9 q1 q2 q3 => by simp only [Int32.reduceToInt] at q3; omega))⟩
                  obtain ⟨g_2801, hf_2799, ok_2803, eg_2804⟩ : ∃ g9, f_2798 (q 14) = aI E 2076 g9 ∧ FOK g9 ∧ g9 = upd g_2752 (6 : Int32).toNatClampNeg v_2795 := ⟨_, hf_2799, (ok_2754.up (i := 6) (by decide) (fun q1 q2 => absurd (And.intro q1 q2) (by decide)) (fun k9 q1 q2 q3 => by simp only [Int32.reduceToInt] at q3; omega)), rfl⟩
                  have hf_2805 := (hk_2800 a_0 (ne_kd e_2771 hf_2770 rfl)).trans e_2771
                  have fr_2806 := FR.w hk_2800 hf_2770 (k := 2176) rfl
                  have ln6_2807 := FOK.n6 ag_2759.1 eg_2804
                  have ln6_2807_t : (g_2801 6).toInt = v_2795.toInt := congrArg Int32.toInt ln6_2807.2
                  have fe_2808 : fld (f_2798 a_0) 12 = (v_2784 : Int32).toInt := by rw [hf_2805]; rfl
                  have fe_2813 : fld (f_2798 a_0) 8 = (v_2777 : Int32).toInt := by rw [hf_2805]; rfl
                  have fe_2814 : fld (f_2798 a_0) 12 = (v_2784 : Int32).toInt := by rw [hf_2805]; rfl
                  have fe_2819 : fld (f_2798 a_0) 20 = (v_2788 : Int32).toInt := by rw [hf_2805]; rfl
                  exact hR _ _ _ _ _ _ dX12_readLoss_273 (Nat.le_of_ble_eq_true rfl) (Nat.le_of_ble_eq_true rfl) ⟨rfl, hW_2802, ((((((((((hF_1650.tr hF_1694).tr hF_2622).tr fr_2657).tr hF_2669).tr fr_2705).tr hF_2722).tr fr_2757).tr hF_2766).tr fr_2806).mono rfl), ⟨_, hf_2799, ln6_2807.1, (by omega), (by rw [fe_2808]; by_cases q9 : v_2784.toInt = 0; have gp_2809 := x_2764.resolve_left (fun h9 => h9 q9); clear x_2764; have gp_2810 := x_2720.resolve_left (fun h9 => h9 gp_2809.1); clear x_2720; have gp_2811 := x_2667.resolve_left (fun h9 => h9 gp_2810.1); clear x_2667; have gz_2812 := x_2620.symm.trans gp_2811.1; exact .inr (LO.fin hLO ag_2759 eg_2804 (by omega) (by omega) (fun q8 => by omega)); exact .inl q9)⟩, (by rw [fe_2813, fe_2814, mz_43, mz_44]; by_cases q9 : (v_2784 : Int32).toInt = 0; have gp_2815 := x_2764.resolve_left (fun h9 => h9 q9); clear x_2764; have gp_2816 := x_2720.resolve_left (fun h9 => h9 gp_2815.1); clear x_2720; have gp_2817 := x_2667.resolve_left (fun h9 => h9 gp_2816.1); clear x_2667; have gz_2818 := x_2620.symm.trans gp_2817.1; (right; omega); exact .inl q9), (by simp only [fe_2819, mz_45, true_and, and_true, or_true, true_or, false_or, or_false, false_and, and_false, not_true_eq_false, not_false_eq_true] <;> first | omega | (simp only [Int32.lt_iff_toInt_lt, Int32.le_iff_toInt_le, Int32.reduceToInt, ← Int32.toInt_inj, true_and, and_true, or_true, true_or, false_or, or_false, false_and, and_false, not_true_eq_false, not_false_eq_true] <;> omega))⟩
              · simp only [Int32.lt_iff_toInt_lt, Int32.le_iff_toInt_le, Int32.reduceToInt, ← Int32.toInt_inj] at h_2434
                refine v_aload_n hC dX12_readLoss_119 rfl ?_
                refine v_iconst hC dX12_readLoss_120 (v := 1) (by decide) ?_
                refine v_vv hC (rest := []) m_1 e_1700 rfl mi_X12_errs ms_X12_errs (p_X12_errs hW_1693 k_0 (by decide)) mx_X12_errs ml_X12_162 (by decide) rfl (cells1 := 0) (slots1 := 0) (by decide) (by decide) (Nat.le_of_ble_eq_true rfl) (Nat.le_of_ble_eq_true rfl) rfl (Nat.le_of_ble_eq_true rfl) dX12_readLoss_121 (fun L_2821 f_2822 h_2823 => ?_)
                obtain ⟨rfl, hW_2826, hF_2827, x_2824, x_2825, -, -, -⟩ := h_2823
                have fe_2828 : fld (f_1688 a_0) 8 = (v_1706 : Int32).toInt := by rw [e_1700]; rfl
                have hf_2829 := hF_2827.at hf_1699 rfl
                obtain ⟨v_2831, v_2832, v_2834, v_2836, v_2838, v_2840, v_2842, v_2843, v_2844, v_2845, v_2847, e_2830, b_2833, b_2835, b_2837, b_2839, b_2841, b_2846, b_2848⟩ := hW_2826.at m_1 t_2
                have fe_2849 : fld (f_2822 a_0) 8 = (v_2836 : Int32).toInt := by rw [e_2830]; rfl
                have fe_2850 : fld (f_2822 a_0) 12 = (v_2843 : Int32).toInt := by rw [e_2830]; rfl
                rw [fe_2850] at x_2824
                rw [fe_2849, fe_2828] at x_2825
                clear x_1692
                clear fe_2828 fe_2849 fe_2850
                refine v_aload_n hC dX12_readLoss_124 rfl ?_
                refine v_vi hC (rest := []) m_1 e_2830 rfl mi_X12_good ms_X12_good (p_X12_good hW_2826 k_0) mx_X12_good ml_X12_139 (by decide) rfl (cells1 := 0) (slots1 := 0) (by decide) (by decide) (Nat.le_of_ble_eq_true rfl) (Nat.le_of_ble_eq_true rfl) rfl (Nat.le_of_ble_eq_true rfl) dX12_readLoss_125 (fun r_2851 L_2852 f_2853 h_2854 => ?_)
                obtain ⟨rfl, rfl, b_2855, x_2856⟩ := h_2854
                have fe_2859 : fld (f_2822 a_0) 12 = (v_2843 : Int32).toInt := by rw [e_2830]; rfl
                rw [fe_2859] at x_2856
                clear fe_2859
                try simp only [Int32.reduceToInt, Int64.reduceToInt] at x_2856
                refine v_if_eq hC dX12_readLoss_128 (tgt := 135) (by decide) (fun h_2860 => ?_) (fun h_2860 => ?_)
                · simp only [Int32.lt_iff_toInt_lt, Int32.le_iff_toInt_le, Int32.reduceToInt, ← Int32.toInt_inj] at h_2860
                  have g0_2861 := gd_f x_2856 h_2860
                  clear x_2856
                  refine v_aload_n hC dX12_readLoss_135 rfl ?_
                  refine v_get hC fl_X12_34 m_1 e_2830 rfl dX12_readLoss_136 ?_
                  refine v_iload_n hC dX12_readLoss_139 rfl ?_
                  refine v_iload_n hC dX12_readLoss_140 rfl ?_
                  refine v_if_eq_t hC dX12_readLoss_141 (tgt := 148) (by decide) (by first | omega | (simp only [Int32.lt_iff_toInt_lt, Int32.le_iff_toInt_le, Int32.reduceToInt, ← Int32.toInt_inj, true_and, and_true, or_true, true_or, false_or, or_false, false_and, and_false, not_true_eq_false, not_false_eq_true] <;> omega)) ?_
                  refine v_iconst hC dX12_readLoss_148 (v := 0) (by decide) ?_
                  refine v_iast hC m_22 hf_2829 (vp_in_iff.mpr (by first | omega | (simp only [Int32.lt_iff_toInt_lt, Int32.le_iff_toInt_le, Int32.reduceToInt, ← Int32.toInt_inj, true_and, and_true, or_true, true_or, false_or, or_false, false_and, and_false, not_true_eq_false, not_false_eq_true] <;> omega))) dX12_readLoss_149 (fun f_2863 hf_2864 hk_2865 => ?_)
                  have hW_2867 := hW_2826.up hf_2864 hk_2865 t_23 ⟨_, rfl, (o_f.up (by first | omega | (simp only [Int32.lt_iff_toInt_lt, Int32.le_iff_toInt_le, Int32.reduceToInt, ← Int32.toInt_inj, true_and, and_true, or_true, true_or, false_or, or_false, false_and, and_false, not_true_eq_false, not_false_eq_true] <;> omega)) (fun q1 q2 => (by first | omega | (simp only [Int32.lt_iff_toInt_lt, Int32.le_iff_toInt_le, Int32.reduceToInt, ← Int32.toInt_inj] at *; omega))) (fun k9 q1 q2 q3 => (by first | omega | (simp only [Int32.lt_iff_toInt_lt, Int32.le_iff_toInt_le, Int32.reduceToInt, ← Int32.toInt_inj] at *; omega))))⟩
                  obtain ⟨g_2866, hf_2864, ok_2868, eg_2869⟩ : ∃ g9, f_2863 (q 14) = aI E 2076 g9 ∧ FOK g9 ∧ g9 = upd g_f (v_49 : Int32).toNatClampNeg 0 := ⟨_, hf_2864, (o_f.up (by first | omega | (simp only [Int32.lt_iff_toInt_lt, Int32.le_iff_toInt_le, Int32.reduceToInt, ← Int32.toInt_inj, true_and, and_true, or_true, true_or, false_or, or_false, false_and, and_false, not_true_eq_false, not_false_eq_true] <;> omega)) (fun q1 q2 => (by first | omega | (simp only [Int32.lt_iff_toInt_lt, Int32.le_iff_toInt_le, Int32.reduceToInt, ← Int32.toInt_inj] at *; omega))) (fun k9 q1 q2 q3 => (by first | omega | (simp only [Int32.lt_iff_toInt_lt, Int32.le_iff_toInt_le, Int32.reduceToInt, ← Int32.toInt_inj] at *; omega)))), rfl⟩
                  have hf_2870 := (hk_2865 a_0 (ne_kd e_2830 hf_2829 rfl)).trans e_2830
                  have fr_2871 := FR.w hk_2865 hf_2829 (k := 2176) rfl
                  have lk_2872 := lk_at (g0 := g_f) eg_2869 (by omega) (by omega)
                  have ag_2873 := (AG.rf o_f).st eg_2869 (by omega) (by omega)
                  try simp only [Int32.reduceToInt] at lk_2872
                  refine v_aload_n hC dX12_readLoss_150 rfl ?_
                  refine v_get hC fl_X12_34 m_1 hf_2870 rfl dX12_readLoss_151 ?_
                  refine v_iload_n hC dX12_readLoss_154 rfl ?_
                  refine v_iconst hC dX12_readLoss_155 (v := 1) (by decide) ?_
                  obtain ⟨v_2874, h_2875⟩ : ∃ v9 : Int32, v_49 + 1 = v9 := ⟨_, rfl⟩
                  refine v_iadd hC dX12_readLoss_156 h_2875 ?_
                  have h_2876 := add_v h_2875 (by first | omega | (simp only [Int32.lt_iff_toInt_lt, Int32.le_iff_toInt_le, Int32.reduceToInt, ← Int32.toInt_inj, true_and, and_true, or_true, true_or, false_or, or_false, false_and, and_false, not_true_eq_false, not_false_eq_true] <;> omega)) (by first | omega | (simp only [Int32.lt_iff_toInt_lt, Int32.le_iff_toInt_le, Int32.reduceToInt, ← Int32.toInt_inj, true_and, and_true, or_true, true_or, false_or, or_false, false_and, and_false, not_true_eq_false, not_false_eq_true] <;> omega))
                  try simp only [Int32.reduceToInt] at h_2876
                  refine v_aload_n hC dX12_readLoss_157 rfl ?_
                  refine v_iconst hC dX12_readLoss_158 (v := 0) (by decide) ?_
                  refine v_bipush hC dX12_readLoss_159 (v := 15) (by decide) ?_
                  refine v_vi hC (rest := [.int v_2874, .ref (q 14)]) m_1 hf_2870 rfl mi_X12_number ms_X12_number (p_X12_number hW_2867 k_0) mx_X12_number ml_X12_170 (by decide) rfl (cells1 := 0) (slots1 := 0) (by decide) (by decide) (Nat.le_of_ble_eq_true rfl) (Nat.le_of_ble_eq_true rfl) rfl (Nat.le_of_ble_eq_true rfl) dX12_readLoss_161 (fun r_2877 L_2878 f_2879 h_2880 => ?_)
                  obtain ⟨rfl, hW_2882, hF_2883, -, -, -, -, -, x_2881⟩ := h_2880
                  have fe_2884 : fld (f_2863 a_0) 8 = (v_2836 : Int32).toInt := by rw [hf_2870]; rfl
                  have fe_2885 : fld (f_2863 a_0) 10 = (v_2840 : Int32).toInt := by rw [hf_2870]; rfl
                  have fe_2886 : fld (f_2863 a_0) 12 = (v_2843 : Int32).toInt := by rw [hf_2870]; rfl
                  have hf_2887 := hF_2883.at hf_2864 rfl
                  obtain ⟨v_2889, v_2890, v_2892, v_2894, v_2896, v_2898, v_2900, v_2901, v_2902, v_2903, v_2905, e_2888, b_2891, b_2893, b_2895, b_2897, b_2899, b_2904, b_2906⟩ := hW_2882.at m_1 t_2
                  have fe_2907 : fld (f_2879 a_0) 8 = (v_2894 : Int32).toInt := by rw [e_2888]; rfl
                  have fe_2908 : fld (f_2879 a_0) 9 = (v_2896 : Int32).toInt := by rw [e_2888]; rfl
                  have fe_2909 : fld (f_2879 a_0) 10 = (v_2898 : Int32).toInt := by rw [e_2888]; rfl
                  have fe_2910 : fld (f_2879 a_0) 12 = (v_2901 : Int32).toInt := by rw [e_2888]; rfl
                  rw [fe_2910, fe_2886, fe_2885, fe_2884, fe_2908, fe_2907, fe_2909] at x_2881
                  have nb_2911 : ¬ (v_2901 : Int32).toInt = 0 := x_2881.elim id (fun h9 => absurd h9.1 g0_2861)
                  clear x_2881
                  clear fe_2884 fe_2885 fe_2886 fe_2907 fe_2908 fe_2909 fe_2910
                  try simp only [Int32.reduceToInt, Int64.reduceToInt] at x_2881
                  refine v_iast hC m_22 hf_2887 (vp_in_iff.mpr (by first | omega | (simp only [Int32.lt_iff_toInt_lt, Int32.le_iff_toInt_le, Int32.reduceToInt, ← Int32.toInt_inj, true_and, and_true, or_true, true_or, false_or, or_false, false_and, and_false, not_true_eq_false, not_false_eq_true] <;> omega))) dX12_readLoss_164 (fun f_2912 hf_2913 hk_2914 => ?_)
                  have hW_2916 := hW_2882.up hf_2913 hk_2914 t_23 ⟨_, rfl, (ok_2868.up (by first | omega | (simp only [Int32.lt_iff_toInt_lt, Int32.le_iff_toInt_le, Int32.reduceToInt, ← Int32.toInt_inj, true_and, and_true, or_true, true_or, false_or, or_false, false_and, and_false, not_true_eq_false, not_false_eq_true] <;> omega)) (fun q1 q2 => (by first | omega | (simp only [Int32.lt_iff_toInt_lt, Int32.le_iff_toInt_le, Int32.reduceToInt, ← Int32.toInt_inj] at *; omega))) (fun k9 q1 q2 q3 => (by first | omega | (simp only [Int32.lt_iff_toInt_lt, Int32.le_iff_toInt_le, Int32.reduceToInt, ← Int32.toInt_inj] at *; omega))))⟩
                  obtain ⟨g_2915, hf_2913, ok_2917, eg_2918⟩ : ∃ g9, f_2912 (q 14) = aI E 2076 g9 ∧ FOK g9 ∧ g9 = upd g_2866 (v_2874 : Int32).toNatClampNeg r_2877 := ⟨_, hf_2913, (ok_2868.up (by first | omega | (simp only [Int32.lt_iff_toInt_lt, Int32.le_iff_toInt_le, Int32.reduceToInt, ← Int32.toInt_inj, true_and, and_true, or_true, true_or, false_or, or_false, false_and, and_false, not_true_eq_false, not_false_eq_true] <;> omega)) (fun q1 q2 => (by first | omega | (simp only [Int32.lt_iff_toInt_lt, Int32.le_iff_toInt_le, Int32.reduceToInt, ← Int32.toInt_inj] at *; omega))) (fun k9 q1 q2 q3 => (by first | omega | (simp only [Int32.lt_iff_toInt_lt, Int32.le_iff_toInt_le, Int32.reduceToInt, ← Int32.toInt_inj] at *; omega)))), rfl⟩
                  have hf_2919 := (hk_2914 a_0 (ne_kd e_2888 hf_2887 rfl)).trans e_2888
                  have fr_2920 := FR.w hk_2914 hf_2887 (k := 2176) rfl
                  have lk_2921 := lf_at (g0 := g_f) eg_2918 (by omega) (by omega)
                  have ag_2922 := ag_2873.st eg_2918 (by omega) (by omega)
                  try simp only [Int32.reduceToInt] at lk_2921
                  refine v_aload_n hC dX12_readLoss_165 rfl ?_
                  refine v_get hC fl_X12_34 m_1 hf_2919 rfl dX12_readLoss_166 ?_
                  refine v_iload_n hC dX12_readLoss_169 rfl ?_
                  refine v_iconst hC dX12_readLoss_170 (v := 2) (by decide) ?_
                  obtain ⟨v_2923, h_2924⟩ : ∃ v9 : Int32, v_49 + 2 = v9 := ⟨_, rfl⟩
                  refine v_iadd hC dX12_readLoss_171 h_2924 ?_
                  have h_2925 := add_v h_2924 (by first | omega | (simp only [Int32.lt_iff_toInt_lt, Int32.le_iff_toInt_le, Int32.reduceToInt, ← Int32.toInt_inj, true_and, and_true, or_true, true_or, false_or, or_false, false_and, and_false, not_true_eq_false, not_false_eq_true] <;> omega)) (by first | omega | (simp only [Int32.lt_iff_toInt_lt, Int32.le_iff_toInt_le, Int32.reduceToInt, ← Int32.toInt_inj, true_and, and_true, or_true, true_or, false_or, or_false, false_and, and_false, not_true_eq_false, not_false_eq_true] <;> omega))
                  try simp only [Int32.reduceToInt] at h_2925
                  refine v_aload_n hC dX12_readLoss_172 rfl ?_
                  refine v_ldcwS hC sr_X12_295 dX12_readLoss_173 ?_
                  refine v_aload_n hC dX12_readLoss_176 rfl ?_
                  refine v_get hC fl_X12_34 m_1 hf_2919 rfl dX12_readLoss_177 ?_
                  refine v_iload_n hC dX12_readLoss_180 rfl ?_
                  refine v_iconst hC dX12_readLoss_181 (v := 1) (by decide) ?_
                  obtain ⟨v_2926, h_2927⟩ : ∃ v9 : Int32, v_49 + 1 = v9 := ⟨_, rfl⟩
                  refine v_iadd hC dX12_readLoss_182 h_2927 ?_
                  have h_2928 := add_v h_2927 (by first | omega | (simp only [Int32.lt_iff_toInt_lt, Int32.le_iff_toInt_le, Int32.reduceToInt, ← Int32.toInt_inj, true_and, and_true, or_true, true_or, false_or, or_false, false_and, and_false, not_true_eq_false, not_false_eq_true] <;> omega)) (by first | omega | (simp only [Int32.lt_iff_toInt_lt, Int32.le_iff_toInt_le, Int32.reduceToInt, ← Int32.toInt_inj, true_and, and_true, or_true, true_or, false_or, or_false, false_and, and_false, not_true_eq_false, not_false_eq_true] <;> omega))
                  try simp only [Int32.reduceToInt] at h_2928
                  obtain ⟨v_2929, h_2930⟩ : ∃ v9 : Int32, g_2915 (v_2926 : Int32).toNatClampNeg = v9 := ⟨_, rfl⟩
                  refine v_iald hC m_22 hf_2913 (vp_in_iff.mpr (by first | omega | (simp only [Int32.lt_iff_toInt_lt, Int32.le_iff_toInt_le, Int32.reduceToInt, ← Int32.toInt_inj, true_and, and_true, or_true, true_or, false_or, or_false, false_and, and_false, not_true_eq_false, not_false_eq_true] <;> omega))) h_2930 dX12_readLoss_183 ?_
                  refine v_bipush hC dX12_readLoss_184 (v := 15) (by decide) ?_
                  refine v_vi hC (rest := [.int v_2923, .ref (q 14)]) m_1 hf_2919 rfl mi_X12_told ms_X12_told (p_X12_told hW_2916 k_0 (by decide)) mx_X12_told ml_X12_189 (by decide) rfl (cells1 := 0) (slots1 := 0) (by decide) (by decide) (Nat.le_of_ble_eq_true rfl) (Nat.le_of_ble_eq_true rfl) rfl (Nat.le_of_ble_eq_true rfl) dX12_readLoss_186 (fun r_2931 L_2932 f_2933 h_2934 => ?_)
                  obtain ⟨rfl, hW_2936, hF_2937, -, -, -, -, -, x_2935⟩ := h_2934
                  have fe_2938 : fld (f_2912 a_0) 8 = (v_2894 : Int32).toInt := by rw [hf_2919]; rfl
                  have fe_2939 : fld (f_2912 a_0) 12 = (v_2901 : Int32).toInt := by rw [hf_2919]; rfl
                  have hf_2940 := hF_2937.at hf_2913 rfl
                  obtain ⟨v_2942, v_2943, v_2945, v_2947, v_2949, v_2951, v_2953, v_2954, v_2955, v_2956, v_2958, e_2941, b_2944, b_2946, b_2948, b_2950, b_2952, b_2957, b_2959⟩ := hW_2936.at m_1 t_2
                  have fe_2960 : fld (f_2933 a_0) 8 = (v_2947 : Int32).toInt := by rw [e_2941]; rfl
                  have fe_2961 : fld (f_2933 a_0) 9 = (v_2949 : Int32).toInt := by rw [e_2941]; rfl
                  have fe_2962 : fld (f_2933 a_0) 10 = (v_2951 : Int32).toInt := by rw [e_2941]; rfl
                  have fe_2963 : fld (f_2933 a_0) 12 = (v_2954 : Int32).toInt := by rw [e_2941]; rfl
                  rw [fe_2963, fe_2939, fe_2938, fe_2961, fe_2960, fe_2962] at x_2935
                  have nb_2964 : ¬ (v_2954 : Int32).toInt = 0 := x_2935.elim id (fun h9 => absurd h9.1 nb_2911)
                  clear x_2935
                  clear fe_2938 fe_2939 fe_2960 fe_2961 fe_2962 fe_2963
                  try simp only [Int32.reduceToInt, Int64.reduceToInt] at x_2935
                  refine v_iast hC m_22 hf_2940 (vp_in_iff.mpr (by first | omega | (simp only [Int32.lt_iff_toInt_lt, Int32.le_iff_toInt_le, Int32.reduceToInt, ← Int32.toInt_inj, true_and, and_true, or_true, true_or, false_or, or_false, false_and, and_false, not_true_eq_false, not_false_eq_true] <;> omega))) dX12_readLoss_189 (fun f_2965 hf_2966 hk_2967 => ?_)
                  have hW_2969 := hW_2936.up hf_2966 hk_2967 t_23 ⟨_, rfl, (ok_2917.up (by first | omega | (simp only [Int32.lt_iff_toInt_lt, Int32.le_iff_toInt_le, Int32.reduceToInt, ← Int32.toInt_inj, true_and, and_true, or_true, true_or, false_or, or_false, false_and, and_false, not_true_eq_false, not_false_eq_true] <;> omega)) (fun q1 q2 => (by first | omega | (simp only [Int32.lt_iff_toInt_lt, Int32.le_iff_toInt_le, Int32.reduceToInt, ← Int32.toInt_inj] at *; omega))) (fun k9 q1 q2 q3 => (by first | omega | (simp only [Int32.lt_iff_toInt_lt, Int32.le_iff_toInt_le, Int32.reduceToInt, ← Int32.toInt_inj] at *; omega))))⟩
                  obtain ⟨g_2968, hf_2966, ok_2970, eg_2971⟩ : ∃ g9, f_2965 (q 14) = aI E 2076 g9 ∧ FOK g9 ∧ g9 = upd g_2915 (v_2923 : Int32).toNatClampNeg r_2931 := ⟨_, hf_2966, (ok_2917.up (by first | omega | (simp only [Int32.lt_iff_toInt_lt, Int32.le_iff_toInt_le, Int32.reduceToInt, ← Int32.toInt_inj, true_and, and_true, or_true, true_or, false_or, or_false, false_and, and_false, not_true_eq_false, not_false_eq_true] <;> omega)) (fun q1 q2 => (by first | omega | (simp only [Int32.lt_iff_toInt_lt, Int32.le_iff_toInt_le, Int32.reduceToInt, ← Int32.toInt_inj] at *; omega))) (fun k9 q1 q2 q3 => (by first | omega | (simp only [Int32.lt_iff_toInt_lt, Int32.le_iff_toInt_le, Int32.reduceToInt, ← Int32.toInt_inj] at *; omega)))), rfl⟩
                  have hf_2972 := (hk_2967 a_0 (ne_kd e_2941 hf_2940 rfl)).trans e_2941
                  have fr_2973 := FR.w hk_2967 hf_2940 (k := 2176) rfl
                  have lk_2974 := l2_at (g0 := g_f) eg_2971 (by omega) (by omega)
                  have ag_2975 := ag_2922.st eg_2971 (by omega) (by omega)
                  try simp only [Int32.reduceToInt] at lk_2974
                  refine v_goto hC dX12_readLoss_190 (tgt := 258) (by decide) ?_
                  refine v_aload_n hC dX12_readLoss_258 rfl ?_
                  refine v_vv hC (rest := []) m_1 hf_2972 rfl mi_X12_ends ms_X12_ends (p_X12_ends hW_2969 k_0) mx_X12_ends ml_X12_178 (by decide) rfl (cells1 := 0) (slots1 := 0) (by decide) (by decide) (Nat.le_of_ble_eq_true rfl) (Nat.le_of_ble_eq_true rfl) rfl (Nat.le_of_ble_eq_true rfl) dX12_readLoss_259 (fun L_2977 f_2978 h_2979 => ?_)
                  obtain ⟨rfl, hW_2981, hF_2982, -, -, -, -, x_2980⟩ := h_2979
                  have fe_2983 : fld (f_2965 a_0) 8 = (v_2947 : Int32).toInt := by rw [hf_2972]; rfl
                  have fe_2984 : fld (f_2965 a_0) 10 = (v_2951 : Int32).toInt := by rw [hf_2972]; rfl
                  have fe_2985 : fld (f_2965 a_0) 12 = (v_2954 : Int32).toInt := by rw [hf_2972]; rfl
                  have hf_2986 := hF_2982.at hf_2966 rfl
                  obtain ⟨v_2988, v_2989, v_2991, v_2993, v_2995, v_2997, v_2999, v_3000, v_3001, v_3002, v_3004, e_2987, b_2990, b_2992, b_2994, b_2996, b_2998, b_3003, b_3005⟩ := hW_2981.at m_1 t_2
                  have fe_3006 : fld (f_2978 a_0) 8 = (v_2993 : Int32).toInt := by rw [e_2987]; rfl
                  have fe_3007 : fld (f_2978 a_0) 9 = (v_2995 : Int32).toInt := by rw [e_2987]; rfl
                  have fe_3008 : fld (f_2978 a_0) 10 = (v_2997 : Int32).toInt := by rw [e_2987]; rfl
                  have fe_3009 : fld (f_2978 a_0) 12 = (v_3000 : Int32).toInt := by rw [e_2987]; rfl
                  rw [fe_3009, fe_2985, fe_2984, fe_2983, fe_3007, fe_3006, fe_3008] at x_2980
                  have nb_3010 : ¬ (v_3000 : Int32).toInt = 0 := x_2980.elim id (fun h9 => absurd h9.1 nb_2964)
                  clear x_2980
                  clear fe_2983 fe_2984 fe_2985 fe_3006 fe_3007 fe_3008 fe_3009
                  refine v_aload_n hC dX12_readLoss_262 rfl ?_
                  refine v_get hC fl_X12_34 m_1 e_2987 rfl dX12_readLoss_263 ?_
                  refine v_bipush hC dX12_readLoss_266 (v := 6) (by decide) ?_
                  refine v_dup2 hC dX12_readLoss_268 rfl rfl ?_
                  have l6_3011 : (g_2968 6).toInt = (g_f 6).toInt := congrArg Int32.toInt ag_2975.2.1
                  refine v_iald hC m_22 hf_2986 (vp_in_iff.mpr (by decide)) (v := g_2968 6) rfl dX12_readLoss_269 ?_
                  refine v_iconst hC dX12_readLoss_270 (v := 1) (by decide) ?_
                  obtain ⟨v_3012, h_3013⟩ : ∃ v9 : Int32, (g_2968 6) + 1 = v9 := ⟨_, rfl⟩
                  refine v_iadd hC dX12_readLoss_271 h_3013 ?_
                  have h_3014 := add_v h_3013 (by first | omega | (simp only [Int32.lt_iff_toInt_lt, Int32.le_iff_toInt_le, Int32.reduceToInt, ← Int32.toInt_inj, true_and, and_true, or_true, true_or, false_or, or_false, false_and, and_false, not_true_eq_false, not_false_eq_true] <;> omega)) (by first | omega | (simp only [Int32.lt_iff_toInt_lt, Int32.le_iff_toInt_le, Int32.reduceToInt, ← Int32.toInt_inj, true_and, and_true, or_true, true_or, false_or, or_false, false_and, and_false, not_true_eq_false, not_false_eq_true] <;> omega))
                  try simp only [Int32.reduceToInt] at h_3014
                  refine v_iast hC m_22 hf_2986 (vp_in_iff.mpr (by decide)) dX12_readLoss_272 (fun f_3015 hf_3016 hk_3017 => ?_)
                  have hW_3019 := hW_2981.up hf_3016 hk_3017 t_23 ⟨_, rfl, (ok_2970.up (i := 6) (by decide) (fun q1 q2 => absurd (And.intro q1 q2) (by decide)) (fun k9 q1 q2 q3 => by simp only [Int32.reduceToInt] at q3; omega))⟩
                  obtain ⟨g_3018, hf_3016, ok_3020, eg_3021⟩ : ∃ g9, f_3015 (q 14) = aI E 2076 g9 ∧ FOK g9 ∧ g9 = upd g_2968 (6 : Int32).toNatClampNeg v_3012 := ⟨_, hf_3016, (ok_2970.up (i := 6) (by decide) (fun q1 q2 => absurd (And.intro q1 q2) (by decide)) (fun k9 q1 q2 q3 => by simp only [Int32.reduceToInt] at q3; omega)), rfl⟩
                  have hf_3022 := (hk_3017 a_0 (ne_kd e_2987 hf_2986 rfl)).trans e_2987
                  have fr_3023 := FR.w hk_3017 hf_2986 (k := 2176) rfl
                  have ln6_3024 := FOK.n6 ag_2975.1 eg_3021
                  have ln6_3024_t : (g_3018 6).toInt = v_3012.toInt := congrArg Int32.toInt ln6_3024.2
                  have fe_3025 : fld (f_3015 a_0) 12 = (v_3000 : Int32).toInt := by rw [hf_3022]; rfl
                  have fe_3026 : fld (f_3015 a_0) 8 = (v_2993 : Int32).toInt := by rw [hf_3022]; rfl
                  have fe_3027 : fld (f_3015 a_0) 12 = (v_3000 : Int32).toInt := by rw [hf_3022]; rfl
                  have fe_3028 : fld (f_3015 a_0) 20 = (v_3004 : Int32).toInt := by rw [hf_3022]; rfl
                  exact hR _ _ _ _ _ _ dX12_readLoss_273 (Nat.le_of_ble_eq_true rfl) (Nat.le_of_ble_eq_true rfl) ⟨rfl, hW_3019, ((((((((((hF_1650.tr hF_1694).tr hF_2827).tr fr_2871).tr hF_2883).tr fr_2920).tr hF_2937).tr fr_2973).tr hF_2982).tr fr_3023).mono rfl), ⟨_, hf_3016, ln6_3024.1, (by omega), (by rw [fe_3025]; exact .inl nb_3010)⟩, (by rw [fe_3026, fe_3027, mz_43, mz_44]; exact .inl nb_3010), (by simp only [fe_3028, mz_45, true_and, and_true, or_true, true_or, false_or, or_false, false_and, and_false, not_true_eq_false, not_false_eq_true] <;> first | omega | (simp only [Int32.lt_iff_toInt_lt, Int32.le_iff_toInt_le, Int32.reduceToInt, ← Int32.toInt_inj, true_and, and_true, or_true, true_or, false_or, or_false, false_and, and_false, not_true_eq_false, not_false_eq_true] <;> omega))⟩
                · simp only [Int32.lt_iff_toInt_lt, Int32.le_iff_toInt_le, Int32.reduceToInt, ← Int32.toInt_inj] at h_2860
                  have g0_2862 := gd_t x_2856 h_2860
                  clear x_2856
                  refine v_aload_n hC dX12_readLoss_131 rfl ?_
                  refine v_vv hC (rest := []) m_1 e_2830 rfl mi_X12_advance ms_X12_advance (p_X12_advance hW_2826 k_0) mx_X12_advance ml_X12_156 (by decide) rfl (cells1 := 0) (slots1 := 0) (by decide) (by decide) (Nat.le_of_ble_eq_true rfl) (Nat.le_of_ble_eq_true rfl) rfl (Nat.le_of_ble_eq_true rfl) dX12_readLoss_132 (fun L_3030 f_3031 h_3032 => ?_)
                  obtain ⟨rfl, hW_3036, hF_3037, x_3033, x_3034, x_3035, -⟩ := h_3032
                  have fe_3038 : fld (f_2822 a_0) 8 = (v_2836 : Int32).toInt := by rw [e_2830]; rfl
                  have fe_3039 : fld (f_2822 a_0) 12 = (v_2843 : Int32).toInt := by rw [e_2830]; rfl
                  have hf_3040 := hF_3037.at hf_2829 rfl
                  obtain ⟨v_3042, v_3043, v_3045, v_3047, v_3049, v_3051, v_3053, v_3054, v_3055, v_3056, v_3058, e_3041, b_3044, b_3046, b_3048, b_3050, b_3052, b_3057, b_3059⟩ := hW_3036.at m_1 t_2
                  have fe_3060 : fld (f_3031 a_0) 8 = (v_3047 : Int32).toInt := by rw [e_3041]; rfl
                  have fe_3061 : fld (f_3031 a_0) 9 = (v_3049 : Int32).toInt := by rw [e_3041]; rfl
                  have fe_3062 : fld (f_3031 a_0) 10 = (v_3051 : Int32).toInt := by rw [e_3041]; rfl
                  have fe_3063 : fld (f_3031 a_0) 12 = (v_3054 : Int32).toInt := by rw [e_3041]; rfl
                  rw [fe_3038, fe_3061, fe_3060] at x_3033
                  rw [fe_3062, fe_3061, fe_3060] at x_3034
                  rw [fe_3063, fe_3039] at x_3035
                  clear fe_3038 fe_3039 fe_3060 fe_3061 fe_3062 fe_3063
                  refine v_aload_n hC dX12_readLoss_135 rfl ?_
                  refine v_get hC fl_X12_34 m_1 e_3041 rfl dX12_readLoss_136 ?_
                  refine v_iload_n hC dX12_readLoss_139 rfl ?_
                  refine v_iload_n hC dX12_readLoss_140 rfl ?_
                  refine v_if_eq_t hC dX12_readLoss_141 (tgt := 148) (by decide) (by first | omega | (simp only [Int32.lt_iff_toInt_lt, Int32.le_iff_toInt_le, Int32.reduceToInt, ← Int32.toInt_inj, true_and, and_true, or_true, true_or, false_or, or_false, false_and, and_false, not_true_eq_false, not_false_eq_true] <;> omega)) ?_
                  refine v_iconst hC dX12_readLoss_148 (v := 0) (by decide) ?_
                  refine v_iast hC m_22 hf_3040 (vp_in_iff.mpr (by first | omega | (simp only [Int32.lt_iff_toInt_lt, Int32.le_iff_toInt_le, Int32.reduceToInt, ← Int32.toInt_inj, true_and, and_true, or_true, true_or, false_or, or_false, false_and, and_false, not_true_eq_false, not_false_eq_true] <;> omega))) dX12_readLoss_149 (fun f_3064 hf_3065 hk_3066 => ?_)
                  have hW_3068 := hW_3036.up hf_3065 hk_3066 t_23 ⟨_, rfl, (o_f.up (by first | omega | (simp only [Int32.lt_iff_toInt_lt, Int32.le_iff_toInt_le, Int32.reduceToInt, ← Int32.toInt_inj, true_and, and_true, or_true, true_or, false_or, or_false, false_and, and_false, not_true_eq_false, not_false_eq_true] <;> omega)) (fun q1 q2 => (by first | omega | (simp only [Int32.lt_iff_toInt_lt, Int32.le_iff_toInt_le, Int32.reduceToInt, ← Int32.toInt_inj] at *; omega))) (fun k9 q1 q2 q3 => (by first | omega | (simp only [Int32.lt_iff_toInt_lt, Int32.le_iff_toInt_le, Int32.reduceToInt, ← Int32.toInt_inj] at *; omega))))⟩
                  obtain ⟨g_3067, hf_3065, ok_3069, eg_3070⟩ : ∃ g9, f_3064 (q 14) = aI E 2076 g9 ∧ FOK g9 ∧ g9 = upd g_f (v_49 : Int32).toNatClampNeg 0 := ⟨_, hf_3065, (o_f.up (by first | omega | (simp only [Int32.lt_iff_toInt_lt, Int32.le_iff_toInt_le, Int32.reduceToInt, ← Int32.toInt_inj, true_and, and_true, or_true, true_or, false_or, or_false, false_and, and_false, not_true_eq_false, not_false_eq_true] <;> omega)) (fun q1 q2 => (by first | omega | (simp only [Int32.lt_iff_toInt_lt, Int32.le_iff_toInt_le, Int32.reduceToInt, ← Int32.toInt_inj] at *; omega))) (fun k9 q1 q2 q3 => (by first | omega | (simp only [Int32.lt_iff_toInt_lt, Int32.le_iff_toInt_le, Int32.reduceToInt, ← Int32.toInt_inj] at *; omega)))), rfl⟩
                  have hf_3071 := (hk_3066 a_0 (ne_kd e_3041 hf_3040 rfl)).trans e_3041
                  have fr_3072 := FR.w hk_3066 hf_3040 (k := 2176) rfl
                  have lk_3073 := lk_at (g0 := g_f) eg_3070 (by omega) (by omega)
                  have ag_3074 := (AG.rf o_f).st eg_3070 (by omega) (by omega)
                  try simp only [Int32.reduceToInt] at lk_3073
                  refine v_aload_n hC dX12_readLoss_150 rfl ?_
                  refine v_get hC fl_X12_34 m_1 hf_3071 rfl dX12_readLoss_151 ?_
                  refine v_iload_n hC dX12_readLoss_154 rfl ?_
                  refine v_iconst hC dX12_readLoss_155 (v := 1) (by decide) ?_
                  obtain ⟨v_3075, h_3076⟩ : ∃ v9 : Int32, v_49 + 1 = v9 := ⟨_, rfl⟩
                  refine v_iadd hC dX12_readLoss_156 h_3076 ?_
                  have h_3077 := add_v h_3076 (by first | omega | (simp only [Int32.lt_iff_toInt_lt, Int32.le_iff_toInt_le, Int32.reduceToInt, ← Int32.toInt_inj, true_and, and_true, or_true, true_or, false_or, or_false, false_and, and_false, not_true_eq_false, not_false_eq_true] <;> omega)) (by first | omega | (simp only [Int32.lt_iff_toInt_lt, Int32.le_iff_toInt_le, Int32.reduceToInt, ← Int32.toInt_inj, true_and, and_true, or_true, true_or, false_or, or_false, false_and, and_false, not_true_eq_false, not_false_eq_true] <;> omega))
                  try simp only [Int32.reduceToInt] at h_3077
                  refine v_aload_n hC dX12_readLoss_157 rfl ?_
                  refine v_iconst hC dX12_readLoss_158 (v := 0) (by decide) ?_
                  refine v_bipush hC dX12_readLoss_159 (v := 15) (by decide) ?_
                  refine v_vi hC (rest := [.int v_3075, .ref (q 14)]) m_1 hf_3071 rfl mi_X12_number ms_X12_number (p_X12_number hW_3068 k_0) mx_X12_number ml_X12_170 (by decide) rfl (cells1 := 0) (slots1 := 0) (by decide) (by decide) (Nat.le_of_ble_eq_true rfl) (Nat.le_of_ble_eq_true rfl) rfl (Nat.le_of_ble_eq_true rfl) dX12_readLoss_161 (fun r_3078 L_3079 f_3080 h_3081 => ?_)
                  obtain ⟨rfl, hW_3083, hF_3084, -, -, -, -, -, x_3082⟩ := h_3081
                  have fe_3085 : fld (f_3064 a_0) 8 = (v_3047 : Int32).toInt := by rw [hf_3071]; rfl
                  have fe_3086 : fld (f_3064 a_0) 10 = (v_3051 : Int32).toInt := by rw [hf_3071]; rfl
                  have fe_3087 : fld (f_3064 a_0) 12 = (v_3054 : Int32).toInt := by rw [hf_3071]; rfl
                  have hf_3088 := hF_3084.at hf_3065 rfl
                  obtain ⟨v_3090, v_3091, v_3093, v_3095, v_3097, v_3099, v_3101, v_3102, v_3103, v_3104, v_3106, e_3089, b_3092, b_3094, b_3096, b_3098, b_3100, b_3105, b_3107⟩ := hW_3083.at m_1 t_2
                  have fe_3108 : fld (f_3080 a_0) 8 = (v_3095 : Int32).toInt := by rw [e_3089]; rfl
                  have fe_3109 : fld (f_3080 a_0) 9 = (v_3097 : Int32).toInt := by rw [e_3089]; rfl
                  have fe_3110 : fld (f_3080 a_0) 10 = (v_3099 : Int32).toInt := by rw [e_3089]; rfl
                  have fe_3111 : fld (f_3080 a_0) 12 = (v_3102 : Int32).toInt := by rw [e_3089]; rfl
                  rw [fe_3111, fe_3087, fe_3086, fe_3085, fe_3109, fe_3108, fe_3110] at x_3082
                  clear fe_3085 fe_3086 fe_3087 fe_3108 fe_3109 fe_3110 fe_3111
                  try simp only [Int32.reduceToInt, Int64.reduceToInt] at x_3082
                  refine v_iast hC m_22 hf_3088 (vp_in_iff.mpr (by first | omega | (simp only [Int32.lt_iff_toInt_lt, Int32.le_iff_toInt_le, Int32.reduceToInt, ← Int32.toInt_inj, true_and, and_true, or_true, true_or, false_or, or_false, false_and, and_false, not_true_eq_false, not_false_eq_true] <;> omega))) dX12_readLoss_164 (fun f_3112 hf_3113 hk_3114 => ?_)
                  have hW_3116 := hW_3083.up hf_3113 hk_3114 t_23 ⟨_, rfl, (ok_3069.up (by first | omega | (simp only [Int32.lt_iff_toInt_lt, Int32.le_iff_toInt_le, Int32.reduceToInt, ← Int32.toInt_inj, true_and, and_true, or_true, true_or, false_or, or_false, false_and, and_false, not_true_eq_false, not_false_eq_true] <;> omega)) (fun q1 q2 => (by first | omega | (simp only [Int32.lt_iff_toInt_lt, Int32.le_iff_toInt_le, Int32.reduceToInt, ← Int32.toInt_inj] at *; omega))) (fun k9 q1 q2 q3 => (by first | omega | (simp only [Int32.lt_iff_toInt_lt, Int32.le_iff_toInt_le, Int32.reduceToInt, ← Int32.toInt_inj] at *; omega))))⟩
                  obtain ⟨g_3115, hf_3113, ok_3117, eg_3118⟩ : ∃ g9, f_3112 (q 14) = aI E 2076 g9 ∧ FOK g9 ∧ g9 = upd g_3067 (v_3075 : Int32).toNatClampNeg r_3078 := ⟨_, hf_3113, (ok_3069.up (by first | omega | (simp only [Int32.lt_iff_toInt_lt, Int32.le_iff_toInt_le, Int32.reduceToInt, ← Int32.toInt_inj, true_and, and_true, or_true, true_or, false_or, or_false, false_and, and_false, not_true_eq_false, not_false_eq_true] <;> omega)) (fun q1 q2 => (by first | omega | (simp only [Int32.lt_iff_toInt_lt, Int32.le_iff_toInt_le, Int32.reduceToInt, ← Int32.toInt_inj] at *; omega))) (fun k9 q1 q2 q3 => (by first | omega | (simp only [Int32.lt_iff_toInt_lt, Int32.le_iff_toInt_le, Int32.reduceToInt, ← Int32.toInt_inj] at *; omega)))), rfl⟩
                  have hf_3119 := (hk_3114 a_0 (ne_kd e_3089 hf_3088 rfl)).trans e_3089
                  have fr_3120 := FR.w hk_3114 hf_3088 (k := 2176) rfl
                  have lk_3121 := lf_at (g0 := g_f) eg_3118 (by omega) (by omega)
                  have ag_3122 := ag_3074.st eg_3118 (by omega) (by omega)
                  try simp only [Int32.reduceToInt] at lk_3121
                  refine v_aload_n hC dX12_readLoss_165 rfl ?_
                  refine v_get hC fl_X12_34 m_1 hf_3119 rfl dX12_readLoss_166 ?_
                  refine v_iload_n hC dX12_readLoss_169 rfl ?_
                  refine v_iconst hC dX12_readLoss_170 (v := 2) (by decide) ?_
                  obtain ⟨v_3123, h_3124⟩ : ∃ v9 : Int32, v_49 + 2 = v9 := ⟨_, rfl⟩
                  refine v_iadd hC dX12_readLoss_171 h_3124 ?_
                  have h_3125 := add_v h_3124 (by first | omega | (simp only [Int32.lt_iff_toInt_lt, Int32.le_iff_toInt_le, Int32.reduceToInt, ← Int32.toInt_inj, true_and, and_true, or_true, true_or, false_or, or_false, false_and, and_false, not_true_eq_false, not_false_eq_true] <;> omega)) (by first | omega | (simp only [Int32.lt_iff_toInt_lt, Int32.le_iff_toInt_le, Int32.reduceToInt, ← Int32.toInt_inj, true_and, and_true, or_true, true_or, false_or, or_false, false_and, and_false, not_true_eq_false, not_false_eq_true] <;> omega))
                  try simp only [Int32.reduceToInt] at h_3125
                  refine v_aload_n hC dX12_readLoss_172 rfl ?_
                  refine v_ldcwS hC sr_X12_295 dX12_readLoss_173 ?_
                  refine v_aload_n hC dX12_readLoss_176 rfl ?_
                  refine v_get hC fl_X12_34 m_1 hf_3119 rfl dX12_readLoss_177 ?_
                  refine v_iload_n hC dX12_readLoss_180 rfl ?_
                  refine v_iconst hC dX12_readLoss_181 (v := 1) (by decide) ?_
                  obtain ⟨v_3126, h_3127⟩ : ∃ v9 : Int32, v_49 + 1 = v9 := ⟨_, rfl⟩
                  refine v_iadd hC dX12_readLoss_182 h_3127 ?_
                  have h_3128 := add_v h_3127 (by first | omega | (simp only [Int32.lt_iff_toInt_lt, Int32.le_iff_toInt_le, Int32.reduceToInt, ← Int32.toInt_inj, true_and, and_true, or_true, true_or, false_or, or_false, false_and, and_false, not_true_eq_false, not_false_eq_true] <;> omega)) (by first | omega | (simp only [Int32.lt_iff_toInt_lt, Int32.le_iff_toInt_le, Int32.reduceToInt, ← Int32.toInt_inj, true_and, and_true, or_true, true_or, false_or, or_false, false_and, and_false, not_true_eq_false, not_false_eq_true] <;> omega))
                  try simp only [Int32.reduceToInt] at h_3128
                  obtain ⟨v_3129, h_3130⟩ : ∃ v9 : Int32, g_3115 (v_3126 : Int32).toNatClampNeg = v9 := ⟨_, rfl⟩
                  refine v_iald hC m_22 hf_3113 (vp_in_iff.mpr (by first | omega | (simp only [Int32.lt_iff_toInt_lt, Int32.le_iff_toInt_le, Int32.reduceToInt, ← Int32.toInt_inj, true_and, and_true, or_true, true_or, false_or, or_false, false_and, and_false, not_true_eq_false, not_false_eq_true] <;> omega))) h_3130 dX12_readLoss_183 ?_
                  refine v_bipush hC dX12_readLoss_184 (v := 15) (by decide) ?_
                  refine v_vi hC (rest := [.int v_3123, .ref (q 14)]) m_1 hf_3119 rfl mi_X12_told ms_X12_told (p_X12_told hW_3116 k_0 (by decide)) mx_X12_told ml_X12_189 (by decide) rfl (cells1 := 0) (slots1 := 0) (by decide) (by decide) (Nat.le_of_ble_eq_true rfl) (Nat.le_of_ble_eq_true rfl) rfl (Nat.le_of_ble_eq_true rfl) dX12_readLoss_186 (fun r_3131 L_3132 f_3133 h_3134 => ?_)
                  obtain ⟨rfl, hW_3136, hF_3137, -, -, -, -, -, x_3135⟩ := h_3134
                  have fe_3138 : fld (f_3112 a_0) 8 = (v_3095 : Int32).toInt := by rw [hf_3119]; rfl
                  have fe_3139 : fld (f_3112 a_0) 12 = (v_3102 : Int32).toInt := by rw [hf_3119]; rfl
                  have hf_3140 := hF_3137.at hf_3113 rfl
                  obtain ⟨v_3142, v_3143, v_3145, v_3147, v_3149, v_3151, v_3153, v_3154, v_3155, v_3156, v_3158, e_3141, b_3144, b_3146, b_3148, b_3150, b_3152, b_3157, b_3159⟩ := hW_3136.at m_1 t_2
                  have fe_3160 : fld (f_3133 a_0) 8 = (v_3147 : Int32).toInt := by rw [e_3141]; rfl
                  have fe_3161 : fld (f_3133 a_0) 9 = (v_3149 : Int32).toInt := by rw [e_3141]; rfl
                  have fe_3162 : fld (f_3133 a_0) 10 = (v_3151 : Int32).toInt := by rw [e_3141]; rfl
                  have fe_3163 : fld (f_3133 a_0) 12 = (v_3154 : Int32).toInt := by rw [e_3141]; rfl
                  rw [fe_3163, fe_3139, fe_3138, fe_3161, fe_3160, fe_3162] at x_3135
                  clear fe_3138 fe_3139 fe_3160 fe_3161 fe_3162 fe_3163
                  try simp only [Int32.reduceToInt, Int64.reduceToInt] at x_3135
                  refine v_iast hC m_22 hf_3140 (vp_in_iff.mpr (by first | omega | (simp only [Int32.lt_iff_toInt_lt, Int32.le_iff_toInt_le, Int32.reduceToInt, ← Int32.toInt_inj, true_and, and_true, or_true, true_or, false_or, or_false, false_and, and_false, not_true_eq_false, not_false_eq_true] <;> omega))) dX12_readLoss_189 (fun f_3164 hf_3165 hk_3166 => ?_)
                  have hW_3168 := hW_3136.up hf_3165 hk_3166 t_23 ⟨_, rfl, (ok_3117.up (by first | omega | (simp only [Int32.lt_iff_toInt_lt, Int32.le_iff_toInt_le, Int32.reduceToInt, ← Int32.toInt_inj, true_and, and_true, or_true, true_or, false_or, or_false, false_and, and_false, not_true_eq_false, not_false_eq_true] <;> omega)) (fun q1 q2 => (by first | omega | (simp only [Int32.lt_iff_toInt_lt, Int32.le_iff_toInt_le, Int32.reduceToInt, ← Int32.toInt_inj] at *; omega))) (fun k9 q1 q2 q3 => (by first | omega | (simp only [Int32.lt_iff_toInt_lt, Int32.le_iff_toInt_le, Int32.reduceToInt, ← Int32.toInt_inj] at *; omega))))⟩
                  obtain ⟨g_3167, hf_3165, ok_3169, eg_3170⟩ : ∃ g9, f_3164 (q 14) = aI E 2076 g9 ∧ FOK g9 ∧ g9 = upd g_3115 (v_3123 : Int32).toNatClampNeg r_3131 := ⟨_, hf_3165, (ok_3117.up (by first | omega | (simp only [Int32.lt_iff_toInt_lt, Int32.le_iff_toInt_le, Int32.reduceToInt, ← Int32.toInt_inj, true_and, and_true, or_true, true_or, false_or, or_false, false_and, and_false, not_true_eq_false, not_false_eq_true] <;> omega)) (fun q1 q2 => (by first | omega | (simp only [Int32.lt_iff_toInt_lt, Int32.le_iff_toInt_le, Int32.reduceToInt, ← Int32.toInt_inj] at *; omega))) (fun k9 q1 q2 q3 => (by first | omega | (simp only [Int32.lt_iff_toInt_lt, Int32.le_iff_toInt_le, Int32.reduceToInt, ← Int32.toInt_inj] at *; omega)))), rfl⟩
                  have hf_3171 := (hk_3166 a_0 (ne_kd e_3141 hf_3140 rfl)).trans e_3141
                  have fr_3172 := FR.w hk_3166 hf_3140 (k := 2176) rfl
                  have lk_3173 := l2_at (g0 := g_f) eg_3170 (by omega) (by omega)
                  have ag_3174 := ag_3122.st eg_3170 (by omega) (by omega)
                  try simp only [Int32.reduceToInt] at lk_3173
                  refine v_goto hC dX12_readLoss_190 (tgt := 258) (by decide) ?_
                  refine v_aload_n hC dX12_readLoss_258 rfl ?_
                  refine v_vv hC (rest := []) m_1 hf_3171 rfl mi_X12_ends ms_X12_ends (p_X12_ends hW_3168 k_0) mx_X12_ends ml_X12_178 (by decide) rfl (cells1 := 0) (slots1 := 0) (by decide) (by decide) (Nat.le_of_ble_eq_true rfl) (Nat.le_of_ble_eq_true rfl) rfl (Nat.le_of_ble_eq_true rfl) dX12_readLoss_259 (fun L_3176 f_3177 h_3178 => ?_)
                  obtain ⟨rfl, hW_3180, hF_3181, -, -, -, -, x_3179⟩ := h_3178
                  have fe_3182 : fld (f_3164 a_0) 8 = (v_3147 : Int32).toInt := by rw [hf_3171]; rfl
                  have fe_3183 : fld (f_3164 a_0) 10 = (v_3151 : Int32).toInt := by rw [hf_3171]; rfl
                  have fe_3184 : fld (f_3164 a_0) 12 = (v_3154 : Int32).toInt := by rw [hf_3171]; rfl
                  have hf_3185 := hF_3181.at hf_3165 rfl
                  obtain ⟨v_3187, v_3188, v_3190, v_3192, v_3194, v_3196, v_3198, v_3199, v_3200, v_3201, v_3203, e_3186, b_3189, b_3191, b_3193, b_3195, b_3197, b_3202, b_3204⟩ := hW_3180.at m_1 t_2
                  have fe_3205 : fld (f_3177 a_0) 8 = (v_3192 : Int32).toInt := by rw [e_3186]; rfl
                  have fe_3206 : fld (f_3177 a_0) 9 = (v_3194 : Int32).toInt := by rw [e_3186]; rfl
                  have fe_3207 : fld (f_3177 a_0) 10 = (v_3196 : Int32).toInt := by rw [e_3186]; rfl
                  have fe_3208 : fld (f_3177 a_0) 12 = (v_3199 : Int32).toInt := by rw [e_3186]; rfl
                  rw [fe_3208, fe_3184, fe_3183, fe_3182, fe_3206, fe_3205, fe_3207] at x_3179
                  clear fe_3182 fe_3183 fe_3184 fe_3205 fe_3206 fe_3207 fe_3208
                  refine v_aload_n hC dX12_readLoss_262 rfl ?_
                  refine v_get hC fl_X12_34 m_1 e_3186 rfl dX12_readLoss_263 ?_
                  refine v_bipush hC dX12_readLoss_266 (v := 6) (by decide) ?_
                  refine v_dup2 hC dX12_readLoss_268 rfl rfl ?_
                  have l6_3209 : (g_3167 6).toInt = (g_f 6).toInt := congrArg Int32.toInt ag_3174.2.1
                  refine v_iald hC m_22 hf_3185 (vp_in_iff.mpr (by decide)) (v := g_3167 6) rfl dX12_readLoss_269 ?_
                  refine v_iconst hC dX12_readLoss_270 (v := 1) (by decide) ?_
                  obtain ⟨v_3210, h_3211⟩ : ∃ v9 : Int32, (g_3167 6) + 1 = v9 := ⟨_, rfl⟩
                  refine v_iadd hC dX12_readLoss_271 h_3211 ?_
                  have h_3212 := add_v h_3211 (by first | omega | (simp only [Int32.lt_iff_toInt_lt, Int32.le_iff_toInt_le, Int32.reduceToInt, ← Int32.toInt_inj, true_and, and_true, or_true, true_or, false_or, or_false, false_and, and_false, not_true_eq_false, not_false_eq_true] <;> omega)) (by first | omega | (simp only [Int32.lt_iff_toInt_lt, Int32.le_iff_toInt_le, Int32.reduceToInt, ← Int32.toInt_inj, true_and, and_true, or_true, true_or, false_or, or_false, false_and, and_false, not_true_eq_false, not_false_eq_true] <;> omega))
                  try simp only [Int32.reduceToInt] at h_3212
                  refine v_iast hC m_22 hf_3185 (vp_in_iff.mpr (by decide)) dX12_readLoss_272 (fun f_3213 hf_3214 hk_3215 => ?_)
                  have hW_3217 := hW_3180.up hf_3214 hk_3215 t_23 ⟨_, rfl, (ok_3169.up (i := 6) (by decide) (fun q1 q2 => absurd (And.intro q1 q2) (by decide)) (fun k9 q1 q2 q3 => by simp only [Int32.reduceToInt] at q3; omega))⟩
                  obtain ⟨g_3216, hf_3214, ok_3218, eg_3219⟩ : ∃ g9, f_3213 (q 14) = aI E 2076 g9 ∧ FOK g9 ∧ g9 = upd g_3167 (6 : Int32).toNatClampNeg v_3210 := ⟨_, hf_3214, (ok_3169.up (i := 6) (by decide) (fun q1 q2 => absurd (And.intro q1 q2) (by decide)) (fun k9 q1 q2 q3 => by simp only [Int32.reduceToInt] at q3; omega)), rfl⟩
                  have hf_3220 := (hk_3215 a_0 (ne_kd e_3186 hf_3185 rfl)).trans e_3186
                  have fr_3221 := FR.w hk_3215 hf_3185 (k := 2176) rfl
                  have ln6_3222 := FOK.n6 ag_3174.1 eg_3219
                  have ln6_3222_t : (g_3216 6).toInt = v_3210.toInt := congrArg Int32.toInt ln6_3222.2
                  have fe_3223 : fld (f_3213 a_0) 12 = (v_3199 : Int32).toInt := by rw [hf_3220]; rfl
                  have fe_3228 : fld (f_3213 a_0) 8 = (v_3192 : Int32).toInt := by rw [hf_3220]; rfl
                  have fe_3229 : fld (f_3213 a_0) 12 = (v_3199 : Int32).toInt := by rw [hf_3220]; rfl
                  have fe_3234 : fld (f_3213 a_0) 20 = (v_3203 : Int32).toInt := by rw [hf_3220]; rfl
                  exact hR _ _ _ _ _ _ dX12_readLoss_273 (Nat.le_of_ble_eq_true rfl) (Nat.le_of_ble_eq_true rfl) ⟨rfl, hW_3217, (((((((((((hF_1650.tr hF_1694).tr hF_2827).tr hF_3037).tr fr_3072).tr hF_3084).tr fr_3120).tr hF_3137).tr fr_3172).tr hF_3181).tr fr_3221).mono rfl), ⟨_, hf_3214, ln6_3222.1, (by omega), (by rw [fe_3223]; by_cases q9 : v_3199.toInt = 0; have gp_3224 := x_3179.resolve_left (fun h9 => h9 q9); clear x_3179; have gp_3225 := x_3135.resolve_left (fun h9 => h9 gp_3224.1); clear x_3135; have gp_3226 := x_3082.resolve_left (fun h9 => h9 gp_3225.1); clear x_3082; have gz_3227 := x_3035.symm.trans gp_3226.1; exact .inr (LO.fin hLO ag_3174 eg_3219 (by omega) (by omega) (fun q8 => by omega)); exact .inl q9)⟩, (by rw [fe_3228, fe_3229, mz_43, mz_44]; by_cases q9 : (v_3199 : Int32).toInt = 0; have gp_3230 := x_3179.resolve_left (fun h9 => h9 q9); clear x_3179; have gp_3231 := x_3135.resolve_left (fun h9 => h9 gp_3230.1); clear x_3135; have gp_3232 := x_3082.resolve_left (fun h9 => h9 gp_3231.1); clear x_3082; have gz_3233 := x_3035.symm.trans gp_3232.1; (right; omega); exact .inl q9), (by simp only [fe_3234, mz_45, true_and, and_true, or_true, true_or, false_or, or_false, false_and, and_false, not_true_eq_false, not_false_eq_true] <;> first | omega | (simp only [Int32.lt_iff_toInt_lt, Int32.le_iff_toInt_le, Int32.reduceToInt, ← Int32.toInt_inj, true_and, and_true, or_true, true_or, false_or, or_false, false_and, and_false, not_true_eq_false, not_false_eq_true] <;> omega))⟩
        · simp only [Int32.lt_iff_toInt_lt, Int32.le_iff_toInt_le, Int32.reduceToInt, ← Int32.toInt_inj] at h_1683
          have g0_1685 := gd_f x_1679 h_1683
          clear x_1679
          have fe_3235 : fld (f_1645 a_0) 12 = (v_1666 : Int32).toInt := by rw [e_1653]; rfl
          have fe_3236 : fld (f_1645 a_0) 8 = (v_1659 : Int32).toInt := by rw [e_1653]; rfl
          have fe_3237 : fld (f_1645 a_0) 12 = (v_1666 : Int32).toInt := by rw [e_1653]; rfl
          have fe_3238 : fld (f_1645 a_0) 20 = (v_1670 : Int32).toInt := by rw [e_1653]; rfl
          exact hR _ _ _ _ _ _ dX12_readLoss_87 (Nat.le_of_ble_eq_true rfl) (Nat.le_of_ble_eq_true rfl) ⟨rfl, hW_1649, (hF_1650.mono rfl), ⟨_, hf_1652, (AG.rf o_f).1, (by omega), (by rw [fe_3235]; left; omega)⟩, (by rw [fe_3236, fe_3237, mz_43, mz_44]; exact .inl g0_1685), (by simp only [fe_3238, mz_45, true_and, and_true, or_true, true_or, false_or, or_false, false_and, and_false, not_true_eq_false, not_false_eq_true] <;> first | omega | (simp only [Int32.lt_iff_toInt_lt, Int32.le_iff_toInt_le, Int32.reduceToInt, ← Int32.toInt_inj, true_and, and_true, or_true, true_or, false_or, or_false, false_and, and_false, not_true_eq_false, not_false_eq_true] <;> omega))⟩
    · simp only [Int32.lt_iff_toInt_lt, Int32.le_iff_toInt_le, Int32.reduceToInt, ← Int32.toInt_inj] at h_76
      refine v_aload_n hC dX12_readLoss_54 rfl ?_
      refine v_iconst hC dX12_readLoss_55 (v := 1) (by decide) ?_
      refine v_vv hC (rest := []) m_1 e_24 rfl mi_X12_errs ms_X12_errs (p_X12_errs hW k_0 (by decide)) mx_X12_errs ml_X12_162 (by decide) rfl (cells1 := 0) (slots1 := 0) (by decide) (by decide) (Nat.le_of_ble_eq_true rfl) (Nat.le_of_ble_eq_true rfl) rfl (Nat.le_of_ble_eq_true rfl) dX12_readLoss_56 (fun L_3240 f_3241 h_3242 => ?_)
      obtain ⟨rfl, hW_3245, hF_3246, x_3243, x_3244, -, -, -⟩ := h_3242
      have fe_3247 : fld (f a_0) 8 = (v_30 : Int32).toInt := by rw [e_24]; rfl
      have hf_3248 := hF_3246.at e_f rfl
      obtain ⟨v_3250, v_3251, v_3253, v_3255, v_3257, v_3259, v_3261, v_3262, v_3263, v_3264, v_3266, e_3249, b_3252, b_3254, b_3256, b_3258, b_3260, b_3265, b_3267⟩ := hW_3245.at m_1 t_2
      have fe_3268 : fld (f_3241 a_0) 8 = (v_3255 : Int32).toInt := by rw [e_3249]; rfl
      have fe_3269 : fld (f_3241 a_0) 12 = (v_3262 : Int32).toInt := by rw [e_3249]; rfl
      rw [fe_3269] at x_3243
      rw [fe_3268, fe_3247] at x_3244
      clear fe_3247 fe_3268 fe_3269
      refine v_iload_n hC dX12_readLoss_59 rfl ?_
      refine v_if_eq_t hC dX12_readLoss_60 (tgt := 80) (by decide) (by first | omega | (simp only [Int32.lt_iff_toInt_lt, Int32.le_iff_toInt_le, Int32.reduceToInt, ← Int32.toInt_inj, true_and, and_true, or_true, true_or, false_or, or_false, false_and, and_false, not_true_eq_false, not_false_eq_true] <;> omega)) ?_
      refine v_aload_n hC dX12_readLoss_80 rfl ?_
      refine v_vi hC (rest := []) m_1 e_3249 rfl mi_X12_good ms_X12_good (p_X12_good hW_3245 k_0) mx_X12_good ml_X12_139 (by decide) rfl (cells1 := 0) (slots1 := 0) (by decide) (by decide) (Nat.le_of_ble_eq_true rfl) (Nat.le_of_ble_eq_true rfl) rfl (Nat.le_of_ble_eq_true rfl) dX12_readLoss_81 (fun r_3270 L_3271 f_3272 h_3273 => ?_)
      obtain ⟨rfl, rfl, b_3274, x_3275⟩ := h_3273
      have fe_3278 : fld (f_3241 a_0) 12 = (v_3262 : Int32).toInt := by rw [e_3249]; rfl
      rw [fe_3278] at x_3275
      clear fe_3278
      try simp only [Int32.reduceToInt, Int64.reduceToInt] at x_3275
      refine v_if_ne hC dX12_readLoss_84 (tgt := 88) (by decide) (fun h_3279 => ?_) (fun h_3279 => ?_)
      · simp only [Int32.lt_iff_toInt_lt, Int32.le_iff_toInt_le, Int32.reduceToInt, ← Int32.toInt_inj] at h_3279
        have g0_3280 := gd_t x_3275 h_3279
        clear x_3275
        refine v_aload_n hC dX12_readLoss_88 rfl ?_
        refine v_ldcwS hC sr_X12_287 dX12_readLoss_89 ?_
        refine v_vi hC (rest := []) m_1 e_3249 rfl mi_X12_takes ms_X12_takes (p_X12_takes hW_3245 k_0 (by decide)) mx_X12_takes ml_X12_159 (by decide) rfl (cells1 := 0) (slots1 := 0) (by decide) (by decide) (Nat.le_of_ble_eq_true rfl) (Nat.le_of_ble_eq_true rfl) rfl (Nat.le_of_ble_eq_true rfl) dX12_readLoss_92 (fun r_3282 L_3283 f_3284 h_3285 => ?_)
        obtain ⟨rfl, hW_3289, hF_3290, rfl, x_3286, x_3287, x_3288, -⟩ := h_3285
        have fe_3291 : fld (f_3241 a_0) 8 = (v_3255 : Int32).toInt := by rw [e_3249]; rfl
        have fe_3292 : fld (f_3241 a_0) 9 = (v_3257 : Int32).toInt := by rw [e_3249]; rfl
        have fe_3293 : fld (f_3241 a_0) 10 = (v_3259 : Int32).toInt := by rw [e_3249]; rfl
        have fe_3294 : fld (f_3241 a_0) 12 = (v_3262 : Int32).toInt := by rw [e_3249]; rfl
        have hf_3295 := hF_3290.at hf_3248 rfl
        obtain ⟨v_3297, v_3298, v_3300, v_3302, v_3304, v_3306, v_3308, v_3309, v_3310, v_3311, v_3313, e_3296, b_3299, b_3301, b_3303, b_3305, b_3307, b_3312, b_3314⟩ := hW_3289.at m_1 t_2
        have fe_3315 : fld (f_3284 a_0) 8 = (v_3302 : Int32).toInt := by rw [e_3296]; rfl
        have fe_3316 : fld (f_3284 a_0) 9 = (v_3304 : Int32).toInt := by rw [e_3296]; rfl
        have fe_3317 : fld (f_3284 a_0) 10 = (v_3306 : Int32).toInt := by rw [e_3296]; rfl
        have fe_3318 : fld (f_3284 a_0) 12 = (v_3309 : Int32).toInt := by rw [e_3296]; rfl
        rw [fe_3291, fe_3316, fe_3315, fe_3317] at x_3286
        rw [fe_3315, fe_3291, fe_3316, fe_3292, fe_3317, fe_3293] at x_3287
        rw [fe_3318, fe_3294] at x_3288
        clear fe_3291 fe_3292 fe_3293 fe_3294 fe_3315 fe_3316 fe_3317 fe_3318
        try simp only [Int32.reduceToInt, Int64.reduceToInt] at x_3286
        try simp only [Int32.reduceToInt, Int64.reduceToInt] at x_3287
        try simp only [Int32.reduceToInt, Int64.reduceToInt] at x_3288
        refine v_if_eq hC dX12_readLoss_95 (tgt := 193) (by decide) (fun h_3319 => ?_) (fun h_3319 => ?_)
        · simp only [Int32.lt_iff_toInt_lt, Int32.le_iff_toInt_le, Int32.reduceToInt, ← Int32.toInt_inj] at h_3319
          refine v_aload_n hC dX12_readLoss_193 rfl ?_
          refine v_ldcwS hC sr_X12_289 dX12_readLoss_194 ?_
          refine v_vi hC (rest := []) m_1 e_3296 rfl mi_X12_takes ms_X12_takes (p_X12_takes hW_3289 k_0 (by decide)) mx_X12_takes ml_X12_159 (by decide) rfl (cells1 := 0) (slots1 := 0) (by decide) (by decide) (Nat.le_of_ble_eq_true rfl) (Nat.le_of_ble_eq_true rfl) rfl (Nat.le_of_ble_eq_true rfl) dX12_readLoss_197 (fun r_3320 L_3321 f_3322 h_3323 => ?_)
          obtain ⟨rfl, hW_3327, hF_3328, rfl, x_3324, x_3325, x_3326, -⟩ := h_3323
          have fe_3329 : fld (f_3284 a_0) 8 = (v_3302 : Int32).toInt := by rw [e_3296]; rfl
          have fe_3330 : fld (f_3284 a_0) 9 = (v_3304 : Int32).toInt := by rw [e_3296]; rfl
          have fe_3331 : fld (f_3284 a_0) 10 = (v_3306 : Int32).toInt := by rw [e_3296]; rfl
          have fe_3332 : fld (f_3284 a_0) 12 = (v_3309 : Int32).toInt := by rw [e_3296]; rfl
          have hf_3333 := hF_3328.at hf_3295 rfl
          obtain ⟨v_3335, v_3336, v_3338, v_3340, v_3342, v_3344, v_3346, v_3347, v_3348, v_3349, v_3351, e_3334, b_3337, b_3339, b_3341, b_3343, b_3345, b_3350, b_3352⟩ := hW_3327.at m_1 t_2
          have fe_3353 : fld (f_3322 a_0) 8 = (v_3340 : Int32).toInt := by rw [e_3334]; rfl
          have fe_3354 : fld (f_3322 a_0) 9 = (v_3342 : Int32).toInt := by rw [e_3334]; rfl
          have fe_3355 : fld (f_3322 a_0) 10 = (v_3344 : Int32).toInt := by rw [e_3334]; rfl
          have fe_3356 : fld (f_3322 a_0) 12 = (v_3347 : Int32).toInt := by rw [e_3334]; rfl
          rw [fe_3329, fe_3354, fe_3353, fe_3355] at x_3324
          rw [fe_3353, fe_3329, fe_3354, fe_3330, fe_3355, fe_3331] at x_3325
          rw [fe_3356, fe_3332] at x_3326
          clear fe_3329 fe_3330 fe_3331 fe_3332 fe_3353 fe_3354 fe_3355 fe_3356
          try simp only [Int32.reduceToInt, Int64.reduceToInt] at x_3324
          try simp only [Int32.reduceToInt, Int64.reduceToInt] at x_3325
          try simp only [Int32.reduceToInt, Int64.reduceToInt] at x_3326
          refine v_if_eq hC dX12_readLoss_200 (tgt := 247) (by decide) (fun h_3357 => ?_) (fun h_3357 => ?_)
          · simp only [Int32.lt_iff_toInt_lt, Int32.le_iff_toInt_le, Int32.reduceToInt, ← Int32.toInt_inj] at h_3357
            refine v_aload_n hC dX12_readLoss_247 rfl ?_
            refine v_vv hC (rest := []) m_1 e_3334 rfl mi_X12_advance ms_X12_advance (p_X12_advance hW_3327 k_0) mx_X12_advance ml_X12_156 (by decide) rfl (cells1 := 0) (slots1 := 0) (by decide) (by decide) (Nat.le_of_ble_eq_true rfl) (Nat.le_of_ble_eq_true rfl) rfl (Nat.le_of_ble_eq_true rfl) dX12_readLoss_248 (fun L_3359 f_3360 h_3361 => ?_)
            obtain ⟨rfl, hW_3365, hF_3366, x_3362, x_3363, x_3364, -⟩ := h_3361
            have fe_3367 : fld (f_3322 a_0) 8 = (v_3340 : Int32).toInt := by rw [e_3334]; rfl
            have fe_3368 : fld (f_3322 a_0) 12 = (v_3347 : Int32).toInt := by rw [e_3334]; rfl
            have hf_3369 := hF_3366.at hf_3333 rfl
            obtain ⟨v_3371, v_3372, v_3374, v_3376, v_3378, v_3380, v_3382, v_3383, v_3384, v_3385, v_3387, e_3370, b_3373, b_3375, b_3377, b_3379, b_3381, b_3386, b_3388⟩ := hW_3365.at m_1 t_2
            have fe_3389 : fld (f_3360 a_0) 8 = (v_3376 : Int32).toInt := by rw [e_3370]; rfl
            have fe_3390 : fld (f_3360 a_0) 9 = (v_3378 : Int32).toInt := by rw [e_3370]; rfl
            have fe_3391 : fld (f_3360 a_0) 10 = (v_3380 : Int32).toInt := by rw [e_3370]; rfl
            have fe_3392 : fld (f_3360 a_0) 12 = (v_3383 : Int32).toInt := by rw [e_3370]; rfl
            rw [fe_3367, fe_3390, fe_3389] at x_3362
            rw [fe_3391, fe_3390, fe_3389] at x_3363
            rw [fe_3392, fe_3368] at x_3364
            clear fe_3367 fe_3368 fe_3389 fe_3390 fe_3391 fe_3392
            refine v_aload_n hC dX12_readLoss_251 rfl ?_
            refine v_get hC fl_X12_34 m_1 e_3370 rfl dX12_readLoss_252 ?_
            refine v_iload_n hC dX12_readLoss_255 rfl ?_
            refine v_iconst hC dX12_readLoss_256 (v := 3) (by decide) ?_
            refine v_iast hC m_22 hf_3369 (vp_in_iff.mpr (by first | omega | (simp only [Int32.lt_iff_toInt_lt, Int32.le_iff_toInt_le, Int32.reduceToInt, ← Int32.toInt_inj, true_and, and_true, or_true, true_or, false_or, or_false, false_and, and_false, not_true_eq_false, not_false_eq_true] <;> omega))) dX12_readLoss_257 (fun f_3393 hf_3394 hk_3395 => ?_)
            have hW_3397 := hW_3365.up hf_3394 hk_3395 t_23 ⟨_, rfl, (o_f.up (by first | omega | (simp only [Int32.lt_iff_toInt_lt, Int32.le_iff_toInt_le, Int32.reduceToInt, ← Int32.toInt_inj, true_and, and_true, or_true, true_or, false_or, or_false, false_and, and_false, not_true_eq_false, not_false_eq_true] <;> omega)) (fun q1 q2 => (by first | omega | (simp only [Int32.lt_iff_toInt_lt, Int32.le_iff_toInt_le, Int32.reduceToInt, ← Int32.toInt_inj] at *; omega))) (fun k9 q1 q2 q3 => (by first | omega | (simp only [Int32.lt_iff_toInt_lt, Int32.le_iff_toInt_le, Int32.reduceToInt, ← Int32.toInt_inj] at *; omega))))⟩
            obtain ⟨g_3396, hf_3394, ok_3398, eg_3399⟩ : ∃ g9, f_3393 (q 14) = aI E 2076 g9 ∧ FOK g9 ∧ g9 = upd g_f (v_49 : Int32).toNatClampNeg 3 := ⟨_, hf_3394, (o_f.up (by first | omega | (simp only [Int32.lt_iff_toInt_lt, Int32.le_iff_toInt_le, Int32.reduceToInt, ← Int32.toInt_inj, true_and, and_true, or_true, true_or, false_or, or_false, false_and, and_false, not_true_eq_false, not_false_eq_true] <;> omega)) (fun q1 q2 => (by first | omega | (simp only [Int32.lt_iff_toInt_lt, Int32.le_iff_toInt_le, Int32.reduceToInt, ← Int32.toInt_inj] at *; omega))) (fun k9 q1 q2 q3 => (by first | omega | (simp only [Int32.lt_iff_toInt_lt, Int32.le_iff_toInt_le, Int32.reduceToInt, ← Int32.toInt_inj] at *; omega)))), rfl⟩
            have hf_3400 := (hk_3395 a_0 (ne_kd e_3370 hf_3369 rfl)).trans e_3370
            have fr_3401 := FR.w hk_3395 hf_3369 (k := 2176) rfl
            have lk_3402 := lk_at (g0 := g_f) eg_3399 (by omega) (by omega)
            have ag_3403 := (AG.rf o_f).st eg_3399 (by omega) (by omega)
            try simp only [Int32.reduceToInt] at lk_3402
            refine v_aload_n hC dX12_readLoss_258 rfl ?_
            refine v_vv hC (rest := []) m_1 hf_3400 rfl mi_X12_ends ms_X12_ends (p_X12_ends hW_3397 k_0) mx_X12_ends ml_X12_178 (by decide) rfl (cells1 := 0) (slots1 := 0) (by decide) (by decide) (Nat.le_of_ble_eq_true rfl) (Nat.le_of_ble_eq_true rfl) rfl (Nat.le_of_ble_eq_true rfl) dX12_readLoss_259 (fun L_3405 f_3406 h_3407 => ?_)
            obtain ⟨rfl, hW_3409, hF_3410, -, -, -, -, x_3408⟩ := h_3407
            have fe_3411 : fld (f_3393 a_0) 8 = (v_3376 : Int32).toInt := by rw [hf_3400]; rfl
            have fe_3412 : fld (f_3393 a_0) 10 = (v_3380 : Int32).toInt := by rw [hf_3400]; rfl
            have fe_3413 : fld (f_3393 a_0) 12 = (v_3383 : Int32).toInt := by rw [hf_3400]; rfl
            have hf_3414 := hF_3410.at hf_3394 rfl
            obtain ⟨v_3416, v_3417, v_3419, v_3421, v_3423, v_3425, v_3427, v_3428, v_3429, v_3430, v_3432, e_3415, b_3418, b_3420, b_3422, b_3424, b_3426, b_3431, b_3433⟩ := hW_3409.at m_1 t_2
            have fe_3434 : fld (f_3406 a_0) 8 = (v_3421 : Int32).toInt := by rw [e_3415]; rfl
            have fe_3435 : fld (f_3406 a_0) 9 = (v_3423 : Int32).toInt := by rw [e_3415]; rfl
            have fe_3436 : fld (f_3406 a_0) 10 = (v_3425 : Int32).toInt := by rw [e_3415]; rfl
            have fe_3437 : fld (f_3406 a_0) 12 = (v_3428 : Int32).toInt := by rw [e_3415]; rfl
            rw [fe_3437, fe_3413, fe_3412, fe_3411, fe_3435, fe_3434, fe_3436] at x_3408
            clear fe_3411 fe_3412 fe_3413 fe_3434 fe_3435 fe_3436 fe_3437
            refine v_aload_n hC dX12_readLoss_262 rfl ?_
            refine v_get hC fl_X12_34 m_1 e_3415 rfl dX12_readLoss_263 ?_
            refine v_bipush hC dX12_readLoss_266 (v := 6) (by decide) ?_
            refine v_dup2 hC dX12_readLoss_268 rfl rfl ?_
            have l6_3438 : (g_3396 6).toInt = (g_f 6).toInt := congrArg Int32.toInt ag_3403.2.1
            refine v_iald hC m_22 hf_3414 (vp_in_iff.mpr (by decide)) (v := g_3396 6) rfl dX12_readLoss_269 ?_
            refine v_iconst hC dX12_readLoss_270 (v := 1) (by decide) ?_
            obtain ⟨v_3439, h_3440⟩ : ∃ v9 : Int32, (g_3396 6) + 1 = v9 := ⟨_, rfl⟩
            refine v_iadd hC dX12_readLoss_271 h_3440 ?_
            have h_3441 := add_v h_3440 (by first | omega | (simp only [Int32.lt_iff_toInt_lt, Int32.le_iff_toInt_le, Int32.reduceToInt, ← Int32.toInt_inj, true_and, and_true, or_true, true_or, false_or, or_false, false_and, and_false, not_true_eq_false, not_false_eq_true] <;> omega)) (by first | omega | (simp only [Int32.lt_iff_toInt_lt, Int32.le_iff_toInt_le, Int32.reduceToInt, ← Int32.toInt_inj, true_and, and_true, or_true, true_or, false_or, or_false, false_and, and_false, not_true_eq_false, not_false_eq_true] <;> omega))
            try simp only [Int32.reduceToInt] at h_3441
            refine v_iast hC m_22 hf_3414 (vp_in_iff.mpr (by decide)) dX12_readLoss_272 (fun f_3442 hf_3443 hk_3444 => ?_)
            have hW_3446 := hW_3409.up hf_3443 hk_3444 t_23 ⟨_, rfl, (ok_3398.up (i := 6) (by decide) (fun q1 q2 => absurd (And.intro q1 q2) (by decide)) (fun k9 q1 q2 q3 => by simp only [Int32.reduceToInt] at q3; omega))⟩
            obtain ⟨g_3445, hf_3443, ok_3447, eg_3448⟩ : ∃ g9, f_3442 (q 14) = aI E 2076 g9 ∧ FOK g9 ∧ g9 = upd g_3396 (6 : Int32).toNatClampNeg v_3439 := ⟨_, hf_3443, (ok_3398.up (i := 6) (by decide) (fun q1 q2 => absurd (And.intro q1 q2) (by decide)) (fun k9 q1 q2 q3 => by simp only [Int32.reduceToInt] at q3; omega)), rfl⟩
            have hf_3449 := (hk_3444 a_0 (ne_kd e_3415 hf_3414 rfl)).trans e_3415
            have fr_3450 := FR.w hk_3444 hf_3414 (k := 2176) rfl
            have ln6_3451 := FOK.n6 ag_3403.1 eg_3448
            have ln6_3451_t : (g_3445 6).toInt = v_3439.toInt := congrArg Int32.toInt ln6_3451.2
            have fe_3452 : fld (f_3442 a_0) 12 = (v_3428 : Int32).toInt := by rw [hf_3449]; rfl
            have fe_3457 : fld (f_3442 a_0) 8 = (v_3421 : Int32).toInt := by rw [hf_3449]; rfl
            have fe_3458 : fld (f_3442 a_0) 12 = (v_3428 : Int32).toInt := by rw [hf_3449]; rfl
            have fe_3463 : fld (f_3442 a_0) 20 = (v_3432 : Int32).toInt := by rw [hf_3449]; rfl
            exact hR _ _ _ _ _ _ dX12_readLoss_273 (Nat.le_of_ble_eq_true rfl) (Nat.le_of_ble_eq_true rfl) ⟨rfl, hW_3446, (((((((hF_3246.tr hF_3290).tr hF_3328).tr hF_3366).tr fr_3401).tr hF_3410).tr fr_3450).mono rfl), ⟨_, hf_3443, ln6_3451.1, (by omega), (by rw [fe_3452]; by_cases q9 : v_3428.toInt = 0; have gp_3453 := x_3408.resolve_left (fun h9 => h9 q9); clear x_3408; have gz_3454 := x_3364.symm.trans gp_3453.1; have gz_3455 := x_3326.symm.trans gz_3454; have gz_3456 := x_3288.symm.trans gz_3455; exact .inr (LO.fin hLO ag_3403 eg_3448 (by omega) (by omega) (fun q8 => by omega)); exact .inl q9)⟩, (by rw [fe_3457, fe_3458, mz_43, mz_44]; by_cases q9 : (v_3428 : Int32).toInt = 0; have gp_3459 := x_3408.resolve_left (fun h9 => h9 q9); clear x_3408; have gz_3460 := x_3364.symm.trans gp_3459.1; have gz_3461 := x_3326.symm.trans gz_3460; have gz_3462 := x_3288.symm.trans gz_3461; (right; omega); exact .inl q9), (by simp only [fe_3463, mz_45, true_and, and_true, or_true, true_or, false_or, or_false, false_and, and_false, not_true_eq_false, not_false_eq_true] <;> first | omega | (simp only [Int32.lt_iff_toInt_lt, Int32.le_iff_toInt_le, Int32.reduceToInt, ← Int32.toInt_inj, true_and, and_true, or_true, true_or, false_or, or_false, false_and, and_false, not_true_eq_false, not_false_eq_true] <;> omega))⟩
          · simp only [Int32.lt_iff_toInt_lt, Int32.le_iff_toInt_le, Int32.reduceToInt, ← Int32.toInt_inj] at h_3357
            refine v_aload_n hC dX12_readLoss_203 rfl ?_
            refine v_get hC fl_X12_34 m_1 e_3334 rfl dX12_readLoss_204 ?_
            refine v_iload_n hC dX12_readLoss_207 rfl ?_
            refine v_iconst hC dX12_readLoss_208 (v := 2) (by decide) ?_
            refine v_iast hC m_22 hf_3333 (vp_in_iff.mpr (by first | omega | (simp only [Int32.lt_iff_toInt_lt, Int32.le_iff_toInt_le, Int32.reduceToInt, ← Int32.toInt_inj, true_and, and_true, or_true, true_or, false_or, or_false, false_and, and_false, not_true_eq_false, not_false_eq_true] <;> omega))) dX12_readLoss_209 (fun f_3464 hf_3465 hk_3466 => ?_)
            have hW_3468 := hW_3327.up hf_3465 hk_3466 t_23 ⟨_, rfl, (o_f.up (by first | omega | (simp only [Int32.lt_iff_toInt_lt, Int32.le_iff_toInt_le, Int32.reduceToInt, ← Int32.toInt_inj, true_and, and_true, or_true, true_or, false_or, or_false, false_and, and_false, not_true_eq_false, not_false_eq_true] <;> omega)) (fun q1 q2 => (by first | omega | (simp only [Int32.lt_iff_toInt_lt, Int32.le_iff_toInt_le, Int32.reduceToInt, ← Int32.toInt_inj] at *; omega))) (fun k9 q1 q2 q3 => (by first | omega | (simp only [Int32.lt_iff_toInt_lt, Int32.le_iff_toInt_le, Int32.reduceToInt, ← Int32.toInt_inj] at *; omega))))⟩
            obtain ⟨g_3467, hf_3465, ok_3469, eg_3470⟩ : ∃ g9, f_3464 (q 14) = aI E 2076 g9 ∧ FOK g9 ∧ g9 = upd g_f (v_49 : Int32).toNatClampNeg 2 := ⟨_, hf_3465, (o_f.up (by first | omega | (simp only [Int32.lt_iff_toInt_lt, Int32.le_iff_toInt_le, Int32.reduceToInt, ← Int32.toInt_inj, true_and, and_true, or_true, true_or, false_or, or_false, false_and, and_false, not_true_eq_false, not_false_eq_true] <;> omega)) (fun q1 q2 => (by first | omega | (simp only [Int32.lt_iff_toInt_lt, Int32.le_iff_toInt_le, Int32.reduceToInt, ← Int32.toInt_inj] at *; omega))) (fun k9 q1 q2 q3 => (by first | omega | (simp only [Int32.lt_iff_toInt_lt, Int32.le_iff_toInt_le, Int32.reduceToInt, ← Int32.toInt_inj] at *; omega)))), rfl⟩
            have hf_3471 := (hk_3466 a_0 (ne_kd e_3334 hf_3333 rfl)).trans e_3334
            have fr_3472 := FR.w hk_3466 hf_3333 (k := 2176) rfl
            have lk_3473 := lk_at (g0 := g_f) eg_3470 (by omega) (by omega)
            have ag_3474 := (AG.rf o_f).st eg_3470 (by omega) (by omega)
            try simp only [Int32.reduceToInt] at lk_3473
            refine v_aload_n hC dX12_readLoss_210 rfl ?_
            refine v_get hC fl_X12_34 m_1 hf_3471 rfl dX12_readLoss_211 ?_
            refine v_iload_n hC dX12_readLoss_214 rfl ?_
            refine v_iconst hC dX12_readLoss_215 (v := 1) (by decide) ?_
            obtain ⟨v_3475, h_3476⟩ : ∃ v9 : Int32, v_49 + 1 = v9 := ⟨_, rfl⟩
            refine v_iadd hC dX12_readLoss_216 h_3476 ?_
            have h_3477 := add_v h_3476 (by first | omega | (simp only [Int32.lt_iff_toInt_lt, Int32.le_iff_toInt_le, Int32.reduceToInt, ← Int32.toInt_inj, true_and, and_true, or_true, true_or, false_or, or_false, false_and, and_false, not_true_eq_false, not_false_eq_true] <;> omega)) (by first | omega | (simp only [Int32.lt_iff_toInt_lt, Int32.le_iff_toInt_le, Int32.reduceToInt, ← Int32.toInt_inj, true_and, and_true, or_true, true_or, false_or, or_false, false_and, and_false, not_true_eq_false, not_false_eq_true] <;> omega))
            try simp only [Int32.reduceToInt] at h_3477
            refine v_aload_n hC dX12_readLoss_217 rfl ?_
            refine v_iconst hC dX12_readLoss_218 (v := 1) (by decide) ?_
            refine v_bipush hC dX12_readLoss_219 (v := 99) (by decide) ?_
            refine v_vi hC (rest := [.int v_3475, .ref (q 14)]) m_1 hf_3471 rfl mi_X12_number ms_X12_number (p_X12_number hW_3468 k_0) mx_X12_number ml_X12_170 (by decide) rfl (cells1 := 0) (slots1 := 0) (by decide) (by decide) (Nat.le_of_ble_eq_true rfl) (Nat.le_of_ble_eq_true rfl) rfl (Nat.le_of_ble_eq_true rfl) dX12_readLoss_221 (fun r_3478 L_3479 f_3480 h_3481 => ?_)
            obtain ⟨rfl, hW_3483, hF_3484, -, -, -, -, -, x_3482⟩ := h_3481
            have fe_3485 : fld (f_3464 a_0) 8 = (v_3340 : Int32).toInt := by rw [hf_3471]; rfl
            have fe_3486 : fld (f_3464 a_0) 10 = (v_3344 : Int32).toInt := by rw [hf_3471]; rfl
            have fe_3487 : fld (f_3464 a_0) 12 = (v_3347 : Int32).toInt := by rw [hf_3471]; rfl
            have hf_3488 := hF_3484.at hf_3465 rfl
            obtain ⟨v_3490, v_3491, v_3493, v_3495, v_3497, v_3499, v_3501, v_3502, v_3503, v_3504, v_3506, e_3489, b_3492, b_3494, b_3496, b_3498, b_3500, b_3505, b_3507⟩ := hW_3483.at m_1 t_2
            have fe_3508 : fld (f_3480 a_0) 8 = (v_3495 : Int32).toInt := by rw [e_3489]; rfl
            have fe_3509 : fld (f_3480 a_0) 9 = (v_3497 : Int32).toInt := by rw [e_3489]; rfl
            have fe_3510 : fld (f_3480 a_0) 10 = (v_3499 : Int32).toInt := by rw [e_3489]; rfl
            have fe_3511 : fld (f_3480 a_0) 12 = (v_3502 : Int32).toInt := by rw [e_3489]; rfl
            rw [fe_3511, fe_3487, fe_3486, fe_3485, fe_3509, fe_3508, fe_3510] at x_3482
            clear fe_3485 fe_3486 fe_3487 fe_3508 fe_3509 fe_3510 fe_3511
            try simp only [Int32.reduceToInt, Int64.reduceToInt] at x_3482
            refine v_iast hC m_22 hf_3488 (vp_in_iff.mpr (by first | omega | (simp only [Int32.lt_iff_toInt_lt, Int32.le_iff_toInt_le, Int32.reduceToInt, ← Int32.toInt_inj, true_and, and_true, or_true, true_or, false_or, or_false, false_and, and_false, not_true_eq_false, not_false_eq_true] <;> omega))) dX12_readLoss_224 (fun f_3512 hf_3513 hk_3514 => ?_)
            have hW_3516 := hW_3483.up hf_3513 hk_3514 t_23 ⟨_, rfl, (ok_3469.up (by first | omega | (simp only [Int32.lt_iff_toInt_lt, Int32.le_iff_toInt_le, Int32.reduceToInt, ← Int32.toInt_inj, true_and, and_true, or_true, true_or, false_or, or_false, false_and, and_false, not_true_eq_false, not_false_eq_true] <;> omega)) (fun q1 q2 => (by first | omega | (simp only [Int32.lt_iff_toInt_lt, Int32.le_iff_toInt_le, Int32.reduceToInt, ← Int32.toInt_inj] at *; omega))) (fun k9 q1 q2 q3 => (by first | omega | (simp only [Int32.lt_iff_toInt_lt, Int32.le_iff_toInt_le, Int32.reduceToInt, ← Int32.toInt_inj] at *; omega))))⟩
            obtain ⟨g_3515, hf_3513, ok_3517, eg_3518⟩ : ∃ g9, f_3512 (q 14) = aI E 2076 g9 ∧ FOK g9 ∧ g9 = upd g_3467 (v_3475 : Int32).toNatClampNeg r_3478 := ⟨_, hf_3513, (ok_3469.up (by first | omega | (simp only [Int32.lt_iff_toInt_lt, Int32.le_iff_toInt_le, Int32.reduceToInt, ← Int32.toInt_inj, true_and, and_true, or_true, true_or, false_or, or_false, false_and, and_false, not_true_eq_false, not_false_eq_true] <;> omega)) (fun q1 q2 => (by first | omega | (simp only [Int32.lt_iff_toInt_lt, Int32.le_iff_toInt_le, Int32.reduceToInt, ← Int32.toInt_inj] at *; omega))) (fun k9 q1 q2 q3 => (by first | omega | (simp only [Int32.lt_iff_toInt_lt, Int32.le_iff_toInt_le, Int32.reduceToInt, ← Int32.toInt_inj] at *; omega)))), rfl⟩
            have hf_3519 := (hk_3514 a_0 (ne_kd e_3489 hf_3488 rfl)).trans e_3489
            have fr_3520 := FR.w hk_3514 hf_3488 (k := 2176) rfl
            have lk_3521 := lf_at (g0 := g_f) eg_3518 (by omega) (by omega)
            have ag_3522 := ag_3474.st eg_3518 (by omega) (by omega)
            try simp only [Int32.reduceToInt] at lk_3521
            refine v_aload_n hC dX12_readLoss_225 rfl ?_
            refine v_get hC fl_X12_34 m_1 hf_3519 rfl dX12_readLoss_226 ?_
            refine v_iload_n hC dX12_readLoss_229 rfl ?_
            refine v_iconst hC dX12_readLoss_230 (v := 2) (by decide) ?_
            obtain ⟨v_3523, h_3524⟩ : ∃ v9 : Int32, v_49 + 2 = v9 := ⟨_, rfl⟩
            refine v_iadd hC dX12_readLoss_231 h_3524 ?_
            have h_3525 := add_v h_3524 (by first | omega | (simp only [Int32.lt_iff_toInt_lt, Int32.le_iff_toInt_le, Int32.reduceToInt, ← Int32.toInt_inj, true_and, and_true, or_true, true_or, false_or, or_false, false_and, and_false, not_true_eq_false, not_false_eq_true] <;> omega)) (by first | omega | (simp only [Int32.lt_iff_toInt_lt, Int32.le_iff_toInt_le, Int32.reduceToInt, ← Int32.toInt_inj, true_and, and_true, or_true, true_or, false_or, or_false, false_and, and_false, not_true_eq_false, not_false_eq_true] <;> omega))
            try simp only [Int32.reduceToInt] at h_3525
            refine v_aload_n hC dX12_readLoss_232 rfl ?_
            refine v_ldcwS hC sr_X12_297 dX12_readLoss_233 ?_
            refine v_iconst hC dX12_readLoss_236 (v := 0) (by decide) ?_
            refine v_sipush hC dX12_readLoss_237 (v := 255) (by decide) ?_
            refine v_vi hC (rest := [.int v_3523, .ref (q 14)]) m_1 hf_3519 rfl mi_X12_told ms_X12_told (p_X12_told hW_3516 k_0 (by decide)) mx_X12_told ml_X12_189 (by decide) rfl (cells1 := 0) (slots1 := 0) (by decide) (by decide) (Nat.le_of_ble_eq_true rfl) (Nat.le_of_ble_eq_true rfl) rfl (Nat.le_of_ble_eq_true rfl) dX12_readLoss_240 (fun r_3526 L_3527 f_3528 h_3529 => ?_)
            obtain ⟨rfl, hW_3531, hF_3532, -, -, -, -, -, x_3530⟩ := h_3529
            have fe_3533 : fld (f_3512 a_0) 8 = (v_3495 : Int32).toInt := by rw [hf_3519]; rfl
            have fe_3534 : fld (f_3512 a_0) 12 = (v_3502 : Int32).toInt := by rw [hf_3519]; rfl
            have hf_3535 := hF_3532.at hf_3513 rfl
            obtain ⟨v_3537, v_3538, v_3540, v_3542, v_3544, v_3546, v_3548, v_3549, v_3550, v_3551, v_3553, e_3536, b_3539, b_3541, b_3543, b_3545, b_3547, b_3552, b_3554⟩ := hW_3531.at m_1 t_2
            have fe_3555 : fld (f_3528 a_0) 8 = (v_3542 : Int32).toInt := by rw [e_3536]; rfl
            have fe_3556 : fld (f_3528 a_0) 9 = (v_3544 : Int32).toInt := by rw [e_3536]; rfl
            have fe_3557 : fld (f_3528 a_0) 10 = (v_3546 : Int32).toInt := by rw [e_3536]; rfl
            have fe_3558 : fld (f_3528 a_0) 12 = (v_3549 : Int32).toInt := by rw [e_3536]; rfl
            rw [fe_3558, fe_3534, fe_3533, fe_3556, fe_3555, fe_3557] at x_3530
            clear fe_3533 fe_3534 fe_3555 fe_3556 fe_3557 fe_3558
            try simp only [Int32.reduceToInt, Int64.reduceToInt] at x_3530
            refine v_iast hC m_22 hf_3535 (vp_in_iff.mpr (by first | omega | (simp only [Int32.lt_iff_toInt_lt, Int32.le_iff_toInt_le, Int32.reduceToInt, ← Int32.toInt_inj, true_and, and_true, or_true, true_or, false_or, or_false, false_and, and_false, not_true_eq_false, not_false_eq_true] <;> omega))) dX12_readLoss_243 (fun f_3559 hf_3560 hk_3561 => ?_)
            have hW_3563 := hW_3531.up hf_3560 hk_3561 t_23 ⟨_, rfl, (ok_3517.up (by first | omega | (simp only [Int32.lt_iff_toInt_lt, Int32.le_iff_toInt_le, Int32.reduceToInt, ← Int32.toInt_inj, true_and, and_true, or_true, true_or, false_or, or_false, false_and, and_false, not_true_eq_false, not_false_eq_true] <;> omega)) (fun q1 q2 => (by first | omega | (simp only [Int32.lt_iff_toInt_lt, Int32.le_iff_toInt_le, Int32.reduceToInt, ← Int32.toInt_inj] at *; omega))) (fun k9 q1 q2 q3 => (by first | omega | (simp only [Int32.lt_iff_toInt_lt, Int32.le_iff_toInt_le, Int32.reduceToInt, ← Int32.toInt_inj] at *; omega))))⟩
            obtain ⟨g_3562, hf_3560, ok_3564, eg_3565⟩ : ∃ g9, f_3559 (q 14) = aI E 2076 g9 ∧ FOK g9 ∧ g9 = upd g_3515 (v_3523 : Int32).toNatClampNeg r_3526 := ⟨_, hf_3560, (ok_3517.up (by first | omega | (simp only [Int32.lt_iff_toInt_lt, Int32.le_iff_toInt_le, Int32.reduceToInt, ← Int32.toInt_inj, true_and, and_true, or_true, true_or, false_or, or_false, false_and, and_false, not_true_eq_false, not_false_eq_true] <;> omega)) (fun q1 q2 => (by first | omega | (simp only [Int32.lt_iff_toInt_lt, Int32.le_iff_toInt_le, Int32.reduceToInt, ← Int32.toInt_inj] at *; omega))) (fun k9 q1 q2 q3 => (by first | omega | (simp only [Int32.lt_iff_toInt_lt, Int32.le_iff_toInt_le, Int32.reduceToInt, ← Int32.toInt_inj] at *; omega)))), rfl⟩
            have hf_3566 := (hk_3561 a_0 (ne_kd e_3536 hf_3535 rfl)).trans e_3536
            have fr_3567 := FR.w hk_3561 hf_3535 (k := 2176) rfl
            have lk_3568 := l2_at (g0 := g_f) eg_3565 (by omega) (by omega)
            have ag_3569 := ag_3522.st eg_3565 (by omega) (by omega)
            try simp only [Int32.reduceToInt] at lk_3568
            refine v_goto hC dX12_readLoss_244 (tgt := 258) (by decide) ?_
            refine v_aload_n hC dX12_readLoss_258 rfl ?_
            refine v_vv hC (rest := []) m_1 hf_3566 rfl mi_X12_ends ms_X12_ends (p_X12_ends hW_3563 k_0) mx_X12_ends ml_X12_178 (by decide) rfl (cells1 := 0) (slots1 := 0) (by decide) (by decide) (Nat.le_of_ble_eq_true rfl) (Nat.le_of_ble_eq_true rfl) rfl (Nat.le_of_ble_eq_true rfl) dX12_readLoss_259 (fun L_3571 f_3572 h_3573 => ?_)
            obtain ⟨rfl, hW_3575, hF_3576, -, -, -, -, x_3574⟩ := h_3573
            have fe_3577 : fld (f_3559 a_0) 8 = (v_3542 : Int32).toInt := by rw [hf_3566]; rfl
            have fe_3578 : fld (f_3559 a_0) 10 = (v_3546 : Int32).toInt := by rw [hf_3566]; rfl
            have fe_3579 : fld (f_3559 a_0) 12 = (v_3549 : Int32).toInt := by rw [hf_3566]; rfl
            have hf_3580 := hF_3576.at hf_3560 rfl
            obtain ⟨v_3582, v_3583, v_3585, v_3587, v_3589, v_3591, v_3593, v_3594, v_3595, v_3596, v_3598, e_3581, b_3584, b_3586, b_3588, b_3590, b_3592, b_3597, b_3599⟩ := hW_3575.at m_1 t_2
            have fe_3600 : fld (f_3572 a_0) 8 = (v_3587 : Int32).toInt := by rw [e_3581]; rfl
            have fe_3601 : fld (f_3572 a_0) 9 = (v_3589 : Int32).toInt := by rw [e_3581]; rfl
            have fe_3602 : fld (f_3572 a_0) 10 = (v_3591 : Int32).toInt := by rw [e_3581]; rfl
            have fe_3603 : fld (f_3572 a_0) 12 = (v_3594 : Int32).toInt := by rw [e_3581]; rfl
            rw [fe_3603, fe_3579, fe_3578, fe_3577, fe_3601, fe_3600, fe_3602] at x_3574
            clear fe_3577 fe_3578 fe_3579 fe_3600 fe_3601 fe_3602 fe_3603
            refine v_aload_n hC dX12_readLoss_262 rfl ?_
            refine v_get hC fl_X12_34 m_1 e_3581 rfl dX12_readLoss_263 ?_
            refine v_bipush hC dX12_readLoss_266 (v := 6) (by decide) ?_
            refine v_dup2 hC dX12_readLoss_268 rfl rfl ?_
            have l6_3604 : (g_3562 6).toInt = (g_f 6).toInt := congrArg Int32.toInt ag_3569.2.1
            refine v_iald hC m_22 hf_3580 (vp_in_iff.mpr (by decide)) (v := g_3562 6) rfl dX12_readLoss_269 ?_
            refine v_iconst hC dX12_readLoss_270 (v := 1) (by decide) ?_
            obtain ⟨v_3605, h_3606⟩ : ∃ v9 : Int32, (g_3562 6) + 1 = v9 := ⟨_, rfl⟩
            refine v_iadd hC dX12_readLoss_271 h_3606 ?_
            have h_3607 := add_v h_3606 (by first | omega | (simp only [Int32.lt_iff_toInt_lt, Int32.le_iff_toInt_le, Int32.reduceToInt, ← Int32.toInt_inj, true_and, and_true, or_true, true_or, false_or, or_false, false_and, and_false, not_true_eq_false, not_false_eq_true] <;> omega)) (by first | omega | (simp only [Int32.lt_iff_toInt_lt, Int32.le_iff_toInt_le, Int32.reduceToInt, ← Int32.toInt_inj, true_and, and_true, or_true, true_or, false_or, or_false, false_and, and_false, not_true_eq_false, not_false_eq_true] <;> omega))
            try simp only [Int32.reduceToInt] at h_3607
            refine v_iast hC m_22 hf_3580 (vp_in_iff.mpr (by decide)) dX12_readLoss_272 (fun f_3608 hf_3609 hk_3610 => ?_)
            have hW_3612 := hW_3575.up hf_3609 hk_3610 t_23 ⟨_, rfl, (ok_3564.up (i := 6) (by decide) (fun q1 q2 => absurd (And.intro q1 q2) (by decide)) (fun k9 q1 q2 q3 => by simp only [Int32.reduceToInt] at q3; omega))⟩
            obtain ⟨g_3611, hf_3609, ok_3613, eg_3614⟩ : ∃ g9, f_3608 (q 14) = aI E 2076 g9 ∧ FOK g9 ∧ g9 = upd g_3562 (6 : Int32).toNatClampNeg v_3605 := ⟨_, hf_3609, (ok_3564.up (i := 6) (by decide) (fun q1 q2 => absurd (And.intro q1 q2) (by decide)) (fun k9 q1 q2 q3 => by simp only [Int32.reduceToInt] at q3; omega)), rfl⟩
            have hf_3615 := (hk_3610 a_0 (ne_kd e_3581 hf_3580 rfl)).trans e_3581
            have fr_3616 := FR.w hk_3610 hf_3580 (k := 2176) rfl
            have ln6_3617 := FOK.n6 ag_3569.1 eg_3614
            have ln6_3617_t : (g_3611 6).toInt = v_3605.toInt := congrArg Int32.toInt ln6_3617.2
            have fe_3618 : fld (f_3608 a_0) 12 = (v_3594 : Int32).toInt := by rw [hf_3615]; rfl
            have fe_3624 : fld (f_3608 a_0) 8 = (v_3587 : Int32).toInt := by rw [hf_3615]; rfl
            have fe_3625 : fld (f_3608 a_0) 12 = (v_3594 : Int32).toInt := by rw [hf_3615]; rfl
            have fe_3631 : fld (f_3608 a_0) 20 = (v_3598 : Int32).toInt := by rw [hf_3615]; rfl
            exact hR _ _ _ _ _ _ dX12_readLoss_273 (Nat.le_of_ble_eq_true rfl) (Nat.le_of_ble_eq_true rfl) ⟨rfl, hW_3612, ((((((((((hF_3246.tr hF_3290).tr hF_3328).tr fr_3472).tr hF_3484).tr fr_3520).tr hF_3532).tr fr_3567).tr hF_3576).tr fr_3616).mono rfl), ⟨_, hf_3609, ln6_3617.1, (by omega), (by rw [fe_3618]; by_cases q9 : v_3594.toInt = 0; have gp_3619 := x_3574.resolve_left (fun h9 => h9 q9); clear x_3574; have gp_3620 := x_3530.resolve_left (fun h9 => h9 gp_3619.1); clear x_3530; have gp_3621 := x_3482.resolve_left (fun h9 => h9 gp_3620.1); clear x_3482; have gz_3622 := x_3326.symm.trans gp_3621.1; have gz_3623 := x_3288.symm.trans gz_3622; exact .inr (LO.fin hLO ag_3569 eg_3614 (by omega) (by omega) (fun q8 => by omega)); exact .inl q9)⟩, (by rw [fe_3624, fe_3625, mz_43, mz_44]; by_cases q9 : (v_3594 : Int32).toInt = 0; have gp_3626 := x_3574.resolve_left (fun h9 => h9 q9); clear x_3574; have gp_3627 := x_3530.resolve_left (fun h9 => h9 gp_3626.1); clear x_3530; have gp_3628 := x_3482.resolve_left (fun h9 => h9 gp_3627.1); clear x_3482; have gz_3629 := x_3326.symm.trans gp_3628.1; have gz_3630 := x_3288.symm.trans gz_3629; (right; omega); exact .inl q9), (by simp only [fe_3631, mz_45, true_and, and_true, or_true, true_or, false_or, or_false, false_and, and_false, not_true_eq_false, not_false_eq_true] <;> first | omega | (simp only [Int32.lt_iff_toInt_lt, Int32.le_iff_toInt_le, Int32.reduceToInt, ← Int32.toInt_inj, true_and, and_true, or_true, true_or, false_or, or_false, false_and, and_false, not_true_eq_false, not_false_eq_true] <;> omega))⟩
        · simp only [Int32.lt_iff_toInt_lt, Int32.le_iff_toInt_le, Int32.reduceToInt, ← Int32.toInt_inj] at h_3319
          refine v_aload_n hC dX12_readLoss_98 rfl ?_
          refine v_ldcwS hC sr_X12_293 dX12_readLoss_99 ?_
          refine v_vi hC (rest := []) m_1 e_3296 rfl mi_X12_is ms_X12_is (p_X12_is hW_3289 k_0 (by decide)) mx_X12_is ml_X12_152 (by decide) rfl (cells1 := 0) (slots1 := 0) (by decide) (by decide) (Nat.le_of_ble_eq_true rfl) (Nat.le_of_ble_eq_true rfl) rfl (Nat.le_of_ble_eq_true rfl) dX12_readLoss_102 (fun r_3632 L_3633 f_3634 h_3635 => ?_)
          obtain ⟨rfl, rfl, rfl⟩ := h_3635
          refine v_istore_n hC dX12_readLoss_105 (by decide) (lv' := [(3, .int (iw (f_3284 a_0) (f_3284 (q 4)) 74)), (2, .int v_74), (1, .int v_49), (0, .ref a_0)]) rfl ?_
          refine v_iload_n hC dX12_readLoss_106 rfl ?_
          refine v_if_ne hC dX12_readLoss_107 (tgt := 124) (by decide) (fun h_3638 => ?_) (fun h_3638 => ?_)
          · simp only [Int32.lt_iff_toInt_lt, Int32.le_iff_toInt_le, Int32.reduceToInt, ← Int32.toInt_inj] at h_3638
            refine v_aload_n hC dX12_readLoss_124 rfl ?_
            refine v_vi hC (rest := []) m_1 e_3296 rfl mi_X12_good ms_X12_good (p_X12_good hW_3289 k_0) mx_X12_good ml_X12_139 (by decide) rfl (cells1 := 0) (slots1 := 0) (by decide) (by decide) (Nat.le_of_ble_eq_true rfl) (Nat.le_of_ble_eq_true rfl) rfl (Nat.le_of_ble_eq_true rfl) dX12_readLoss_125 (fun r_3639 L_3640 f_3641 h_3642 => ?_)
            obtain ⟨rfl, rfl, b_3643, x_3644⟩ := h_3642
            have fe_3647 : fld (f_3284 a_0) 12 = (v_3309 : Int32).toInt := by rw [e_3296]; rfl
            rw [fe_3647] at x_3644
            clear fe_3647
            try simp only [Int32.reduceToInt, Int64.reduceToInt] at x_3644
            refine v_if_eq hC dX12_readLoss_128 (tgt := 135) (by decide) (fun h_3648 => ?_) (fun h_3648 => ?_)
            · simp only [Int32.lt_iff_toInt_lt, Int32.le_iff_toInt_le, Int32.reduceToInt, ← Int32.toInt_inj] at h_3648
              have g0_3649 := gd_f x_3644 h_3648
              clear x_3644
              clear x_3288
              refine v_aload_n hC dX12_readLoss_135 rfl ?_
              refine v_get hC fl_X12_34 m_1 e_3296 rfl dX12_readLoss_136 ?_
              refine v_iload_n hC dX12_readLoss_139 rfl ?_
              refine v_iload_n hC dX12_readLoss_140 rfl ?_
              refine v_if_eq_f hC dX12_readLoss_141 (tgt := 148) (by decide) (by first | omega | (simp only [Int32.lt_iff_toInt_lt, Int32.le_iff_toInt_le, Int32.reduceToInt, ← Int32.toInt_inj, true_and, and_true, or_true, true_or, false_or, or_false, false_and, and_false, not_true_eq_false, not_false_eq_true] <;> omega)) ?_
              refine v_iconst hC dX12_readLoss_144 (v := 1) (by decide) ?_
              refine v_goto hC dX12_readLoss_145 (tgt := 149) (by decide) ?_
              refine v_iast hC m_22 hf_3295 (vp_in_iff.mpr (by first | omega | (simp only [Int32.lt_iff_toInt_lt, Int32.le_iff_toInt_le, Int32.reduceToInt, ← Int32.toInt_inj, true_and, and_true, or_true, true_or, false_or, or_false, false_and, and_false, not_true_eq_false, not_false_eq_true] <;> omega))) dX12_readLoss_149 (fun f_3652 hf_3653 hk_3654 => ?_)
              have hW_3656 := hW_3289.up hf_3653 hk_3654 t_23 ⟨_, rfl, (o_f.up (by first | omega | (simp only [Int32.lt_iff_toInt_lt, Int32.le_iff_toInt_le, Int32.reduceToInt, ← Int32.toInt_inj, true_and, and_true, or_true, true_or, false_or, or_false, false_and, and_false, not_true_eq_false, not_false_eq_true] <;> omega)) (fun q1 q2 => (by first | omega | (simp only [Int32.lt_iff_toInt_lt, Int32.le_iff_toInt_le, Int32.reduceToInt, ← Int32.toInt_inj] at *; omega))) (fun k9 q1 q2 q3 => (by first | omega | (simp only [Int32.lt_iff_toInt_lt, Int32.le_iff_toInt_le, Int32.reduceToInt, ← Int32.toInt_inj] at *; omega))))⟩
              obtain ⟨g_3655, hf_3653, ok_3657, eg_3658⟩ : ∃ g9, f_3652 (q 14) = aI E 2076 g9 ∧ FOK g9 ∧ g9 = upd g_f (v_49 : Int32).toNatClampNeg 1 := ⟨_, hf_3653, (o_f.up (by first | omega | (simp only [Int32.lt_iff_toInt_lt, Int32.le_iff_toInt_le, Int32.reduceToInt, ← Int32.toInt_inj, true_and, and_true, or_true, true_or, false_or, or_false, false_and, and_false, not_true_eq_false, not_false_eq_true] <;> omega)) (fun q1 q2 => (by first | omega | (simp only [Int32.lt_iff_toInt_lt, Int32.le_iff_toInt_le, Int32.reduceToInt, ← Int32.toInt_inj] at *; omega))) (fun k9 q1 q2 q3 => (by first | omega | (simp only [Int32.lt_iff_toInt_lt, Int32.le_iff_toInt_le, Int32.reduceToInt, ← Int32.toInt_inj] at *; omega)))), rfl⟩
              have hf_3659 := (hk_3654 a_0 (ne_kd e_3296 hf_3295 rfl)).trans e_3296
              have fr_3660 := FR.w hk_3654 hf_3295 (k := 2176) rfl
              have lk_3661 := lk_at (g0 := g_f) eg_3658 (by omega) (by omega)
              have ag_3662 := (AG.rf o_f).st eg_3658 (by omega) (by omega)
              try simp only [Int32.reduceToInt] at lk_3661
              refine v_aload_n hC dX12_readLoss_150 rfl ?_
              refine v_get hC fl_X12_34 m_1 hf_3659 rfl dX12_readLoss_151 ?_
              refine v_iload_n hC dX12_readLoss_154 rfl ?_
              refine v_iconst hC dX12_readLoss_155 (v := 1) (by decide) ?_
              obtain ⟨v_3663, h_3664⟩ : ∃ v9 : Int32, v_49 + 1 = v9 := ⟨_, rfl⟩
              refine v_iadd hC dX12_readLoss_156 h_3664 ?_
              have h_3665 := add_v h_3664 (by first | omega | (simp only [Int32.lt_iff_toInt_lt, Int32.le_iff_toInt_le, Int32.reduceToInt, ← Int32.toInt_inj, true_and, and_true, or_true, true_or, false_or, or_false, false_and, and_false, not_true_eq_false, not_false_eq_true] <;> omega)) (by first | omega | (simp only [Int32.lt_iff_toInt_lt, Int32.le_iff_toInt_le, Int32.reduceToInt, ← Int32.toInt_inj, true_and, and_true, or_true, true_or, false_or, or_false, false_and, and_false, not_true_eq_false, not_false_eq_true] <;> omega))
              try simp only [Int32.reduceToInt] at h_3665
              refine v_aload_n hC dX12_readLoss_157 rfl ?_
              refine v_iconst hC dX12_readLoss_158 (v := 0) (by decide) ?_
              refine v_bipush hC dX12_readLoss_159 (v := 15) (by decide) ?_
              refine v_vi hC (rest := [.int v_3663, .ref (q 14)]) m_1 hf_3659 rfl mi_X12_number ms_X12_number (p_X12_number hW_3656 k_0) mx_X12_number ml_X12_170 (by decide) rfl (cells1 := 0) (slots1 := 0) (by decide) (by decide) (Nat.le_of_ble_eq_true rfl) (Nat.le_of_ble_eq_true rfl) rfl (Nat.le_of_ble_eq_true rfl) dX12_readLoss_161 (fun r_3666 L_3667 f_3668 h_3669 => ?_)
              obtain ⟨rfl, hW_3671, hF_3672, -, -, -, -, -, x_3670⟩ := h_3669
              have fe_3673 : fld (f_3652 a_0) 8 = (v_3302 : Int32).toInt := by rw [hf_3659]; rfl
              have fe_3674 : fld (f_3652 a_0) 10 = (v_3306 : Int32).toInt := by rw [hf_3659]; rfl
              have fe_3675 : fld (f_3652 a_0) 12 = (v_3309 : Int32).toInt := by rw [hf_3659]; rfl
              have hf_3676 := hF_3672.at hf_3653 rfl
              obtain ⟨v_3678, v_3679, v_3681, v_3683, v_3685, v_3687, v_3689, v_3690, v_3691, v_3692, v_3694, e_3677, b_3680, b_3682, b_3684, b_3686, b_3688, b_3693, b_3695⟩ := hW_3671.at m_1 t_2
              have fe_3696 : fld (f_3668 a_0) 8 = (v_3683 : Int32).toInt := by rw [e_3677]; rfl
              have fe_3697 : fld (f_3668 a_0) 9 = (v_3685 : Int32).toInt := by rw [e_3677]; rfl
              have fe_3698 : fld (f_3668 a_0) 10 = (v_3687 : Int32).toInt := by rw [e_3677]; rfl
              have fe_3699 : fld (f_3668 a_0) 12 = (v_3690 : Int32).toInt := by rw [e_3677]; rfl
              rw [fe_3699, fe_3675, fe_3674, fe_3673, fe_3697, fe_3696, fe_3698] at x_3670
              have nb_3700 : ¬ (v_3690 : Int32).toInt = 0 := x_3670.elim id (fun h9 => absurd h9.1 g0_3649)
              clear x_3670
              clear fe_3673 fe_3674 fe_3675 fe_3696 fe_3697 fe_3698 fe_3699
              try simp only [Int32.reduceToInt, Int64.reduceToInt] at x_3670
              refine v_iast hC m_22 hf_3676 (vp_in_iff.mpr (by first | omega | (simp only [Int32.lt_iff_toInt_lt, Int32.le_iff_toInt_le, Int32.reduceToInt, ← Int32.toInt_inj, true_and, and_true, or_true, true_or, false_or, or_false, false_and, and_false, not_true_eq_false, not_false_eq_true] <;> omega))) dX12_readLoss_164 (fun f_3701 hf_3702 hk_3703 => ?_)
              have hW_3705 := hW_3671.up hf_3702 hk_3703 t_23 ⟨_, rfl, (ok_3657.up (by first | omega | (simp only [Int32.lt_iff_toInt_lt, Int32.le_iff_toInt_le, Int32.reduceToInt, ← Int32.toInt_inj, true_and, and_true, or_true, true_or, false_or, or_false, false_and, and_false, not_true_eq_false, not_false_eq_true] <;> omega)) (fun q1 q2 => (by first | omega | (simp only [Int32.lt_iff_toInt_lt, Int32.le_iff_toInt_le, Int32.reduceToInt, ← Int32.toInt_inj] at *; omega))) (fun k9 q1 q2 q3 => (by first | omega | (simp only [Int32.lt_iff_toInt_lt, Int32.le_iff_toInt_le, Int32.reduceToInt, ← Int32.toInt_inj] at *; omega))))⟩
              obtain ⟨g_3704, hf_3702, ok_3706, eg_3707⟩ : ∃ g9, f_3701 (q 14) = aI E 2076 g9 ∧ FOK g9 ∧ g9 = upd g_3655 (v_3663 : Int32).toNatClampNeg r_3666 := ⟨_, hf_3702, (ok_3657.up (by first | omega | (simp only [Int32.lt_iff_toInt_lt, Int32.le_iff_toInt_le, Int32.reduceToInt, ← Int32.toInt_inj, true_and, and_true, or_true, true_or, false_or, or_false, false_and, and_false, not_true_eq_false, not_false_eq_true] <;> omega)) (fun q1 q2 => (by first | omega | (simp only [Int32.lt_iff_toInt_lt, Int32.le_iff_toInt_le, Int32.reduceToInt, ← Int32.toInt_inj] at *; omega))) (fun k9 q1 q2 q3 => (by first | omega | (simp only [Int32.lt_iff_toInt_lt, Int32.le_iff_toInt_le, Int32.reduceToInt, ← Int32.toInt_inj] at *; omega)))), rfl⟩
              have hf_3708 := (hk_3703 a_0 (ne_kd e_3677 hf_3676 rfl)).trans e_3677
              have fr_3709 := FR.w hk_3703 hf_3676 (k := 2176) rfl
              have lk_3710 := lf_at (g0 := g_f) eg_3707 (by omega) (by omega)
              have ag_3711 := ag_3662.st eg_3707 (by omega) (by omega)
              try simp only [Int32.reduceToInt] at lk_3710
              refine v_aload_n hC dX12_readLoss_165 rfl ?_
              refine v_get hC fl_X12_34 m_1 hf_3708 rfl dX12_readLoss_166 ?_
              refine v_iload_n hC dX12_readLoss_169 rfl ?_
              refine v_iconst hC dX12_readLoss_170 (v := 2) (by decide) ?_
              obtain ⟨v_3712, h_3713⟩ : ∃ v9 : Int32, v_49 + 2 = v9 := ⟨_, rfl⟩
              refine v_iadd hC dX12_readLoss_171 h_3713 ?_
              have h_3714 := add_v h_3713 (by first | omega | (simp only [Int32.lt_iff_toInt_lt, Int32.le_iff_toInt_le, Int32.reduceToInt, ← Int32.toInt_inj, true_and, and_true, or_true, true_or, false_or, or_false, false_and, and_false, not_true_eq_false, not_false_eq_true] <;> omega)) (by first | omega | (simp only [Int32.lt_iff_toInt_lt, Int32.le_iff_toInt_le, Int32.reduceToInt, ← Int32.toInt_inj, true_and, and_true, or_true, true_or, false_or, or_false, false_and, and_false, not_true_eq_false, not_false_eq_true] <;> omega))
              try simp only [Int32.reduceToInt] at h_3714
              refine v_aload_n hC dX12_readLoss_172 rfl ?_
              refine v_ldcwS hC sr_X12_295 dX12_readLoss_173 ?_
              refine v_aload_n hC dX12_readLoss_176 rfl ?_
              refine v_get hC fl_X12_34 m_1 hf_3708 rfl dX12_readLoss_177 ?_
              refine v_iload_n hC dX12_readLoss_180 rfl ?_
              refine v_iconst hC dX12_readLoss_181 (v := 1) (by decide) ?_
              obtain ⟨v_3715, h_3716⟩ : ∃ v9 : Int32, v_49 + 1 = v9 := ⟨_, rfl⟩
              refine v_iadd hC dX12_readLoss_182 h_3716 ?_
              have h_3717 := add_v h_3716 (by first | omega | (simp only [Int32.lt_iff_toInt_lt, Int32.le_iff_toInt_le, Int32.reduceToInt, ← Int32.toInt_inj, true_and, and_true, or_true, true_or, false_or, or_false, false_and, and_false, not_true_eq_false, not_false_eq_true] <;> omega)) (by first | omega | (simp only [Int32.lt_iff_toInt_lt, Int32.le_iff_toInt_le, Int32.reduceToInt, ← Int32.toInt_inj, true_and, and_true, or_true, true_or, false_or, or_false, false_and, and_false, not_true_eq_false, not_false_eq_true] <;> omega))
              try simp only [Int32.reduceToInt] at h_3717
              obtain ⟨v_3718, h_3719⟩ : ∃ v9 : Int32, g_3704 (v_3715 : Int32).toNatClampNeg = v9 := ⟨_, rfl⟩
              refine v_iald hC m_22 hf_3702 (vp_in_iff.mpr (by first | omega | (simp only [Int32.lt_iff_toInt_lt, Int32.le_iff_toInt_le, Int32.reduceToInt, ← Int32.toInt_inj, true_and, and_true, or_true, true_or, false_or, or_false, false_and, and_false, not_true_eq_false, not_false_eq_true] <;> omega))) h_3719 dX12_readLoss_183 ?_
              refine v_bipush hC dX12_readLoss_184 (v := 15) (by decide) ?_
              refine v_vi hC (rest := [.int v_3712, .ref (q 14)]) m_1 hf_3708 rfl mi_X12_told ms_X12_told (p_X12_told hW_3705 k_0 (by decide)) mx_X12_told ml_X12_189 (by decide) rfl (cells1 := 0) (slots1 := 0) (by decide) (by decide) (Nat.le_of_ble_eq_true rfl) (Nat.le_of_ble_eq_true rfl) rfl (Nat.le_of_ble_eq_true rfl) dX12_readLoss_186 (fun r_3720 L_3721 f_3722 h_3723 => ?_)
              obtain ⟨rfl, hW_3725, hF_3726, -, -, -, -, -, x_3724⟩ := h_3723
              have fe_3727 : fld (f_3701 a_0) 8 = (v_3683 : Int32).toInt := by rw [hf_3708]; rfl
              have fe_3728 : fld (f_3701 a_0) 12 = (v_3690 : Int32).toInt := by rw [hf_3708]; rfl
              have hf_3729 := hF_3726.at hf_3702 rfl
              obtain ⟨v_3731, v_3732, v_3734, v_3736, v_3738, v_3740, v_3742, v_3743, v_3744, v_3745, v_3747, e_3730, b_3733, b_3735, b_3737, b_3739, b_3741, b_3746, b_3748⟩ := hW_3725.at m_1 t_2
              have fe_3749 : fld (f_3722 a_0) 8 = (v_3736 : Int32).toInt := by rw [e_3730]; rfl
              have fe_3750 : fld (f_3722 a_0) 9 = (v_3738 : Int32).toInt := by rw [e_3730]; rfl
              have fe_3751 : fld (f_3722 a_0) 10 = (v_3740 : Int32).toInt := by rw [e_3730]; rfl
              have fe_3752 : fld (f_3722 a_0) 12 = (v_3743 : Int32).toInt := by rw [e_3730]; rfl
              rw [fe_3752, fe_3728, fe_3727, fe_3750, fe_3749, fe_3751] at x_3724
              have nb_3753 : ¬ (v_3743 : Int32).toInt = 0 := x_3724.elim id (fun h9 => absurd h9.1 nb_3700)
              clear x_3724
              clear fe_3727 fe_3728 fe_3749 fe_3750 fe_3751 fe_3752
              try simp only [Int32.reduceToInt, Int64.reduceToInt] at x_3724
              refine v_iast hC m_22 hf_3729 (vp_in_iff.mpr (by first | omega | (simp only [Int32.lt_iff_toInt_lt, Int32.le_iff_toInt_le, Int32.reduceToInt, ← Int32.toInt_inj, true_and, and_true, or_true, true_or, false_or, or_false, false_and, and_false, not_true_eq_false, not_false_eq_true] <;> omega))) dX12_readLoss_189 (fun f_3754 hf_3755 hk_3756 => ?_)
              have hW_3758 := hW_3725.up hf_3755 hk_3756 t_23 ⟨_, rfl, (ok_3706.up (by first | omega | (simp only [Int32.lt_iff_toInt_lt, Int32.le_iff_toInt_le, Int32.reduceToInt, ← Int32.toInt_inj, true_and, and_true, or_true, true_or, false_or, or_false, false_and, and_false, not_true_eq_false, not_false_eq_true] <;> omega)) (fun q1 q2 => (by first | omega | (simp only [Int32.lt_iff_toInt_lt, Int32.le_iff_toInt_le, Int32.reduceToInt, ← Int32.toInt_inj] at *; omega))) (fun k9 q1 q2 q3 => (by first | omega | (simp only [Int32.lt_iff_toInt_lt, Int32.le_iff_toInt_le, Int32.reduceToInt, ← Int32.toInt_inj] at *; omega))))⟩
              obtain ⟨g_3757, hf_3755, ok_3759, eg_3760⟩ : ∃ g9, f_3754 (q 14) = aI E 2076 g9 ∧ FOK g9 ∧ g9 = upd g_3704 (v_3712 : Int32).toNatClampNeg r_3720 := ⟨_, hf_3755, (ok_3706.up (by first | omega | (simp only [Int32.lt_iff_toInt_lt, Int32.le_iff_toInt_le, Int32.reduceToInt, ← Int32.toInt_inj, true_and, and_true, or_true, true_or, false_or, or_false, false_and, and_false, not_true_eq_false, not_false_eq_true] <;> omega)) (fun q1 q2 => (by first | omega | (simp only [Int32.lt_iff_toInt_lt, Int32.le_iff_toInt_le, Int32.reduceToInt, ← Int32.toInt_inj] at *; omega))) (fun k9 q1 q2 q3 => (by first | omega | (simp only [Int32.lt_iff_toInt_lt, Int32.le_iff_toInt_le, Int32.reduceToInt, ← Int32.toInt_inj] at *; omega)))), rfl⟩
              have hf_3761 := (hk_3756 a_0 (ne_kd e_3730 hf_3729 rfl)).trans e_3730
              have fr_3762 := FR.w hk_3756 hf_3729 (k := 2176) rfl
              have lk_3763 := l2_at (g0 := g_f) eg_3760 (by omega) (by omega)
              have ag_3764 := ag_3711.st eg_3760 (by omega) (by omega)
              try simp only [Int32.reduceToInt] at lk_3763
              refine v_goto hC dX12_readLoss_190 (tgt := 258) (by decide) ?_
              refine v_aload_n hC dX12_readLoss_258 rfl ?_
              refine v_vv hC (rest := []) m_1 hf_3761 rfl mi_X12_ends ms_X12_ends (p_X12_ends hW_3758 k_0) mx_X12_ends ml_X12_178 (by decide) rfl (cells1 := 0) (slots1 := 0) (by decide) (by decide) (Nat.le_of_ble_eq_true rfl) (Nat.le_of_ble_eq_true rfl) rfl (Nat.le_of_ble_eq_true rfl) dX12_readLoss_259 (fun L_3766 f_3767 h_3768 => ?_)
              obtain ⟨rfl, hW_3770, hF_3771, -, -, -, -, x_3769⟩ := h_3768
              have fe_3772 : fld (f_3754 a_0) 8 = (v_3736 : Int32).toInt := by rw [hf_3761]; rfl
              have fe_3773 : fld (f_3754 a_0) 10 = (v_3740 : Int32).toInt := by rw [hf_3761]; rfl
              have fe_3774 : fld (f_3754 a_0) 12 = (v_3743 : Int32).toInt := by rw [hf_3761]; rfl
              have hf_3775 := hF_3771.at hf_3755 rfl
              obtain ⟨v_3777, v_3778, v_3780, v_3782, v_3784, v_3786, v_3788, v_3789, v_3790, v_3791, v_3793, e_3776, b_3779, b_3781, b_3783, b_3785, b_3787, b_3792, b_3794⟩ := hW_3770.at m_1 t_2
              have fe_3795 : fld (f_3767 a_0) 8 = (v_3782 : Int32).toInt := by rw [e_3776]; rfl
              have fe_3796 : fld (f_3767 a_0) 9 = (v_3784 : Int32).toInt := by rw [e_3776]; rfl
              have fe_3797 : fld (f_3767 a_0) 10 = (v_3786 : Int32).toInt := by rw [e_3776]; rfl
              have fe_3798 : fld (f_3767 a_0) 12 = (v_3789 : Int32).toInt := by rw [e_3776]; rfl
              rw [fe_3798, fe_3774, fe_3773, fe_3772, fe_3796, fe_3795, fe_3797] at x_3769
              have nb_3799 : ¬ (v_3789 : Int32).toInt = 0 := x_3769.elim id (fun h9 => absurd h9.1 nb_3753)
              clear x_3769
              clear fe_3772 fe_3773 fe_3774 fe_3795 fe_3796 fe_3797 fe_3798
              refine v_aload_n hC dX12_readLoss_262 rfl ?_
              refine v_get hC fl_X12_34 m_1 e_3776 rfl dX12_readLoss_263 ?_
              refine v_bipush hC dX12_readLoss_266 (v := 6) (by decide) ?_
              refine v_dup2 hC dX12_readLoss_268 rfl rfl ?_
              have l6_3800 : (g_3757 6).toInt = (g_f 6).toInt := congrArg Int32.toInt ag_3764.2.1
              refine v_iald hC m_22 hf_3775 (vp_in_iff.mpr (by decide)) (v := g_3757 6) rfl dX12_readLoss_269 ?_
              refine v_iconst hC dX12_readLoss_270 (v := 1) (by decide) ?_
              obtain ⟨v_3801, h_3802⟩ : ∃ v9 : Int32, (g_3757 6) + 1 = v9 := ⟨_, rfl⟩
              refine v_iadd hC dX12_readLoss_271 h_3802 ?_
              have h_3803 := add_v h_3802 (by first | omega | (simp only [Int32.lt_iff_toInt_lt, Int32.le_iff_toInt_le, Int32.reduceToInt, ← Int32.toInt_inj, true_and, and_true, or_true, true_or, false_or, or_false, false_and, and_false, not_true_eq_false, not_false_eq_true] <;> omega)) (by first | omega | (simp only [Int32.lt_iff_toInt_lt, Int32.le_iff_toInt_le, Int32.reduceToInt, ← Int32.toInt_inj, true_and, and_true, or_true, true_or, false_or, or_false, false_and, and_false, not_true_eq_false, not_false_eq_true] <;> omega))
              try simp only [Int32.reduceToInt] at h_3803
              refine v_iast hC m_22 hf_3775 (vp_in_iff.mpr (by decide)) dX12_readLoss_272 (fun f_3804 hf_3805 hk_3806 => ?_)
              have hW_3808 := hW_3770.up hf_3805 hk_3806 t_23 ⟨_, rfl, (ok_3759.up (i := 6) (by decide) (fun q1 q2 => absurd (And.intro q1 q2) (by decide)) (fun k9 q1 q2 q3 => by simp only [Int32.reduceToInt] at q3; omega))⟩
              obtain ⟨g_3807, hf_3805, ok_3809, eg_3810⟩ : ∃ g9, f_3804 (q 14) = aI E 2076 g9 ∧ FOK g9 ∧ g9 = upd g_3757 (6 : Int32).toNatClampNeg v_3801 := ⟨_, hf_3805, (ok_3759.up (i := 6) (by decide) (fun q1 q2 => absurd (And.intro q1 q2) (by decide)) (fun k9 q1 q2 q3 => by simp only [Int32.reduceToInt] at q3; omega)), rfl⟩
              have hf_3811 := (hk_3806 a_0 (ne_kd e_3776 hf_3775 rfl)).trans e_3776
              have fr_3812 := FR.w hk_3806 hf_3775 (k := 2176) rfl
              have ln6_3813 := FOK.n6 ag_3764.1 eg_3810
              have ln6_3813_t : (g_3807 6).toInt = v_3801.toInt := congrArg Int32.toInt ln6_3813.2
              have fe_3814 : fld (f_3804 a_0) 12 = (v_3789 : Int32).toInt := by rw [hf_3811]; rfl
              have fe_3815 : fld (f_3804 a_0) 8 = (v_3782 : Int32).toInt := by rw [hf_3811]; rfl
              have fe_3816 : fld (f_3804 a_0) 12 = (v_3789 : Int32).toInt := by rw [hf_3811]; rfl
              have fe_3817 : fld (f_3804 a_0) 20 = (v_3793 : Int32).toInt := by rw [hf_3811]; rfl
              exact hR _ _ _ _ _ _ dX12_readLoss_273 (Nat.le_of_ble_eq_true rfl) (Nat.le_of_ble_eq_true rfl) ⟨rfl, hW_3808, (((((((((hF_3246.tr hF_3290).tr fr_3660).tr hF_3672).tr fr_3709).tr hF_3726).tr fr_3762).tr hF_3771).tr fr_3812).mono rfl), ⟨_, hf_3805, ln6_3813.1, (by omega), (by rw [fe_3814]; exact .inl nb_3799)⟩, (by rw [fe_3815, fe_3816, mz_43, mz_44]; exact .inl nb_3799), (by simp only [fe_3817, mz_45, true_and, and_true, or_true, true_or, false_or, or_false, false_and, and_false, not_true_eq_false, not_false_eq_true] <;> first | omega | (simp only [Int32.lt_iff_toInt_lt, Int32.le_iff_toInt_le, Int32.reduceToInt, ← Int32.toInt_inj, true_and, and_true, or_true, true_or, false_or, or_false, false_and, and_false, not_true_eq_false, not_false_eq_true] <;> omega))⟩
            · simp only [Int32.lt_iff_toInt_lt, Int32.le_iff_toInt_le, Int32.reduceToInt, ← Int32.toInt_inj] at h_3648
              have g0_3650 := gd_t x_3644 h_3648
              clear x_3644
              have gz_3651 := x_3288.symm.trans g0_3650
              refine v_aload_n hC dX12_readLoss_131 rfl ?_
              refine v_vv hC (rest := []) m_1 e_3296 rfl mi_X12_advance ms_X12_advance (p_X12_advance hW_3289 k_0) mx_X12_advance ml_X12_156 (by decide) rfl (cells1 := 0) (slots1 := 0) (by decide) (by decide) (Nat.le_of_ble_eq_true rfl) (Nat.le_of_ble_eq_true rfl) rfl (Nat.le_of_ble_eq_true rfl) dX12_readLoss_132 (fun L_3819 f_3820 h_3821 => ?_)
              obtain ⟨rfl, hW_3825, hF_3826, x_3822, x_3823, x_3824, -⟩ := h_3821
              have fe_3827 : fld (f_3284 a_0) 8 = (v_3302 : Int32).toInt := by rw [e_3296]; rfl
              have fe_3828 : fld (f_3284 a_0) 12 = (v_3309 : Int32).toInt := by rw [e_3296]; rfl
              have hf_3829 := hF_3826.at hf_3295 rfl
              obtain ⟨v_3831, v_3832, v_3834, v_3836, v_3838, v_3840, v_3842, v_3843, v_3844, v_3845, v_3847, e_3830, b_3833, b_3835, b_3837, b_3839, b_3841, b_3846, b_3848⟩ := hW_3825.at m_1 t_2
              have fe_3849 : fld (f_3820 a_0) 8 = (v_3836 : Int32).toInt := by rw [e_3830]; rfl
              have fe_3850 : fld (f_3820 a_0) 9 = (v_3838 : Int32).toInt := by rw [e_3830]; rfl
              have fe_3851 : fld (f_3820 a_0) 10 = (v_3840 : Int32).toInt := by rw [e_3830]; rfl
              have fe_3852 : fld (f_3820 a_0) 12 = (v_3843 : Int32).toInt := by rw [e_3830]; rfl
              rw [fe_3827, fe_3850, fe_3849] at x_3822
              rw [fe_3851, fe_3850, fe_3849] at x_3823
              rw [fe_3852, fe_3828] at x_3824
              clear fe_3827 fe_3828 fe_3849 fe_3850 fe_3851 fe_3852
              refine v_aload_n hC dX12_readLoss_135 rfl ?_
              refine v_get hC fl_X12_34 m_1 e_3830 rfl dX12_readLoss_136 ?_
              refine v_iload_n hC dX12_readLoss_139 rfl ?_
              refine v_iload_n hC dX12_readLoss_140 rfl ?_
              refine v_if_eq_f hC dX12_readLoss_141 (tgt := 148) (by decide) (by first | omega | (simp only [Int32.lt_iff_toInt_lt, Int32.le_iff_toInt_le, Int32.reduceToInt, ← Int32.toInt_inj, true_and, and_true, or_true, true_or, false_or, or_false, false_and, and_false, not_true_eq_false, not_false_eq_true] <;> omega)) ?_
              refine v_iconst hC dX12_readLoss_144 (v := 1) (by decide) ?_
              refine v_goto hC dX12_readLoss_145 (tgt := 149) (by decide) ?_
              refine v_iast hC m_22 hf_3829 (vp_in_iff.mpr (by first | omega | (simp only [Int32.lt_iff_toInt_lt, Int32.le_iff_toInt_le, Int32.reduceToInt, ← Int32.toInt_inj, true_and, and_true, or_true, true_or, false_or, or_false, false_and, and_false, not_true_eq_false, not_false_eq_true] <;> omega))) dX12_readLoss_149 (fun f_3853 hf_3854 hk_3855 => ?_)
              have hW_3857 := hW_3825.up hf_3854 hk_3855 t_23 ⟨_, rfl, (o_f.up (by first | omega | (simp only [Int32.lt_iff_toInt_lt, Int32.le_iff_toInt_le, Int32.reduceToInt, ← Int32.toInt_inj, true_and, and_true, or_true, true_or, false_or, or_false, false_and, and_false, not_true_eq_false, not_false_eq_true] <;> omega)) (fun q1 q2 => (by first | omega | (simp only [Int32.lt_iff_toInt_lt, Int32.le_iff_toInt_le, Int32.reduceToInt, ← Int32.toInt_inj] at *; omega))) (fun k9 q1 q2 q3 => (by first | omega | (simp only [Int32.lt_iff_toInt_lt, Int32.le_iff_toInt_le, Int32.reduceToInt, ← Int32.toInt_inj] at *; omega))))⟩
              obtain ⟨g_3856, hf_3854, ok_3858, eg_3859⟩ : ∃ g9, f_3853 (q 14) = aI E 2076 g9 ∧ FOK g9 ∧ g9 = upd g_f (v_49 : Int32).toNatClampNeg 1 := ⟨_, hf_3854, (o_f.up (by first | omega | (simp only [Int32.lt_iff_toInt_lt, Int32.le_iff_toInt_le, Int32.reduceToInt, ← Int32.toInt_inj, true_and, and_true, or_true, true_or, false_or, or_false, false_and, and_false, not_true_eq_false, not_false_eq_true] <;> omega)) (fun q1 q2 => (by first | omega | (simp only [Int32.lt_iff_toInt_lt, Int32.le_iff_toInt_le, Int32.reduceToInt, ← Int32.toInt_inj] at *; omega))) (fun k9 q1 q2 q3 => (by first | omega | (simp only [Int32.lt_iff_toInt_lt, Int32.le_iff_toInt_le, Int32.reduceToInt, ← Int32.toInt_inj] at *; omega)))), rfl⟩
              have hf_3860 := (hk_3855 a_0 (ne_kd e_3830 hf_3829 rfl)).trans e_3830
              have fr_3861 := FR.w hk_3855 hf_3829 (k := 2176) rfl
              have lk_3862 := lk_at (g0 := g_f) eg_3859 (by omega) (by omega)
              have ag_3863 := (AG.rf o_f).st eg_3859 (by omega) (by omega)
              try simp only [Int32.reduceToInt] at lk_3862
              refine v_aload_n hC dX12_readLoss_150 rfl ?_
              refine v_get hC fl_X12_34 m_1 hf_3860 rfl dX12_readLoss_151 ?_
              refine v_iload_n hC dX12_readLoss_154 rfl ?_
              refine v_iconst hC dX12_readLoss_155 (v := 1) (by decide) ?_
              obtain ⟨v_3864, h_3865⟩ : ∃ v9 : Int32, v_49 + 1 = v9 := ⟨_, rfl⟩
              refine v_iadd hC dX12_readLoss_156 h_3865 ?_
              have h_3866 := add_v h_3865 (by first | omega | (simp only [Int32.lt_iff_toInt_lt, Int32.le_iff_toInt_le, Int32.reduceToInt, ← Int32.toInt_inj, true_and, and_true, or_true, true_or, false_or, or_false, false_and, and_false, not_true_eq_false, not_false_eq_true] <;> omega)) (by first | omega | (simp only [Int32.lt_iff_toInt_lt, Int32.le_iff_toInt_le, Int32.reduceToInt, ← Int32.toInt_inj, true_and, and_true, or_true, true_or, false_or, or_false, false_and, and_false, not_true_eq_false, not_false_eq_true] <;> omega))
              try simp only [Int32.reduceToInt] at h_3866
              refine v_aload_n hC dX12_readLoss_157 rfl ?_
              refine v_iconst hC dX12_readLoss_158 (v := 0) (by decide) ?_
              refine v_bipush hC dX12_readLoss_159 (v := 15) (by decide) ?_
              refine v_vi hC (rest := [.int v_3864, .ref (q 14)]) m_1 hf_3860 rfl mi_X12_number ms_X12_number (p_X12_number hW_3857 k_0) mx_X12_number ml_X12_170 (by decide) rfl (cells1 := 0) (slots1 := 0) (by decide) (by decide) (Nat.le_of_ble_eq_true rfl) (Nat.le_of_ble_eq_true rfl) rfl (Nat.le_of_ble_eq_true rfl) dX12_readLoss_161 (fun r_3867 L_3868 f_3869 h_3870 => ?_)
              obtain ⟨rfl, hW_3872, hF_3873, -, -, -, -, -, x_3871⟩ := h_3870
              have fe_3874 : fld (f_3853 a_0) 8 = (v_3836 : Int32).toInt := by rw [hf_3860]; rfl
              have fe_3875 : fld (f_3853 a_0) 10 = (v_3840 : Int32).toInt := by rw [hf_3860]; rfl
              have fe_3876 : fld (f_3853 a_0) 12 = (v_3843 : Int32).toInt := by rw [hf_3860]; rfl
              have hf_3877 := hF_3873.at hf_3854 rfl
              obtain ⟨v_3879, v_3880, v_3882, v_3884, v_3886, v_3888, v_3890, v_3891, v_3892, v_3893, v_3895, e_3878, b_3881, b_3883, b_3885, b_3887, b_3889, b_3894, b_3896⟩ := hW_3872.at m_1 t_2
              have fe_3897 : fld (f_3869 a_0) 8 = (v_3884 : Int32).toInt := by rw [e_3878]; rfl
              have fe_3898 : fld (f_3869 a_0) 9 = (v_3886 : Int32).toInt := by rw [e_3878]; rfl
              have fe_3899 : fld (f_3869 a_0) 10 = (v_3888 : Int32).toInt := by rw [e_3878]; rfl
              have fe_3900 : fld (f_3869 a_0) 12 = (v_3891 : Int32).toInt := by rw [e_3878]; rfl
              rw [fe_3900, fe_3876, fe_3875, fe_3874, fe_3898, fe_3897, fe_3899] at x_3871
              clear fe_3874 fe_3875 fe_3876 fe_3897 fe_3898 fe_3899 fe_3900
              try simp only [Int32.reduceToInt, Int64.reduceToInt] at x_3871
              refine v_iast hC m_22 hf_3877 (vp_in_iff.mpr (by first | omega | (simp only [Int32.lt_iff_toInt_lt, Int32.le_iff_toInt_le, Int32.reduceToInt, ← Int32.toInt_inj, true_and, and_true, or_true, true_or, false_or, or_false, false_and, and_false, not_true_eq_false, not_false_eq_true] <;> omega))) dX12_readLoss_164 (fun f_3901 hf_3902 hk_3903 => ?_)
              have hW_3905 := hW_3872.up hf_3902 hk_3903 t_23 ⟨_, rfl, (ok_3858.up (by first | omega | (simp only [Int32.lt_iff_toInt_lt, Int32.le_iff_toInt_le, Int32.reduceToInt, ← Int32.toInt_inj, true_and, and_true, or_true, true_or, false_or, or_false, false_and, and_false, not_true_eq_false, not_false_eq_true] <;> omega)) (fun q1 q2 => (by first | omega | (simp only [Int32.lt_iff_toInt_lt, Int32.le_iff_toInt_le, Int32.reduceToInt, ← Int32.toInt_inj] at *; omega))) (fun k9 q1 q2 q3 => (by first | omega | (simp only [Int32.lt_iff_toInt_lt, Int32.le_iff_toInt_le, Int32.reduceToInt, ← Int32.toInt_inj] at *; omega))))⟩
              obtain ⟨g_3904, hf_3902, ok_3906, eg_3907⟩ : ∃ g9, f_3901 (q 14) = aI E 2076 g9 ∧ FOK g9 ∧ g9 = upd g_3856 (v_3864 : Int32).toNatClampNeg r_3867 := ⟨_, hf_3902, (ok_3858.up (by first | omega | (simp only [Int32.lt_iff_toInt_lt, Int32.le_iff_toInt_le, Int32.reduceToInt, ← Int32.toInt_inj, true_and, and_true, or_true, true_or, false_or, or_false, false_and, and_false, not_true_eq_false, not_false_eq_true] <;> omega)) (fun q1 q2 => (by first | omega | (simp only [Int32.lt_iff_toInt_lt, Int32.le_iff_toInt_le, Int32.reduceToInt, ← Int32.toInt_inj] at *; omega))) (fun k9 q1 q2 q3 => (by first | omega | (simp only [Int32.lt_iff_toInt_lt, Int32.le_iff_toInt_le, Int32.reduceToInt, ← Int32.toInt_inj] at *; omega)))), rfl⟩
              have hf_3908 := (hk_3903 a_0 (ne_kd e_3878 hf_3877 rfl)).trans e_3878
              have fr_3909 := FR.w hk_3903 hf_3877 (k := 2176) rfl
              have lk_3910 := lf_at (g0 := g_f) eg_3907 (by omega) (by omega)
              have ag_3911 := ag_3863.st eg_3907 (by omega) (by omega)
              try simp only [Int32.reduceToInt] at lk_3910
              refine v_aload_n hC dX12_readLoss_165 rfl ?_
              refine v_get hC fl_X12_34 m_1 hf_3908 rfl dX12_readLoss_166 ?_
              refine v_iload_n hC dX12_readLoss_169 rfl ?_
              refine v_iconst hC dX12_readLoss_170 (v := 2) (by decide) ?_
              obtain ⟨v_3912, h_3913⟩ : ∃ v9 : Int32, v_49 + 2 = v9 := ⟨_, rfl⟩
              refine v_iadd hC dX12_readLoss_171 h_3913 ?_
              have h_3914 := add_v h_3913 (by first | omega | (simp only [Int32.lt_iff_toInt_lt, Int32.le_iff_toInt_le, Int32.reduceToInt, ← Int32.toInt_inj, true_and, and_true, or_true, true_or, false_or, or_false, false_and, and_false, not_true_eq_false, not_false_eq_true] <;> omega)) (by first | omega | (simp only [Int32.lt_iff_toInt_lt, Int32.le_iff_toInt_le, Int32.reduceToInt, ← Int32.toInt_inj, true_and, and_true, or_true, true_or, false_or, or_false, false_and, and_false, not_true_eq_false, not_false_eq_true] <;> omega))
              try simp only [Int32.reduceToInt] at h_3914
              refine v_aload_n hC dX12_readLoss_172 rfl ?_
              refine v_ldcwS hC sr_X12_295 dX12_readLoss_173 ?_
              refine v_aload_n hC dX12_readLoss_176 rfl ?_
              refine v_get hC fl_X12_34 m_1 hf_3908 rfl dX12_readLoss_177 ?_
              refine v_iload_n hC dX12_readLoss_180 rfl ?_
              refine v_iconst hC dX12_readLoss_181 (v := 1) (by decide) ?_
              obtain ⟨v_3915, h_3916⟩ : ∃ v9 : Int32, v_49 + 1 = v9 := ⟨_, rfl⟩
              refine v_iadd hC dX12_readLoss_182 h_3916 ?_
              have h_3917 := add_v h_3916 (by first | omega | (simp only [Int32.lt_iff_toInt_lt, Int32.le_iff_toInt_le, Int32.reduceToInt, ← Int32.toInt_inj, true_and, and_true, or_true, true_or, false_or, or_false, false_and, and_false, not_true_eq_false, not_false_eq_true] <;> omega)) (by first | omega | (simp only [Int32.lt_iff_toInt_lt, Int32.le_iff_toInt_le, Int32.reduceToInt, ← Int32.toInt_inj, true_and, and_true, or_true, true_or, false_or, or_false, false_and, and_false, not_true_eq_false, not_false_eq_true] <;> omega))
              try simp only [Int32.reduceToInt] at h_3917
              obtain ⟨v_3918, h_3919⟩ : ∃ v9 : Int32, g_3904 (v_3915 : Int32).toNatClampNeg = v9 := ⟨_, rfl⟩
              refine v_iald hC m_22 hf_3902 (vp_in_iff.mpr (by first | omega | (simp only [Int32.lt_iff_toInt_lt, Int32.le_iff_toInt_le, Int32.reduceToInt, ← Int32.toInt_inj, true_and, and_true, or_true, true_or, false_or, or_false, false_and, and_false, not_true_eq_false, not_false_eq_true] <;> omega))) h_3919 dX12_readLoss_183 ?_
              refine v_bipush hC dX12_readLoss_184 (v := 15) (by decide) ?_
              refine v_vi hC (rest := [.int v_3912, .ref (q 14)]) m_1 hf_3908 rfl mi_X12_told ms_X12_told (p_X12_told hW_3905 k_0 (by decide)) mx_X12_told ml_X12_189 (by decide) rfl (cells1 := 0) (slots1 := 0) (by decide) (by decide) (Nat.le_of_ble_eq_true rfl) (Nat.le_of_ble_eq_true rfl) rfl (Nat.le_of_ble_eq_true rfl) dX12_readLoss_186 (fun r_3920 L_3921 f_3922 h_3923 => ?_)
              obtain ⟨rfl, hW_3925, hF_3926, -, -, -, -, -, x_3924⟩ := h_3923
              have fe_3927 : fld (f_3901 a_0) 8 = (v_3884 : Int32).toInt := by rw [hf_3908]; rfl
              have fe_3928 : fld (f_3901 a_0) 12 = (v_3891 : Int32).toInt := by rw [hf_3908]; rfl
              have hf_3929 := hF_3926.at hf_3902 rfl
              obtain ⟨v_3931, v_3932, v_3934, v_3936, v_3938, v_3940, v_3942, v_3943, v_3944, v_3945, v_3947, e_3930, b_3933, b_3935, b_3937, b_3939, b_3941, b_3946, b_3948⟩ := hW_3925.at m_1 t_2
              have fe_3949 : fld (f_3922 a_0) 8 = (v_3936 : Int32).toInt := by rw [e_3930]; rfl
              have fe_3950 : fld (f_3922 a_0) 9 = (v_3938 : Int32).toInt := by rw [e_3930]; rfl
              have fe_3951 : fld (f_3922 a_0) 10 = (v_3940 : Int32).toInt := by rw [e_3930]; rfl
              have fe_3952 : fld (f_3922 a_0) 12 = (v_3943 : Int32).toInt := by rw [e_3930]; rfl
              rw [fe_3952, fe_3928, fe_3927, fe_3950, fe_3949, fe_3951] at x_3924
              clear fe_3927 fe_3928 fe_3949 fe_3950 fe_3951 fe_3952
              try simp only [Int32.reduceToInt, Int64.reduceToInt] at x_3924
              refine v_iast hC m_22 hf_3929 (vp_in_iff.mpr (by first | omega | (simp only [Int32.lt_iff_toInt_lt, Int32.le_iff_toInt_le, Int32.reduceToInt, ← Int32.toInt_inj, true_and, and_true, or_true, true_or, false_or, or_false, false_and, and_false, not_true_eq_false, not_false_eq_true] <;> omega))) dX12_readLoss_189 (fun f_3953 hf_3954 hk_3955 => ?_)
              have hW_3957 := hW_3925.up hf_3954 hk_3955 t_23 ⟨_, rfl, (ok_3906.up (by first | omega | (simp only [Int32.lt_iff_toInt_lt, Int32.le_iff_toInt_le, Int32.reduceToInt, ← Int32.toInt_inj, true_and, and_true, or_true, true_or, false_or, or_false, false_and, and_false, not_true_eq_false, not_false_eq_true] <;> omega)) (fun q1 q2 => (by first | omega | (simp only [Int32.lt_iff_toInt_lt, Int32.le_iff_toInt_le, Int32.reduceToInt, ← Int32.toInt_inj] at *; omega))) (fun k9 q1 q2 q3 => (by first | omega | (simp only [Int32.lt_iff_toInt_lt, Int32.le_iff_toInt_le, Int32.reduceToInt, ← Int32.toInt_inj] at *; omega))))⟩
              obtain ⟨g_3956, hf_3954, ok_3958, eg_3959⟩ : ∃ g9, f_3953 (q 14) = aI E 2076 g9 ∧ FOK g9 ∧ g9 = upd g_3904 (v_3912 : Int32).toNatClampNeg r_3920 := ⟨_, hf_3954, (ok_3906.up (by first | omega | (simp only [Int32.lt_iff_toInt_lt, Int32.le_iff_toInt_le, Int32.reduceToInt, ← Int32.toInt_inj, true_and, and_true, or_true, true_or, false_or, or_false, false_and, and_false, not_true_eq_false, not_false_eq_true] <;> omega)) (fun q1 q2 => (by first | omega | (simp only [Int32.lt_iff_toInt_lt, Int32.le_iff_toInt_le, Int32.reduceToInt, ← Int32.toInt_inj] at *; omega))) (fun k9 q1 q2 q3 => (by first | omega | (simp only [Int32.lt_iff_toInt_lt, Int32.le_iff_toInt_le, Int32.reduceToInt, ← Int32.toInt_inj] at *; omega)))), rfl⟩
              have hf_3960 := (hk_3955 a_0 (ne_kd e_3930 hf_3929 rfl)).trans e_3930
              have fr_3961 := FR.w hk_3955 hf_3929 (k := 2176) rfl
              have lk_3962 := l2_at (g0 := g_f) eg_3959 (by omega) (by omega)
              have ag_3963 := ag_3911.st eg_3959 (by omega) (by omega)
              try simp only [Int32.reduceToInt] at lk_3962
              refine v_goto hC dX12_readLoss_190 (tgt := 258) (by decide) ?_
              refine v_aload_n hC dX12_readLoss_258 rfl ?_
              refine v_vv hC (rest := []) m_1 hf_3960 rfl mi_X12_ends ms_X12_ends (p_X12_ends hW_3957 k_0) mx_X12_ends ml_X12_178 (by decide) rfl (cells1 := 0) (slots1 := 0) (by decide) (by decide) (Nat.le_of_ble_eq_true rfl) (Nat.le_of_ble_eq_true rfl) rfl (Nat.le_of_ble_eq_true rfl) dX12_readLoss_259 (fun L_3965 f_3966 h_3967 => ?_)
              obtain ⟨rfl, hW_3969, hF_3970, -, -, -, -, x_3968⟩ := h_3967
              have fe_3971 : fld (f_3953 a_0) 8 = (v_3936 : Int32).toInt := by rw [hf_3960]; rfl
              have fe_3972 : fld (f_3953 a_0) 10 = (v_3940 : Int32).toInt := by rw [hf_3960]; rfl
              have fe_3973 : fld (f_3953 a_0) 12 = (v_3943 : Int32).toInt := by rw [hf_3960]; rfl
              have hf_3974 := hF_3970.at hf_3954 rfl
              obtain ⟨v_3976, v_3977, v_3979, v_3981, v_3983, v_3985, v_3987, v_3988, v_3989, v_3990, v_3992, e_3975, b_3978, b_3980, b_3982, b_3984, b_3986, b_3991, b_3993⟩ := hW_3969.at m_1 t_2
              have fe_3994 : fld (f_3966 a_0) 8 = (v_3981 : Int32).toInt := by rw [e_3975]; rfl
              have fe_3995 : fld (f_3966 a_0) 9 = (v_3983 : Int32).toInt := by rw [e_3975]; rfl
              have fe_3996 : fld (f_3966 a_0) 10 = (v_3985 : Int32).toInt := by rw [e_3975]; rfl
              have fe_3997 : fld (f_3966 a_0) 12 = (v_3988 : Int32).toInt := by rw [e_3975]; rfl
              rw [fe_3997, fe_3973, fe_3972, fe_3971, fe_3995, fe_3994, fe_3996] at x_3968
              clear fe_3971 fe_3972 fe_3973 fe_3994 fe_3995 fe_3996 fe_3997
              refine v_aload_n hC dX12_readLoss_262 rfl ?_
              refine v_get hC fl_X12_34 m_1 e_3975 rfl dX12_readLoss_263 ?_
              refine v_bipush hC dX12_readLoss_266 (v := 6) (by decide) ?_
              refine v_dup2 hC dX12_readLoss_268 rfl rfl ?_
              have l6_3998 : (g_3956 6).toInt = (g_f 6).toInt := congrArg Int32.toInt ag_3963.2.1
              refine v_iald hC m_22 hf_3974 (vp_in_iff.mpr (by decide)) (v := g_3956 6) rfl dX12_readLoss_269 ?_
              refine v_iconst hC dX12_readLoss_270 (v := 1) (by decide) ?_
              obtain ⟨v_3999, h_4000⟩ : ∃ v9 : Int32, (g_3956 6) + 1 = v9 := ⟨_, rfl⟩
              refine v_iadd hC dX12_readLoss_271 h_4000 ?_
              have h_4001 := add_v h_4000 (by first | omega | (simp only [Int32.lt_iff_toInt_lt, Int32.le_iff_toInt_le, Int32.reduceToInt, ← Int32.toInt_inj, true_and, and_true, or_true, true_or, false_or, or_false, false_and, and_false, not_true_eq_false, not_false_eq_true] <;> omega)) (by first | omega | (simp only [Int32.lt_iff_toInt_lt, Int32.le_iff_toInt_le, Int32.reduceToInt, ← Int32.toInt_inj, true_and, and_true, or_true, true_or, false_or, or_false, false_and, and_false, not_true_eq_false, not_false_eq_true] <;> omega))
              try simp only [Int32.reduceToInt] at h_4001
              refine v_iast hC m_22 hf_3974 (vp_in_iff.mpr (by decide)) dX12_readLoss_272 (fun f_4002 hf_4003 hk_4004 => ?_)
              have hW_4006 := hW_3969.up hf_4003 hk_4004 t_23 ⟨_, rfl, (ok_3958.up (i := 6) (by decide) (fun q1 q2 => absurd (And.intro q1 q2) (by decide)) (fun k9 q1 q2 q3 => by simp only [Int32.reduceToInt] at q3; omega))⟩
              obtain ⟨g_4005, hf_4003, ok_4007, eg_4008⟩ : ∃ g9, f_4002 (q 14) = aI E 2076 g9 ∧ FOK g9 ∧ g9 = upd g_3956 (6 : Int32).toNatClampNeg v_3999 := ⟨_, hf_4003, (ok_3958.up (i := 6) (by decide) (fun q1 q2 => absurd (And.intro q1 q2) (by decide)) (fun k9 q1 q2 q3 => by simp only [Int32.reduceToInt] at q3; omega)), rfl⟩
              have hf_4009 := (hk_4004 a_0 (ne_kd e_3975 hf_3974 rfl)).trans e_3975
              have fr_4010 := FR.w hk_4004 hf_3974 (k := 2176) rfl
              have ln6_4011 := FOK.n6 ag_3963.1 eg_4008
              have ln6_4011_t : (g_4005 6).toInt = v_3999.toInt := congrArg Int32.toInt ln6_4011.2
              have fe_4012 : fld (f_4002 a_0) 12 = (v_3988 : Int32).toInt := by rw [hf_4009]; rfl
              have fe_4017 : fld (f_4002 a_0) 8 = (v_3981 : Int32).toInt := by rw [hf_4009]; rfl
              have fe_4018 : fld (f_4002 a_0) 12 = (v_3988 : Int32).toInt := by rw [hf_4009]; rfl
              have fe_4023 : fld (f_4002 a_0) 20 = (v_3992 : Int32).toInt := by rw [hf_4009]; rfl
              exact hR _ _ _ _ _ _ dX12_readLoss_273 (Nat.le_of_ble_eq_true rfl) (Nat.le_of_ble_eq_true rfl) ⟨rfl, hW_4006, ((((((((((hF_3246.tr hF_3290).tr hF_3826).tr fr_3861).tr hF_3873).tr fr_3909).tr hF_3926).tr fr_3961).tr hF_3970).tr fr_4010).mono rfl), ⟨_, hf_4003, ln6_4011.1, (by omega), (by rw [fe_4012]; by_cases q9 : v_3988.toInt = 0; have gp_4013 := x_3968.resolve_left (fun h9 => h9 q9); clear x_3968; have gp_4014 := x_3924.resolve_left (fun h9 => h9 gp_4013.1); clear x_3924; have gp_4015 := x_3871.resolve_left (fun h9 => h9 gp_4014.1); clear x_3871; have gz_4016 := x_3824.symm.trans gp_4015.1; exact .inr (LO.fin hLO ag_3963 eg_4008 (by omega) (by omega) (fun q8 => by omega)); exact .inl q9)⟩, (by rw [fe_4017, fe_4018, mz_43, mz_44]; by_cases q9 : (v_3988 : Int32).toInt = 0; have gp_4019 := x_3968.resolve_left (fun h9 => h9 q9); clear x_3968; have gp_4020 := x_3924.resolve_left (fun h9 => h9 gp_4019.1); clear x_3924; have gp_4021 := x_3871.resolve_left (fun h9 => h9 gp_4020.1); clear x_3871; have gz_4022 := x_3824.symm.trans gp_4021.1; (right; omega); exact .inl q9), (by simp only [fe_4023, mz_45, true_and, and_true, or_true, true_or, false_or, or_false, false_and, and_false, not_true_eq_false, not_false_eq_true] <;> first | omega | (simp only [Int32.lt_iff_toInt_lt, Int32.le_iff_toInt_le, Int32.reduceToInt, ← Int32.toInt_inj, true_and, and_true, or_true, true_or, false_or, or_false, false_and, and_false, not_true_eq_false, not_false_eq_true] <;> omega))⟩
          · simp only [Int32.lt_iff_toInt_lt, Int32.le_iff_toInt_le, Int32.reduceToInt, ← Int32.toInt_inj] at h_3638
            refine v_aload_n hC dX12_readLoss_110 rfl ?_
            refine v_ldcS hC sr_X12_193 dX12_readLoss_111 ?_
            refine v_vi hC (rest := []) m_1 e_3296 rfl mi_X12_is ms_X12_is (p_X12_is hW_3289 k_0 (by decide)) mx_X12_is ml_X12_152 (by decide) rfl (cells1 := 0) (slots1 := 0) (by decide) (by decide) (Nat.le_of_ble_eq_true rfl) (Nat.le_of_ble_eq_true rfl) rfl (Nat.le_of_ble_eq_true rfl) dX12_readLoss_113 (fun r_4024 L_4025 f_4026 h_4027 => ?_)
            obtain ⟨rfl, rfl, rfl⟩ := h_4027
            refine v_if_ne hC dX12_readLoss_116 (tgt := 124) (by decide) (fun h_4030 => ?_) (fun h_4030 => ?_)
            · simp only [Int32.lt_iff_toInt_lt, Int32.le_iff_toInt_le, Int32.reduceToInt, ← Int32.toInt_inj] at h_4030
              refine v_aload_n hC dX12_readLoss_124 rfl ?_
              refine v_vi hC (rest := []) m_1 e_3296 rfl mi_X12_good ms_X12_good (p_X12_good hW_3289 k_0) mx_X12_good ml_X12_139 (by decide) rfl (cells1 := 0) (slots1 := 0) (by decide) (by decide) (Nat.le_of_ble_eq_true rfl) (Nat.le_of_ble_eq_true rfl) rfl (Nat.le_of_ble_eq_true rfl) dX12_readLoss_125 (fun r_4031 L_4032 f_4033 h_4034 => ?_)
              obtain ⟨rfl, rfl, b_4035, x_4036⟩ := h_4034
              have fe_4039 : fld (f_3284 a_0) 12 = (v_3309 : Int32).toInt := by rw [e_3296]; rfl
              rw [fe_4039] at x_4036
              clear fe_4039
              try simp only [Int32.reduceToInt, Int64.reduceToInt] at x_4036
              refine v_if_eq hC dX12_readLoss_128 (tgt := 135) (by decide) (fun h_4040 => ?_) (fun h_4040 => ?_)
              · simp only [Int32.lt_iff_toInt_lt, Int32.le_iff_toInt_le, Int32.reduceToInt, ← Int32.toInt_inj] at h_4040
                have g0_4041 := gd_f x_4036 h_4040
                clear x_4036
                clear x_3288
                refine v_aload_n hC dX12_readLoss_135 rfl ?_
                refine v_get hC fl_X12_34 m_1 e_3296 rfl dX12_readLoss_136 ?_
                refine v_iload_n hC dX12_readLoss_139 rfl ?_
                refine v_iload_n hC dX12_readLoss_140 rfl ?_
                refine v_if_eq_t hC dX12_readLoss_141 (tgt := 148) (by decide) (by first | omega | (simp only [Int32.lt_iff_toInt_lt, Int32.le_iff_toInt_le, Int32.reduceToInt, ← Int32.toInt_inj, true_and, and_true, or_true, true_or, false_or, or_false, false_and, and_false, not_true_eq_false, not_false_eq_true] <;> omega)) ?_
                refine v_iconst hC dX12_readLoss_148 (v := 0) (by decide) ?_
                refine v_iast hC m_22 hf_3295 (vp_in_iff.mpr (by first | omega | (simp only [Int32.lt_iff_toInt_lt, Int32.le_iff_toInt_le, Int32.reduceToInt, ← Int32.toInt_inj, true_and, and_true, or_true, true_or, false_or, or_false, false_and, and_false, not_true_eq_false, not_false_eq_true] <;> omega))) dX12_readLoss_149 (fun f_4044 hf_4045 hk_4046 => ?_)
                have hW_4048 := hW_3289.up hf_4045 hk_4046 t_23 ⟨_, rfl, (o_f.up (by first | omega | (simp only [Int32.lt_iff_toInt_lt, Int32.le_iff_toInt_le, Int32.reduceToInt, ← Int32.toInt_inj, true_and, and_true, or_true, true_or, false_or, or_false, false_and, and_false, not_true_eq_false, not_false_eq_true] <;> omega)) (fun q1 q2 => (by first | omega | (simp only [Int32.lt_iff_toInt_lt, Int32.le_iff_toInt_le, Int32.reduceToInt, ← Int32.toInt_inj] at *; omega))) (fun k9 q1 q2 q3 => (by first | omega | (simp only [Int32.lt_iff_toInt_lt, Int32.le_iff_toInt_le, Int32.reduceToInt, ← Int32.toInt_inj] at *; omega))))⟩
                obtain ⟨g_4047, hf_4045, ok_4049, eg_4050⟩ : ∃ g9, f_4044 (q 14) = aI E 2076 g9 ∧ FOK g9 ∧ g9 = upd g_f (v_49 : Int32).toNatClampNeg 0 := ⟨_, hf_4045, (o_f.up (by first | omega | (simp only [Int32.lt_iff_toInt_lt, Int32.le_iff_toInt_le, Int32.reduceToInt, ← Int32.toInt_inj, true_and, and_true, or_true, true_or, false_or, or_false, false_and, and_false, not_true_eq_false, not_false_eq_true] <;> omega)) (fun q1 q2 => (by first | omega | (simp only [Int32.lt_iff_toInt_lt, Int32.le_iff_toInt_le, Int32.reduceToInt, ← Int32.toInt_inj] at *; omega))) (fun k9 q1 q2 q3 => (by first | omega | (simp only [Int32.lt_iff_toInt_lt, Int32.le_iff_toInt_le, Int32.reduceToInt, ← Int32.toInt_inj] at *; omega)))), rfl⟩
                have hf_4051 := (hk_4046 a_0 (ne_kd e_3296 hf_3295 rfl)).trans e_3296
                have fr_4052 := FR.w hk_4046 hf_3295 (k := 2176) rfl
                have lk_4053 := lk_at (g0 := g_f) eg_4050 (by omega) (by omega)
                have ag_4054 := (AG.rf o_f).st eg_4050 (by omega) (by omega)
                try simp only [Int32.reduceToInt] at lk_4053
                refine v_aload_n hC dX12_readLoss_150 rfl ?_
                refine v_get hC fl_X12_34 m_1 hf_4051 rfl dX12_readLoss_151 ?_
                refine v_iload_n hC dX12_readLoss_154 rfl ?_
                refine v_iconst hC dX12_readLoss_155 (v := 1) (by decide) ?_
                obtain ⟨v_4055, h_4056⟩ : ∃ v9 : Int32, v_49 + 1 = v9 := ⟨_, rfl⟩
                refine v_iadd hC dX12_readLoss_156 h_4056 ?_
                have h_4057 := add_v h_4056 (by first | omega | (simp only [Int32.lt_iff_toInt_lt, Int32.le_iff_toInt_le, Int32.reduceToInt, ← Int32.toInt_inj, true_and, and_true, or_true, true_or, false_or, or_false, false_and, and_false, not_true_eq_false, not_false_eq_true] <;> omega)) (by first | omega | (simp only [Int32.lt_iff_toInt_lt, Int32.le_iff_toInt_le, Int32.reduceToInt, ← Int32.toInt_inj, true_and, and_true, or_true, true_or, false_or, or_false, false_and, and_false, not_true_eq_false, not_false_eq_true] <;> omega))
                try simp only [Int32.reduceToInt] at h_4057
                refine v_aload_n hC dX12_readLoss_157 rfl ?_
                refine v_iconst hC dX12_readLoss_158 (v := 0) (by decide) ?_
                refine v_bipush hC dX12_readLoss_159 (v := 15) (by decide) ?_
                refine v_vi hC (rest := [.int v_4055, .ref (q 14)]) m_1 hf_4051 rfl mi_X12_number ms_X12_number (p_X12_number hW_4048 k_0) mx_X12_number ml_X12_170 (by decide) rfl (cells1 := 0) (slots1 := 0) (by decide) (by decide) (Nat.le_of_ble_eq_true rfl) (Nat.le_of_ble_eq_true rfl) rfl (Nat.le_of_ble_eq_true rfl) dX12_readLoss_161 (fun r_4058 L_4059 f_4060 h_4061 => ?_)
                obtain ⟨rfl, hW_4063, hF_4064, -, -, -, -, -, x_4062⟩ := h_4061
                have fe_4065 : fld (f_4044 a_0) 8 = (v_3302 : Int32).toInt := by rw [hf_4051]; rfl
                have fe_4066 : fld (f_4044 a_0) 10 = (v_3306 : Int32).toInt := by rw [hf_4051]; rfl
                have fe_4067 : fld (f_4044 a_0) 12 = (v_3309 : Int32).toInt := by rw [hf_4051]; rfl
                have hf_4068 := hF_4064.at hf_4045 rfl
                obtain ⟨v_4070, v_4071, v_4073, v_4075, v_4077, v_4079, v_4081, v_4082, v_4083, v_4084, v_4086, e_4069, b_4072, b_4074, b_4076, b_4078, b_4080, b_4085, b_4087⟩ := hW_4063.at m_1 t_2
                have fe_4088 : fld (f_4060 a_0) 8 = (v_4075 : Int32).toInt := by rw [e_4069]; rfl
                have fe_4089 : fld (f_4060 a_0) 9 = (v_4077 : Int32).toInt := by rw [e_4069]; rfl
                have fe_4090 : fld (f_4060 a_0) 10 = (v_4079 : Int32).toInt := by rw [e_4069]; rfl
                have fe_4091 : fld (f_4060 a_0) 12 = (v_4082 : Int32).toInt := by rw [e_4069]; rfl
                rw [fe_4091, fe_4067, fe_4066, fe_4065, fe_4089, fe_4088, fe_4090] at x_4062
                have nb_4092 : ¬ (v_4082 : Int32).toInt = 0 := x_4062.elim id (fun h9 => absurd h9.1 g0_4041)
                clear x_4062
                clear fe_4065 fe_4066 fe_4067 fe_4088 fe_4089 fe_4090 fe_4091
                try simp only [Int32.reduceToInt, Int64.reduceToInt] at x_4062
                refine v_iast hC m_22 hf_4068 (vp_in_iff.mpr (by first | omega | (simp only [Int32.lt_iff_toInt_lt, Int32.le_iff_toInt_le, Int32.reduceToInt, ← Int32.toInt_inj, true_and, and_true, or_true, true_or, false_or, or_false, false_and, and_false, not_true_eq_false, not_false_eq_true] <;> omega))) dX12_readLoss_164 (fun f_4093 hf_4094 hk_4095 => ?_)
                have hW_4097 := hW_4063.up hf_4094 hk_4095 t_23 ⟨_, rfl, (ok_4049.up (by first | omega | (simp only [Int32.lt_iff_toInt_lt, Int32.le_iff_toInt_le, Int32.reduceToInt, ← Int32.toInt_inj, true_and, and_true, or_true, true_or, false_or, or_false, false_and, and_false, not_true_eq_false, not_false_eq_true] <;> omega)) (fun q1 q2 => (by first | omega | (simp only [Int32.lt_iff_toInt_lt, Int32.le_iff_toInt_le, Int32.reduceToInt, ← Int32.toInt_inj] at *; omega))) (fun k9 q1 q2 q3 => (by first | omega | (simp only [Int32.lt_iff_toInt_lt, Int32.le_iff_toInt_le, Int32.reduceToInt, ← Int32.toInt_inj] at *; omega))))⟩
                obtain ⟨g_4096, hf_4094, ok_4098, eg_4099⟩ : ∃ g9, f_4093 (q 14) = aI E 2076 g9 ∧ FOK g9 ∧ g9 = upd g_4047 (v_4055 : Int32).toNatClampNeg r_4058 := ⟨_, hf_4094, (ok_4049.up (by first | omega | (simp only [Int32.lt_iff_toInt_lt, Int32.le_iff_toInt_le, Int32.reduceToInt, ← Int32.toInt_inj, true_and, and_true, or_true, true_or, false_or, or_false, false_and, and_false, not_true_eq_false, not_false_eq_true] <;> omega)) (fun q1 q2 => (by first | omega | (simp only [Int32.lt_iff_toInt_lt, Int32.le_iff_toInt_le, Int32.reduceToInt, ← Int32.toInt_inj] at *; omega))) (fun k9 q1 q2 q3 => (by first | omega | (simp only [Int32.lt_iff_toInt_lt, Int32.le_iff_toInt_le, Int32.reduceToInt, ← Int32.toInt_inj] at *; omega)))), rfl⟩
                have hf_4100 := (hk_4095 a_0 (ne_kd e_4069 hf_4068 rfl)).trans e_4069
                have fr_4101 := FR.w hk_4095 hf_4068 (k := 2176) rfl
                have lk_4102 := lf_at (g0 := g_f) eg_4099 (by omega) (by omega)
                have ag_4103 := ag_4054.st eg_4099 (by omega) (by omega)
                try simp only [Int32.reduceToInt] at lk_4102
                refine v_aload_n hC dX12_readLoss_165 rfl ?_
                refine v_get hC fl_X12_34 m_1 hf_4100 rfl dX12_readLoss_166 ?_
                refine v_iload_n hC dX12_readLoss_169 rfl ?_
                refine v_iconst hC dX12_readLoss_170 (v := 2) (by decide) ?_
                obtain ⟨v_4104, h_4105⟩ : ∃ v9 : Int32, v_49 + 2 = v9 := ⟨_, rfl⟩
                refine v_iadd hC dX12_readLoss_171 h_4105 ?_
                have h_4106 := add_v h_4105 (by first | omega | (simp only [Int32.lt_iff_toInt_lt, Int32.le_iff_toInt_le, Int32.reduceToInt, ← Int32.toInt_inj, true_and, and_true, or_true, true_or, false_or, or_false, false_and, and_false, not_true_eq_false, not_false_eq_true] <;> omega)) (by first | omega | (simp only [Int32.lt_iff_toInt_lt, Int32.le_iff_toInt_le, Int32.reduceToInt, ← Int32.toInt_inj, true_and, and_true, or_true, true_or, false_or, or_false, false_and, and_false, not_true_eq_false, not_false_eq_true] <;> omega))
                try simp only [Int32.reduceToInt] at h_4106
                refine v_aload_n hC dX12_readLoss_172 rfl ?_
                refine v_ldcwS hC sr_X12_295 dX12_readLoss_173 ?_
                refine v_aload_n hC dX12_readLoss_176 rfl ?_
                refine v_get hC fl_X12_34 m_1 hf_4100 rfl dX12_readLoss_177 ?_
                refine v_iload_n hC dX12_readLoss_180 rfl ?_
                refine v_iconst hC dX12_readLoss_181 (v := 1) (by decide) ?_
                obtain ⟨v_4107, h_4108⟩ : ∃ v9 : Int32, v_49 + 1 = v9 := ⟨_, rfl⟩
                refine v_iadd hC dX12_readLoss_182 h_4108 ?_
                have h_4109 := add_v h_4108 (by first | omega | (simp only [Int32.lt_iff_toInt_lt, Int32.le_iff_toInt_le, Int32.reduceToInt, ← Int32.toInt_inj, true_and, and_true, or_true, true_or, false_or, or_false, false_and, and_false, not_true_eq_false, not_false_eq_true] <;> omega)) (by first | omega | (simp only [Int32.lt_iff_toInt_lt, Int32.le_iff_toInt_le, Int32.reduceToInt, ← Int32.toInt_inj, true_and, and_true, or_true, true_or, false_or, or_false, false_and, and_false, not_true_eq_false, not_false_eq_true] <;> omega))
                try simp only [Int32.reduceToInt] at h_4109
                obtain ⟨v_4110, h_4111⟩ : ∃ v9 : Int32, g_4096 (v_4107 : Int32).toNatClampNeg = v9 := ⟨_, rfl⟩
                refine v_iald hC m_22 hf_4094 (vp_in_iff.mpr (by first | omega | (simp only [Int32.lt_iff_toInt_lt, Int32.le_iff_toInt_le, Int32.reduceToInt, ← Int32.toInt_inj, true_and, and_true, or_true, true_or, false_or, or_false, false_and, and_false, not_true_eq_false, not_false_eq_true] <;> omega))) h_4111 dX12_readLoss_183 ?_
                refine v_bipush hC dX12_readLoss_184 (v := 15) (by decide) ?_
                refine v_vi hC (rest := [.int v_4104, .ref (q 14)]) m_1 hf_4100 rfl mi_X12_told ms_X12_told (p_X12_told hW_4097 k_0 (by decide)) mx_X12_told ml_X12_189 (by decide) rfl (cells1 := 0) (slots1 := 0) (by decide) (by decide) (Nat.le_of_ble_eq_true rfl) (Nat.le_of_ble_eq_true rfl) rfl (Nat.le_of_ble_eq_true rfl) dX12_readLoss_186 (fun r_4112 L_4113 f_4114 h_4115 => ?_)
                obtain ⟨rfl, hW_4117, hF_4118, -, -, -, -, -, x_4116⟩ := h_4115
                have fe_4119 : fld (f_4093 a_0) 8 = (v_4075 : Int32).toInt := by rw [hf_4100]; rfl
                have fe_4120 : fld (f_4093 a_0) 12 = (v_4082 : Int32).toInt := by rw [hf_4100]; rfl
                have hf_4121 := hF_4118.at hf_4094 rfl
                obtain ⟨v_4123, v_4124, v_4126, v_4128, v_4130, v_4132, v_4134, v_4135, v_4136, v_4137, v_4139, e_4122, b_4125, b_4127, b_4129, b_4131, b_4133, b_4138, b_4140⟩ := hW_4117.at m_1 t_2
                have fe_4141 : fld (f_4114 a_0) 8 = (v_4128 : Int32).toInt := by rw [e_4122]; rfl
                have fe_4142 : fld (f_4114 a_0) 9 = (v_4130 : Int32).toInt := by rw [e_4122]; rfl
                have fe_4143 : fld (f_4114 a_0) 10 = (v_4132 : Int32).toInt := by rw [e_4122]; rfl
                have fe_4144 : fld (f_4114 a_0) 12 = (v_4135 : Int32).toInt := by rw [e_4122]; rfl
                rw [fe_4144, fe_4120, fe_4119, fe_4142, fe_4141, fe_4143] at x_4116
                have nb_4145 : ¬ (v_4135 : Int32).toInt = 0 := x_4116.elim id (fun h9 => absurd h9.1 nb_4092)
                clear x_4116
                clear fe_4119 fe_4120 fe_4141 fe_4142 fe_4143 fe_4144
                try simp only [Int32.reduceToInt, Int64.reduceToInt] at x_4116
                refine v_iast hC m_22 hf_4121 (vp_in_iff.mpr (by first | omega | (simp only [Int32.lt_iff_toInt_lt, Int32.le_iff_toInt_le, Int32.reduceToInt, ← Int32.toInt_inj, true_and, and_true, or_true, true_or, false_or, or_false, false_and, and_false, not_true_eq_false, not_false_eq_true] <;> omega))) dX12_readLoss_189 (fun f_4146 hf_4147 hk_4148 => ?_)
                have hW_4150 := hW_4117.up hf_4147 hk_4148 t_23 ⟨_, rfl, (ok_4098.up (by first | omega | (simp only [Int32.lt_iff_toInt_lt, Int32.le_iff_toInt_le, Int32.reduceToInt, ← Int32.toInt_inj, true_and, and_true, or_true, true_or, false_or, or_false, false_and, and_false, not_true_eq_false, not_false_eq_true] <;> omega)) (fun q1 q2 => (by first | omega | (simp only [Int32.lt_iff_toInt_lt, Int32.le_iff_toInt_le, Int32.reduceToInt, ← Int32.toInt_inj] at *; omega))) (fun k9 q1 q2 q3 => (by first | omega | (simp only [Int32.lt_iff_toInt_lt, Int32.le_iff_toInt_le, Int32.reduceToInt, ← Int32.toInt_inj] at *; omega))))⟩
                obtain ⟨g_4149, hf_4147, ok_4151, eg_4152⟩ : ∃ g9, f_4146 (q 14) = aI E 2076 g9 ∧ FOK g9 ∧ g9 = upd g_4096 (v_4104 : Int32).toNatClampNeg r_4112 := ⟨_, hf_4147, (ok_4098.up (by first | omega | (simp only [Int32.lt_iff_toInt_lt, Int32.le_iff_toInt_le, Int32.reduceToInt, ← Int32.toInt_inj, true_and, and_true, or_true, true_or, false_or, or_false, false_and, and_false, not_true_eq_false, not_false_eq_true] <;> omega)) (fun q1 q2 => (by first | omega | (simp only [Int32.lt_iff_toInt_lt, Int32.le_iff_toInt_le, Int32.reduceToInt, ← Int32.toInt_inj] at *; omega))) (fun k9 q1 q2 q3 => (by first | omega | (simp only [Int32.lt_iff_toInt_lt, Int32.le_iff_toInt_le, Int32.reduceToInt, ← Int32.toInt_inj] at *; omega)))), rfl⟩
                have hf_4153 := (hk_4148 a_0 (ne_kd e_4122 hf_4121 rfl)).trans e_4122
                have fr_4154 := FR.w hk_4148 hf_4121 (k := 2176) rfl
                have lk_4155 := l2_at (g0 := g_f) eg_4152 (by omega) (by omega)
                have ag_4156 := ag_4103.st eg_4152 (by omega) (by omega)
                try simp only [Int32.reduceToInt] at lk_4155
                refine v_goto hC dX12_readLoss_190 (tgt := 258) (by decide) ?_
                refine v_aload_n hC dX12_readLoss_258 rfl ?_
                refine v_vv hC (rest := []) m_1 hf_4153 rfl mi_X12_ends ms_X12_ends (p_X12_ends hW_4150 k_0) mx_X12_ends ml_X12_178 (by decide) rfl (cells1 := 0) (slots1 := 0) (by decide) (by decide) (Nat.le_of_ble_eq_true rfl) (Nat.le_of_ble_eq_true rfl) rfl (Nat.le_of_ble_eq_true rfl) dX12_readLoss_259 (fun L_4158 f_4159 h_4160 => ?_)
                obtain ⟨rfl, hW_4162, hF_4163, -, -, -, -, x_4161⟩ := h_4160
                have fe_4164 : fld (f_4146 a_0) 8 = (v_4128 : Int32).toInt := by rw [hf_4153]; rfl
                have fe_4165 : fld (f_4146 a_0) 10 = (v_4132 : Int32).toInt := by rw [hf_4153]; rfl
                have fe_4166 : fld (f_4146 a_0) 12 = (v_4135 : Int32).toInt := by rw [hf_4153]; rfl
                have hf_4167 := hF_4163.at hf_4147 rfl
                obtain ⟨v_4169, v_4170, v_4172, v_4174, v_4176, v_4178, v_4180, v_4181, v_4182, v_4183, v_4185, e_4168, b_4171, b_4173, b_4175, b_4177, b_4179, b_4184, b_4186⟩ := hW_4162.at m_1 t_2
                have fe_4187 : fld (f_4159 a_0) 8 = (v_4174 : Int32).toInt := by rw [e_4168]; rfl
                have fe_4188 : fld (f_4159 a_0) 9 = (v_4176 : Int32).toInt := by rw [e_4168]; rfl
                have fe_4189 : fld (f_4159 a_0) 10 = (v_4178 : Int32).toInt := by rw [e_4168]; rfl
                have fe_4190 : fld (f_4159 a_0) 12 = (v_4181 : Int32).toInt := by rw [e_4168]; rfl
                rw [fe_4190, fe_4166, fe_4165, fe_4164, fe_4188, fe_4187, fe_4189] at x_4161
                have nb_4191 : ¬ (v_4181 : Int32).toInt = 0 := x_4161.elim id (fun h9 => absurd h9.1 nb_4145)
                clear x_4161
                clear fe_4164 fe_4165 fe_4166 fe_4187 fe_4188 fe_4189 fe_4190
                refine v_aload_n hC dX12_readLoss_262 rfl ?_
                refine v_get hC fl_X12_34 m_1 e_4168 rfl dX12_readLoss_263 ?_
                refine v_bipush hC dX12_readLoss_266 (v := 6) (by decide) ?_
                refine v_dup2 hC dX12_readLoss_268 rfl rfl ?_
                have l6_4192 : (g_4149 6).toInt = (g_f 6).toInt := congrArg Int32.toInt ag_4156.2.1
                refine v_iald hC m_22 hf_4167 (vp_in_iff.mpr (by decide)) (v := g_4149 6) rfl dX12_readLoss_269 ?_
                refine v_iconst hC dX12_readLoss_270 (v := 1) (by decide) ?_
                obtain ⟨v_4193, h_4194⟩ : ∃ v9 : Int32, (g_4149 6) + 1 = v9 := ⟨_, rfl⟩
                refine v_iadd hC dX12_readLoss_271 h_4194 ?_
                have h_4195 := add_v h_4194 (by first | omega | (simp only [Int32.lt_iff_toInt_lt, Int32.le_iff_toInt_le, Int32.reduceToInt, ← Int32.toInt_inj, true_and, and_true, or_true, true_or, false_or, or_false, false_and, and_false, not_true_eq_false, not_false_eq_true] <;> omega)) (by first | omega | (simp only [Int32.lt_iff_toInt_lt, Int32.le_iff_toInt_le, Int32.reduceToInt, ← Int32.toInt_inj, true_and, and_true, or_true, true_or, false_or, or_false, false_and, and_false, not_true_eq_false, not_false_eq_true] <;> omega))
                try simp only [Int32.reduceToInt] at h_4195
                refine v_iast hC m_22 hf_4167 (vp_in_iff.mpr (by decide)) dX12_readLoss_272 (fun f_4196 hf_4197 hk_4198 => ?_)
                have hW_4200 := hW_4162.up hf_4197 hk_4198 t_23 ⟨_, rfl, (ok_4151.up (i := 6) (by decide) (fun q1 q2 => absurd (And.intro q1 q2) (by decide)) (fun k9 q1 q2 q3 => by simp only [Int32.reduceToInt] at q3; omega))⟩
                obtain ⟨g_4199, hf_4197, ok_4201, eg_4202⟩ : ∃ g9, f_4196 (q 14) = aI E 2076 g9 ∧ FOK g9 ∧ g9 = upd g_4149 (6 : Int32).toNatClampNeg v_4193 := ⟨_, hf_4197, (ok_4151.up (i := 6) (by decide) (fun q1 q2 => absurd (And.intro q1 q2) (by decide)) (fun k9 q1 q2 q3 => by simp only [Int32.reduceToInt] at q3; omega)), rfl⟩
                have hf_4203 := (hk_4198 a_0 (ne_kd e_4168 hf_4167 rfl)).trans e_4168
                have fr_4204 := FR.w hk_4198 hf_4167 (k := 2176) rfl
                have ln6_4205 := FOK.n6 ag_4156.1 eg_4202
                have ln6_4205_t : (g_4199 6).toInt = v_4193.toInt := congrArg Int32.toInt ln6_4205.2
                have fe_4206 : fld (f_4196 a_0) 12 = (v_4181 : Int32).toInt := by rw [hf_4203]; rfl
                have fe_4207 : fld (f_4196 a_0) 8 = (v_4174 : Int32).toInt := by rw [hf_4203]; rfl
                have fe_4208 : fld (f_4196 a_0) 12 = (v_4181 : Int32).toInt := by rw [hf_4203]; rfl
                have fe_4209 : fld (f_4196 a_0) 20 = (v_4185 : Int32).toInt := by rw [hf_4203]; rfl
                exact hR _ _ _ _ _ _ dX12_readLoss_273 (Nat.le_of_ble_eq_true rfl) (Nat.le_of_ble_eq_true rfl) ⟨rfl, hW_4200, (((((((((hF_3246.tr hF_3290).tr fr_4052).tr hF_4064).tr fr_4101).tr hF_4118).tr fr_4154).tr hF_4163).tr fr_4204).mono rfl), ⟨_, hf_4197, ln6_4205.1, (by omega), (by rw [fe_4206]; exact .inl nb_4191)⟩, (by rw [fe_4207, fe_4208, mz_43, mz_44]; exact .inl nb_4191), (by simp only [fe_4209, mz_45, true_and, and_true, or_true, true_or, false_or, or_false, false_and, and_false, not_true_eq_false, not_false_eq_true] <;> first | omega | (simp only [Int32.lt_iff_toInt_lt, Int32.le_iff_toInt_le, Int32.reduceToInt, ← Int32.toInt_inj, true_and, and_true, or_true, true_or, false_or, or_false, false_and, and_false, not_true_eq_false, not_false_eq_true] <;> omega))⟩
              · simp only [Int32.lt_iff_toInt_lt, Int32.le_iff_toInt_le, Int32.reduceToInt, ← Int32.toInt_inj] at h_4040
                have g0_4042 := gd_t x_4036 h_4040
                clear x_4036
                have gz_4043 := x_3288.symm.trans g0_4042
                refine v_aload_n hC dX12_readLoss_131 rfl ?_
                refine v_vv hC (rest := []) m_1 e_3296 rfl mi_X12_advance ms_X12_advance (p_X12_advance hW_3289 k_0) mx_X12_advance ml_X12_156 (by decide) rfl (cells1 := 0) (slots1 := 0) (by decide) (by decide) (Nat.le_of_ble_eq_true rfl) (Nat.le_of_ble_eq_true rfl) rfl (Nat.le_of_ble_eq_true rfl) dX12_readLoss_132 (fun L_4211 f_4212 h_4213 => ?_)
                obtain ⟨rfl, hW_4217, hF_4218, x_4214, x_4215, x_4216, -⟩ := h_4213
                have fe_4219 : fld (f_3284 a_0) 8 = (v_3302 : Int32).toInt := by rw [e_3296]; rfl
                have fe_4220 : fld (f_3284 a_0) 12 = (v_3309 : Int32).toInt := by rw [e_3296]; rfl
                have hf_4221 := hF_4218.at hf_3295 rfl
                obtain ⟨v_4223, v_4224, v_4226, v_4228, v_4230, v_4232, v_4234, v_4235, v_4236, v_4237, v_4239, e_4222, b_4225, b_4227, b_4229, b_4231, b_4233, b_4238, b_4240⟩ := hW_4217.at m_1 t_2
                have fe_4241 : fld (f_4212 a_0) 8 = (v_4228 : Int32).toInt := by rw [e_4222]; rfl
                have fe_4242 : fld (f_4212 a_0) 9 = (v_4230 : Int32).toInt := by rw [e_4222]; rfl
                have fe_4243 : fld (f_4212 a_0) 10 = (v_4232 : Int32).toInt := by rw [e_4222]; rfl
                have fe_4244 : fld (f_4212 a_0) 12 = (v_4235 : Int32).toInt := by rw [e_4222]; rfl
                rw [fe_4219, fe_4242, fe_4241] at x_4214
                rw [fe_4243, fe_4242, fe_4241] at x_4215
                rw [fe_4244, fe_4220] at x_4216
                clear fe_4219 fe_4220 fe_4241 fe_4242 fe_4243 fe_4244
                refine v_aload_n hC dX12_readLoss_135 rfl ?_
                refine v_get hC fl_X12_34 m_1 e_4222 rfl dX12_readLoss_136 ?_
                refine v_iload_n hC dX12_readLoss_139 rfl ?_
                refine v_iload_n hC dX12_readLoss_140 rfl ?_
                refine v_if_eq_t hC dX12_readLoss_141 (tgt := 148) (by decide) (by first | omega | (simp only [Int32.lt_iff_toInt_lt, Int32.le_iff_toInt_le, Int32.reduceToInt, ← Int32.toInt_inj, true_and, and_true, or_true, true_or, false_or, or_false, false_and, and_false, not_true_eq_false, not_false_eq_true] <;> omega)) ?_
                refine v_iconst hC dX12_readLoss_148 (v := 0) (by decide) ?_
                refine v_iast hC m_22 hf_4221 (vp_in_iff.mpr (by first | omega | (simp only [Int32.lt_iff_toInt_lt, Int32.le_iff_toInt_le, Int32.reduceToInt, ← Int32.toInt_inj, true_and, and_true, or_true, true_or, false_or, or_false, false_and, and_false, not_true_eq_false, not_false_eq_true] <;> omega))) dX12_readLoss_149 (fun f_4245 hf_4246 hk_4247 => ?_)
                have hW_4249 := hW_4217.up hf_4246 hk_4247 t_23 ⟨_, rfl, (o_f.up (by first | omega | (simp only [Int32.lt_iff_toInt_lt, Int32.le_iff_toInt_le, Int32.reduceToInt, ← Int32.toInt_inj, true_and, and_true, or_true, true_or, false_or, or_false, false_and, and_false, not_true_eq_false, not_false_eq_true] <;> omega)) (fun q1 q2 => (by first | omega | (simp only [Int32.lt_iff_toInt_lt, Int32.le_iff_toInt_le, Int32.reduceToInt, ← Int32.toInt_inj] at *; omega))) (fun k9 q1 q2 q3 => (by first | omega | (simp only [Int32.lt_iff_toInt_lt, Int32.le_iff_toInt_le, Int32.reduceToInt, ← Int32.toInt_inj] at *; omega))))⟩
                obtain ⟨g_4248, hf_4246, ok_4250, eg_4251⟩ : ∃ g9, f_4245 (q 14) = aI E 2076 g9 ∧ FOK g9 ∧ g9 = upd g_f (v_49 : Int32).toNatClampNeg 0 := ⟨_, hf_4246, (o_f.up (by first | omega | (simp only [Int32.lt_iff_toInt_lt, Int32.le_iff_toInt_le, Int32.reduceToInt, ← Int32.toInt_inj, true_and, and_true, or_true, true_or, false_or, or_false, false_and, and_false, not_true_eq_false, not_false_eq_true] <;> omega)) (fun q1 q2 => (by first | omega | (simp only [Int32.lt_iff_toInt_lt, Int32.le_iff_toInt_le, Int32.reduceToInt, ← Int32.toInt_inj] at *; omega))) (fun k9 q1 q2 q3 => (by first | omega | (simp only [Int32.lt_iff_toInt_lt, Int32.le_iff_toInt_le, Int32.reduceToInt, ← Int32.toInt_inj] at *; omega)))), rfl⟩
                have hf_4252 := (hk_4247 a_0 (ne_kd e_4222 hf_4221 rfl)).trans e_4222
                have fr_4253 := FR.w hk_4247 hf_4221 (k := 2176) rfl
                have lk_4254 := lk_at (g0 := g_f) eg_4251 (by omega) (by omega)
                have ag_4255 := (AG.rf o_f).st eg_4251 (by omega) (by omega)
                try simp only [Int32.reduceToInt] at lk_4254
                refine v_aload_n hC dX12_readLoss_150 rfl ?_
                refine v_get hC fl_X12_34 m_1 hf_4252 rfl dX12_readLoss_151 ?_
                refine v_iload_n hC dX12_readLoss_154 rfl ?_
                refine v_iconst hC dX12_readLoss_155 (v := 1) (by decide) ?_
                obtain ⟨v_4256, h_4257⟩ : ∃ v9 : Int32, v_49 + 1 = v9 := ⟨_, rfl⟩
                refine v_iadd hC dX12_readLoss_156 h_4257 ?_
                have h_4258 := add_v h_4257 (by first | omega | (simp only [Int32.lt_iff_toInt_lt, Int32.le_iff_toInt_le, Int32.reduceToInt, ← Int32.toInt_inj, true_and, and_true, or_true, true_or, false_or, or_false, false_and, and_false, not_true_eq_false, not_false_eq_true] <;> omega)) (by first | omega | (simp only [Int32.lt_iff_toInt_lt, Int32.le_iff_toInt_le, Int32.reduceToInt, ← Int32.toInt_inj, true_and, and_true, or_true, true_or, false_or, or_false, false_and, and_false, not_true_eq_false, not_false_eq_true] <;> omega))
                try simp only [Int32.reduceToInt] at h_4258
                refine v_aload_n hC dX12_readLoss_157 rfl ?_
                refine v_iconst hC dX12_readLoss_158 (v := 0) (by decide) ?_
                refine v_bipush hC dX12_readLoss_159 (v := 15) (by decide) ?_
                refine v_vi hC (rest := [.int v_4256, .ref (q 14)]) m_1 hf_4252 rfl mi_X12_number ms_X12_number (p_X12_number hW_4249 k_0) mx_X12_number ml_X12_170 (by decide) rfl (cells1 := 0) (slots1 := 0) (by decide) (by decide) (Nat.le_of_ble_eq_true rfl) (Nat.le_of_ble_eq_true rfl) rfl (Nat.le_of_ble_eq_true rfl) dX12_readLoss_161 (fun r_4259 L_4260 f_4261 h_4262 => ?_)
                obtain ⟨rfl, hW_4264, hF_4265, -, -, -, -, -, x_4263⟩ := h_4262
                have fe_4266 : fld (f_4245 a_0) 8 = (v_4228 : Int32).toInt := by rw [hf_4252]; rfl
                have fe_4267 : fld (f_4245 a_0) 10 = (v_4232 : Int32).toInt := by rw [hf_4252]; rfl
                have fe_4268 : fld (f_4245 a_0) 12 = (v_4235 : Int32).toInt := by rw [hf_4252]; rfl
                have hf_4269 := hF_4265.at hf_4246 rfl
                obtain ⟨v_4271, v_4272, v_4274, v_4276, v_4278, v_4280, v_4282, v_4283, v_4284, v_4285, v_4287, e_4270, b_4273, b_4275, b_4277, b_4279, b_4281, b_4286, b_4288⟩ := hW_4264.at m_1 t_2
                have fe_4289 : fld (f_4261 a_0) 8 = (v_4276 : Int32).toInt := by rw [e_4270]; rfl
                have fe_4290 : fld (f_4261 a_0) 9 = (v_4278 : Int32).toInt := by rw [e_4270]; rfl
                have fe_4291 : fld (f_4261 a_0) 10 = (v_4280 : Int32).toInt := by rw [e_4270]; rfl
                have fe_4292 : fld (f_4261 a_0) 12 = (v_4283 : Int32).toInt := by rw [e_4270]; rfl
                rw [fe_4292, fe_4268, fe_4267, fe_4266, fe_4290, fe_4289, fe_4291] at x_4263
                clear fe_4266 fe_4267 fe_4268 fe_4289 fe_4290 fe_4291 fe_4292
                try simp only [Int32.reduceToInt, Int64.reduceToInt] at x_4263
                refine v_iast hC m_22 hf_4269 (vp_in_iff.mpr (by first | omega | (simp only [Int32.lt_iff_toInt_lt, Int32.le_iff_toInt_le, Int32.reduceToInt, ← Int32.toInt_inj, true_and, and_true, or_true, true_or, false_or, or_false, false_and, and_false, not_true_eq_false, not_false_eq_true] <;> omega))) dX12_readLoss_164 (fun f_4293 hf_4294 hk_4295 => ?_)
                have hW_4297 := hW_4264.up hf_4294 hk_4295 t_23 ⟨_, rfl, (ok_4250.up (by first | omega | (simp only [Int32.lt_iff_toInt_lt, Int32.le_iff_toInt_le, Int32.reduceToInt, ← Int32.toInt_inj, true_and, and_true, or_true, true_or, false_or, or_false, false_and, and_false, not_true_eq_false, not_false_eq_true] <;> omega)) (fun q1 q2 => (by first | omega | (simp only [Int32.lt_iff_toInt_lt, Int32.le_iff_toInt_le, Int32.reduceToInt, ← Int32.toInt_inj] at *; omega))) (fun k9 q1 q2 q3 => (by first | omega | (simp only [Int32.lt_iff_toInt_lt, Int32.le_iff_toInt_le, Int32.reduceToInt, ← Int32.toInt_inj] at *; omega))))⟩
                obtain ⟨g_4296, hf_4294, ok_4298, eg_4299⟩ : ∃ g9, f_4293 (q 14) = aI E 2076 g9 ∧ FOK g9 ∧ g9 = upd g_4248 (v_4256 : Int32).toNatClampNeg r_4259 := ⟨_, hf_4294, (ok_4250.up (by first | omega | (simp only [Int32.lt_iff_toInt_lt, Int32.le_iff_toInt_le, Int32.reduceToInt, ← Int32.toInt_inj, true_and, and_true, or_true, true_or, false_or, or_false, false_and, and_false, not_true_eq_false, not_false_eq_true] <;> omega)) (fun q1 q2 => (by first | omega | (simp only [Int32.lt_iff_toInt_lt, Int32.le_iff_toInt_le, Int32.reduceToInt, ← Int32.toInt_inj] at *; omega))) (fun k9 q1 q2 q3 => (by first | omega | (simp only [Int32.lt_iff_toInt_lt, Int32.le_iff_toInt_le, Int32.reduceToInt, ← Int32.toInt_inj] at *; omega)))), rfl⟩
                have hf_4300 := (hk_4295 a_0 (ne_kd e_4270 hf_4269 rfl)).trans e_4270
                have fr_4301 := FR.w hk_4295 hf_4269 (k := 2176) rfl
                have lk_4302 := lf_at (g0 := g_f) eg_4299 (by omega) (by omega)
                have ag_4303 := ag_4255.st eg_4299 (by omega) (by omega)
                try simp only [Int32.reduceToInt] at lk_4302
                refine v_aload_n hC dX12_readLoss_165 rfl ?_
                refine v_get hC fl_X12_34 m_1 hf_4300 rfl dX12_readLoss_166 ?_
                refine v_iload_n hC dX12_readLoss_169 rfl ?_
                refine v_iconst hC dX12_readLoss_170 (v := 2) (by decide) ?_
                obtain ⟨v_4304, h_4305⟩ : ∃ v9 : Int32, v_49 + 2 = v9 := ⟨_, rfl⟩
                refine v_iadd hC dX12_readLoss_171 h_4305 ?_
                have h_4306 := add_v h_4305 (by first | omega | (simp only [Int32.lt_iff_toInt_lt, Int32.le_iff_toInt_le, Int32.reduceToInt, ← Int32.toInt_inj, true_and, and_true, or_true, true_or, false_or, or_false, false_and, and_false, not_true_eq_false, not_false_eq_true] <;> omega)) (by first | omega | (simp only [Int32.lt_iff_toInt_lt, Int32.le_iff_toInt_le, Int32.reduceToInt, ← Int32.toInt_inj, true_and, and_true, or_true, true_or, false_or, or_false, false_and, and_false, not_true_eq_false, not_false_eq_true] <;> omega))
                try simp only [Int32.reduceToInt] at h_4306
                refine v_aload_n hC dX12_readLoss_172 rfl ?_
                refine v_ldcwS hC sr_X12_295 dX12_readLoss_173 ?_
                refine v_aload_n hC dX12_readLoss_176 rfl ?_
                refine v_get hC fl_X12_34 m_1 hf_4300 rfl dX12_readLoss_177 ?_
                refine v_iload_n hC dX12_readLoss_180 rfl ?_
                refine v_iconst hC dX12_readLoss_181 (v := 1) (by decide) ?_
                obtain ⟨v_4307, h_4308⟩ : ∃ v9 : Int32, v_49 + 1 = v9 := ⟨_, rfl⟩
                refine v_iadd hC dX12_readLoss_182 h_4308 ?_
                have h_4309 := add_v h_4308 (by first | omega | (simp only [Int32.lt_iff_toInt_lt, Int32.le_iff_toInt_le, Int32.reduceToInt, ← Int32.toInt_inj, true_and, and_true, or_true, true_or, false_or, or_false, false_and, and_false, not_true_eq_false, not_false_eq_true] <;> omega)) (by first | omega | (simp only [Int32.lt_iff_toInt_lt, Int32.le_iff_toInt_le, Int32.reduceToInt, ← Int32.toInt_inj, true_and, and_true, or_true, true_or, false_or, or_false, false_and, and_false, not_true_eq_false, not_false_eq_true] <;> omega))
                try simp only [Int32.reduceToInt] at h_4309
                obtain ⟨v_4310, h_4311⟩ : ∃ v9 : Int32, g_4296 (v_4307 : Int32).toNatClampNeg = v9 := ⟨_, rfl⟩
                refine v_iald hC m_22 hf_4294 (vp_in_iff.mpr (by first | omega | (simp only [Int32.lt_iff_toInt_lt, Int32.le_iff_toInt_le, Int32.reduceToInt, ← Int32.toInt_inj, true_and, and_true, or_true, true_or, false_or, or_false, false_and, and_false, not_true_eq_false, not_false_eq_true] <;> omega))) h_4311 dX12_readLoss_183 ?_
                refine v_bipush hC dX12_readLoss_184 (v := 15) (by decide) ?_
                refine v_vi hC (rest := [.int v_4304, .ref (q 14)]) m_1 hf_4300 rfl mi_X12_told ms_X12_told (p_X12_told hW_4297 k_0 (by decide)) mx_X12_told ml_X12_189 (by decide) rfl (cells1 := 0) (slots1 := 0) (by decide) (by decide) (Nat.le_of_ble_eq_true rfl) (Nat.le_of_ble_eq_true rfl) rfl (Nat.le_of_ble_eq_true rfl) dX12_readLoss_186 (fun r_4312 L_4313 f_4314 h_4315 => ?_)
                obtain ⟨rfl, hW_4317, hF_4318, -, -, -, -, -, x_4316⟩ := h_4315
                have fe_4319 : fld (f_4293 a_0) 8 = (v_4276 : Int32).toInt := by rw [hf_4300]; rfl
                have fe_4320 : fld (f_4293 a_0) 12 = (v_4283 : Int32).toInt := by rw [hf_4300]; rfl
                have hf_4321 := hF_4318.at hf_4294 rfl
                obtain ⟨v_4323, v_4324, v_4326, v_4328, v_4330, v_4332, v_4334, v_4335, v_4336, v_4337, v_4339, e_4322, b_4325, b_4327, b_4329, b_4331, b_4333, b_4338, b_4340⟩ := hW_4317.at m_1 t_2
                have fe_4341 : fld (f_4314 a_0) 8 = (v_4328 : Int32).toInt := by rw [e_4322]; rfl
                have fe_4342 : fld (f_4314 a_0) 9 = (v_4330 : Int32).toInt := by rw [e_4322]; rfl
                have fe_4343 : fld (f_4314 a_0) 10 = (v_4332 : Int32).toInt := by rw [e_4322]; rfl
                have fe_4344 : fld (f_4314 a_0) 12 = (v_4335 : Int32).toInt := by rw [e_4322]; rfl
                rw [fe_4344, fe_4320, fe_4319, fe_4342, fe_4341, fe_4343] at x_4316
                clear fe_4319 fe_4320 fe_4341 fe_4342 fe_4343 fe_4344
                try simp only [Int32.reduceToInt, Int64.reduceToInt] at x_4316
                refine v_iast hC m_22 hf_4321 (vp_in_iff.mpr (by first | omega | (simp only [Int32.lt_iff_toInt_lt, Int32.le_iff_toInt_le, Int32.reduceToInt, ← Int32.toInt_inj, true_and, and_true, or_true, true_or, false_or, or_false, false_and, and_false, not_true_eq_false, not_false_eq_true] <;> omega))) dX12_readLoss_189 (fun f_4345 hf_4346 hk_4347 => ?_)
                have hW_4349 := hW_4317.up hf_4346 hk_4347 t_23 ⟨_, rfl, (ok_4298.up (by first | omega | (simp only [Int32.lt_iff_toInt_lt, Int32.le_iff_toInt_le, Int32.reduceToInt, ← Int32.toInt_inj, true_and, and_true, or_true, true_or, false_or, or_false, false_and, and_false, not_true_eq_false, not_false_eq_true] <;> omega)) (fun q1 q2 => (by first | omega | (simp only [Int32.lt_iff_toInt_lt, Int32.le_iff_toInt_le, Int32.reduceToInt, ← Int32.toInt_inj] at *; omega))) (fun k9 q1 q2 q3 => (by first | omega | (simp only [Int32.lt_iff_toInt_lt, Int32.le_iff_toInt_le, Int32.reduceToInt, ← Int32.toInt_inj] at *; omega))))⟩
                obtain ⟨g_4348, hf_4346, ok_4350, eg_4351⟩ : ∃ g9, f_4345 (q 14) = aI E 2076 g9 ∧ FOK g9 ∧ g9 = upd g_4296 (v_4304 : Int32).toNatClampNeg r_4312 := ⟨_, hf_4346, (ok_4298.up (by first | omega | (simp only [Int32.lt_iff_toInt_lt, Int32.le_iff_toInt_le, Int32.reduceToInt, ← Int32.toInt_inj, true_and, and_true, or_true, true_or, false_or, or_false, false_and, and_false, not_true_eq_false, not_false_eq_true] <;> omega)) (fun q1 q2 => (by first | omega | (simp only [Int32.lt_iff_toInt_lt, Int32.le_iff_toInt_le, Int32.reduceToInt, ← Int32.toInt_inj] at *; omega))) (fun k9 q1 q2 q3 => (by first | omega | (simp only [Int32.lt_iff_toInt_lt, Int32.le_iff_toInt_le, Int32.reduceToInt, ← Int32.toInt_inj] at *; omega)))), rfl⟩
                have hf_4352 := (hk_4347 a_0 (ne_kd e_4322 hf_4321 rfl)).trans e_4322
                have fr_4353 := FR.w hk_4347 hf_4321 (k := 2176) rfl
                have lk_4354 := l2_at (g0 := g_f) eg_4351 (by omega) (by omega)
                have ag_4355 := ag_4303.st eg_4351 (by omega) (by omega)
                try simp only [Int32.reduceToInt] at lk_4354
                refine v_goto hC dX12_readLoss_190 (tgt := 258) (by decide) ?_
                refine v_aload_n hC dX12_readLoss_258 rfl ?_
                refine v_vv hC (rest := []) m_1 hf_4352 rfl mi_X12_ends ms_X12_ends (p_X12_ends hW_4349 k_0) mx_X12_ends ml_X12_178 (by decide) rfl (cells1 := 0) (slots1 := 0) (by decide) (by decide) (Nat.le_of_ble_eq_true rfl) (Nat.le_of_ble_eq_true rfl) rfl (Nat.le_of_ble_eq_true rfl) dX12_readLoss_259 (fun L_4357 f_4358 h_4359 => ?_)
                obtain ⟨rfl, hW_4361, hF_4362, -, -, -, -, x_4360⟩ := h_4359
                have fe_4363 : fld (f_4345 a_0) 8 = (v_4328 : Int32).toInt := by rw [hf_4352]; rfl
                have fe_4364 : fld (f_4345 a_0) 10 = (v_4332 : Int32).toInt := by rw [hf_4352]; rfl
                have fe_4365 : fld (f_4345 a_0) 12 = (v_4335 : Int32).toInt := by rw [hf_4352]; rfl
                have hf_4366 := hF_4362.at hf_4346 rfl
                obtain ⟨v_4368, v_4369, v_4371, v_4373, v_4375, v_4377, v_4379, v_4380, v_4381, v_4382, v_4384, e_4367, b_4370, b_4372, b_4374, b_4376, b_4378, b_4383, b_4385⟩ := hW_4361.at m_1 t_2
                have fe_4386 : fld (f_4358 a_0) 8 = (v_4373 : Int32).toInt := by rw [e_4367]; rfl
                have fe_4387 : fld (f_4358 a_0) 9 = (v_4375 : Int32).toInt := by rw [e_4367]; rfl
                have fe_4388 : fld (f_4358 a_0) 10 = (v_4377 : Int32).toInt := by rw [e_4367]; rfl
                have fe_4389 : fld (f_4358 a_0) 12 = (v_4380 : Int32).toInt := by rw [e_4367]; rfl
                rw [fe_4389, fe_4365, fe_4364, fe_4363, fe_4387, fe_4386, fe_4388] at x_4360
                clear fe_4363 fe_4364 fe_4365 fe_4386 fe_4387 fe_4388 fe_4389
                refine v_aload_n hC dX12_readLoss_262 rfl ?_
                refine v_get hC fl_X12_34 m_1 e_4367 rfl dX12_readLoss_263 ?_
                refine v_bipush hC dX12_readLoss_266 (v := 6) (by decide) ?_
                refine v_dup2 hC dX12_readLoss_268 rfl rfl ?_
                have l6_4390 : (g_4348 6).toInt = (g_f 6).toInt := congrArg Int32.toInt ag_4355.2.1
                refine v_iald hC m_22 hf_4366 (vp_in_iff.mpr (by decide)) (v := g_4348 6) rfl dX12_readLoss_269 ?_
                refine v_iconst hC dX12_readLoss_270 (v := 1) (by decide) ?_
                obtain ⟨v_4391, h_4392⟩ : ∃ v9 : Int32, (g_4348 6) + 1 = v9 := ⟨_, rfl⟩
                refine v_iadd hC dX12_readLoss_271 h_4392 ?_
                have h_4393 := add_v h_4392 (by first | omega | (simp only [Int32.lt_iff_toInt_lt, Int32.le_iff_toInt_le, Int32.reduceToInt, ← Int32.toInt_inj, true_and, and_true, or_true, true_or, false_or, or_false, false_and, and_false, not_true_eq_false, not_false_eq_true] <;> omega)) (by first | omega | (simp only [Int32.lt_iff_toInt_lt, Int32.le_iff_toInt_le, Int32.reduceToInt, ← Int32.toInt_inj, true_and, and_true, or_true, true_or, false_or, or_false, false_and, and_false, not_true_eq_false, not_false_eq_true] <;> omega))
                try simp only [Int32.reduceToInt] at h_4393
                refine v_iast hC m_22 hf_4366 (vp_in_iff.mpr (by decide)) dX12_readLoss_272 (fun f_4394 hf_4395 hk_4396 => ?_)
                have hW_4398 := hW_4361.up hf_4395 hk_4396 t_23 ⟨_, rfl, (ok_4350.up (i := 6) (by decide) (fun q1 q2 => absurd (And.intro q1 q2) (by decide)) (fun k9 q1 q2 q3 => by simp only [Int32.reduceToInt] at q3; omega))⟩
                obtain ⟨g_4397, hf_4395, ok_4399, eg_4400⟩ : ∃ g9, f_4394 (q 14) = aI E 2076 g9 ∧ FOK g9 ∧ g9 = upd g_4348 (6 : Int32).toNatClampNeg v_4391 := ⟨_, hf_4395, (ok_4350.up (i := 6) (by decide) (fun q1 q2 => absurd (And.intro q1 q2) (by decide)) (fun k9 q1 q2 q3 => by simp only [Int32.reduceToInt] at q3; omega)), rfl⟩
                have hf_4401 := (hk_4396 a_0 (ne_kd e_4367 hf_4366 rfl)).trans e_4367
                have fr_4402 := FR.w hk_4396 hf_4366 (k := 2176) rfl
                have ln6_4403 := FOK.n6 ag_4355.1 eg_4400
                have ln6_4403_t : (g_4397 6).toInt = v_4391.toInt := congrArg Int32.toInt ln6_4403.2
                have fe_4404 : fld (f_4394 a_0) 12 = (v_4380 : Int32).toInt := by rw [hf_4401]; rfl
                have fe_4409 : fld (f_4394 a_0) 8 = (v_4373 : Int32).toInt := by rw [hf_4401]; rfl
                have fe_4410 : fld (f_4394 a_0) 12 = (v_4380 : Int32).toInt := by rw [hf_4401]; rfl
                have fe_4415 : fld (f_4394 a_0) 20 = (v_4384 : Int32).toInt := by rw [hf_4401]; rfl
                exact hR _ _ _ _ _ _ dX12_readLoss_273 (Nat.le_of_ble_eq_true rfl) (Nat.le_of_ble_eq_true rfl) ⟨rfl, hW_4398, ((((((((((hF_3246.tr hF_3290).tr hF_4218).tr fr_4253).tr hF_4265).tr fr_4301).tr hF_4318).tr fr_4353).tr hF_4362).tr fr_4402).mono rfl), ⟨_, hf_4395, ln6_4403.1, (by omega), (by rw [fe_4404]; by_cases q9 : v_4380.toInt = 0; have gp_4405 := x_4360.resolve_left (fun h9 => h9 q9); clear x_4360; have gp_4406 := x_4316.resolve_left (fun h9 => h9 gp_4405.1); clear x_4316; have gp_4407 := x_4263.resolve_left (fun h9 => h9 gp_4406.1); clear x_4263; have gz_4408 := x_4216.symm.trans gp_4407.1; exact .inr (LO.fin hLO ag_4355 eg_4400 (by omega) (by omega) (fun q8 => by omega)); exact .inl q9)⟩, (by rw [fe_4409, fe_4410, mz_43, mz_44]; by_cases q9 : (v_4380 : Int32).toInt = 0; have gp_4411 := x_4360.resolve_left (fun h9 => h9 q9); clear x_4360; have gp_4412 := x_4316.resolve_left (fun h9 => h9 gp_4411.1); clear x_4316; have gp_4413 := x_4263.resolve_left (fun h9 => h9 gp_4412.1); clear x_4263; have gz_4414 := x_4216.symm.trans gp_4413.1; (right; omega); exact .inl q9), (by simp only [fe_4415, mz_45, true_and, and_true, or_true, true_or, false_or, or_false, false_and, and_false, not_true_eq_false, not_false_eq_true] <;> first | omega | (simp only [Int32.lt_iff_toInt_lt, Int32.le_iff_toInt_le, Int32.reduceToInt, ← Int32.toInt_inj, true_and, and_true, or_true, true_or, false_or, or_false, false_and, and_false, not_true_eq_false, not_false_eq_true] <;> omega))⟩
            · simp only [Int32.lt_iff_toInt_lt, Int32.le_iff_toInt_le, Int32.reduceToInt, ← Int32.toInt_inj] at h_4030
              refine v_aload_n hC dX12_readLoss_119 rfl ?_
              refine v_iconst hC dX12_readLoss_120 (v := 1) (by decide) ?_
              refine v_vv hC (rest := []) m_1 e_3296 rfl mi_X12_errs ms_X12_errs (p_X12_errs hW_3289 k_0 (by decide)) mx_X12_errs ml_X12_162 (by decide) rfl (cells1 := 0) (slots1 := 0) (by decide) (by decide) (Nat.le_of_ble_eq_true rfl) (Nat.le_of_ble_eq_true rfl) rfl (Nat.le_of_ble_eq_true rfl) dX12_readLoss_121 (fun L_4417 f_4418 h_4419 => ?_)
              obtain ⟨rfl, hW_4422, hF_4423, x_4420, x_4421, -, -, -⟩ := h_4419
              have fe_4424 : fld (f_3284 a_0) 8 = (v_3302 : Int32).toInt := by rw [e_3296]; rfl
              have hf_4425 := hF_4423.at hf_3295 rfl
              obtain ⟨v_4427, v_4428, v_4430, v_4432, v_4434, v_4436, v_4438, v_4439, v_4440, v_4441, v_4443, e_4426, b_4429, b_4431, b_4433, b_4435, b_4437, b_4442, b_4444⟩ := hW_4422.at m_1 t_2
              have fe_4445 : fld (f_4418 a_0) 8 = (v_4432 : Int32).toInt := by rw [e_4426]; rfl
              have fe_4446 : fld (f_4418 a_0) 12 = (v_4439 : Int32).toInt := by rw [e_4426]; rfl
              rw [fe_4446] at x_4420
              rw [fe_4445, fe_4424] at x_4421
              clear x_3288
              clear fe_4424 fe_4445 fe_4446
              refine v_aload_n hC dX12_readLoss_124 rfl ?_
              refine v_vi hC (rest := []) m_1 e_4426 rfl mi_X12_good ms_X12_good (p_X12_good hW_4422 k_0) mx_X12_good ml_X12_139 (by decide) rfl (cells1 := 0) (slots1 := 0) (by decide) (by decide) (Nat.le_of_ble_eq_true rfl) (Nat.le_of_ble_eq_true rfl) rfl (Nat.le_of_ble_eq_true rfl) dX12_readLoss_125 (fun r_4447 L_4448 f_4449 h_4450 => ?_)
              obtain ⟨rfl, rfl, b_4451, x_4452⟩ := h_4450
              have fe_4455 : fld (f_4418 a_0) 12 = (v_4439 : Int32).toInt := by rw [e_4426]; rfl
              rw [fe_4455] at x_4452
              clear fe_4455
              try simp only [Int32.reduceToInt, Int64.reduceToInt] at x_4452
              refine v_if_eq hC dX12_readLoss_128 (tgt := 135) (by decide) (fun h_4456 => ?_) (fun h_4456 => ?_)
              · simp only [Int32.lt_iff_toInt_lt, Int32.le_iff_toInt_le, Int32.reduceToInt, ← Int32.toInt_inj] at h_4456
                have g0_4457 := gd_f x_4452 h_4456
                clear x_4452
                refine v_aload_n hC dX12_readLoss_135 rfl ?_
                refine v_get hC fl_X12_34 m_1 e_4426 rfl dX12_readLoss_136 ?_
                refine v_iload_n hC dX12_readLoss_139 rfl ?_
                refine v_iload_n hC dX12_readLoss_140 rfl ?_
                refine v_if_eq_t hC dX12_readLoss_141 (tgt := 148) (by decide) (by first | omega | (simp only [Int32.lt_iff_toInt_lt, Int32.le_iff_toInt_le, Int32.reduceToInt, ← Int32.toInt_inj, true_and, and_true, or_true, true_or, false_or, or_false, false_and, and_false, not_true_eq_false, not_false_eq_true] <;> omega)) ?_
                refine v_iconst hC dX12_readLoss_148 (v := 0) (by decide) ?_
                refine v_iast hC m_22 hf_4425 (vp_in_iff.mpr (by first | omega | (simp only [Int32.lt_iff_toInt_lt, Int32.le_iff_toInt_le, Int32.reduceToInt, ← Int32.toInt_inj, true_and, and_true, or_true, true_or, false_or, or_false, false_and, and_false, not_true_eq_false, not_false_eq_true] <;> omega))) dX12_readLoss_149 (fun f_4459 hf_4460 hk_4461 => ?_)
                have hW_4463 := hW_4422.up hf_4460 hk_4461 t_23 ⟨_, rfl, (o_f.up (by first | omega | (simp only [Int32.lt_iff_toInt_lt, Int32.le_iff_toInt_le, Int32.reduceToInt, ← Int32.toInt_inj, true_and, and_true, or_true, true_or, false_or, or_false, false_and, and_false, not_true_eq_false, not_false_eq_true] <;> omega)) (fun q1 q2 => (by first | omega | (simp only [Int32.lt_iff_toInt_lt, Int32.le_iff_toInt_le, Int32.reduceToInt, ← Int32.toInt_inj] at *; omega))) (fun k9 q1 q2 q3 => (by first | omega | (simp only [Int32.lt_iff_toInt_lt, Int32.le_iff_toInt_le, Int32.reduceToInt, ← Int32.toInt_inj] at *; omega))))⟩
                obtain ⟨g_4462, hf_4460, ok_4464, eg_4465⟩ : ∃ g9, f_4459 (q 14) = aI E 2076 g9 ∧ FOK g9 ∧ g9 = upd g_f (v_49 : Int32).toNatClampNeg 0 := ⟨_, hf_4460, (o_f.up (by first | omega | (simp only [Int32.lt_iff_toInt_lt, Int32.le_iff_toInt_le, Int32.reduceToInt, ← Int32.toInt_inj, true_and, and_true, or_true, true_or, false_or, or_false, false_and, and_false, not_true_eq_false, not_false_eq_true] <;> omega)) (fun q1 q2 => (by first | omega | (simp only [Int32.lt_iff_toInt_lt, Int32.le_iff_toInt_le, Int32.reduceToInt, ← Int32.toInt_inj] at *; omega))) (fun k9 q1 q2 q3 => (by first | omega | (simp only [Int32.lt_iff_toInt_lt, Int32.le_iff_toInt_le, Int32.reduceToInt, ← Int32.toInt_inj] at *; omega)))), rfl⟩
                have hf_4466 := (hk_4461 a_0 (ne_kd e_4426 hf_4425 rfl)).trans e_4426
                have fr_4467 := FR.w hk_4461 hf_4425 (k := 2176) rfl
                have lk_4468 := lk_at (g0 := g_f) eg_4465 (by omega) (by omega)
                have ag_4469 := (AG.rf o_f).st eg_4465 (by omega) (by omega)
                try simp only [Int32.reduceToInt] at lk_4468
                refine v_aload_n hC dX12_readLoss_150 rfl ?_
                refine v_get hC fl_X12_34 m_1 hf_4466 rfl dX12_readLoss_151 ?_
                refine v_iload_n hC dX12_readLoss_154 rfl ?_
                refine v_iconst hC dX12_readLoss_155 (v := 1) (by decide) ?_
                obtain ⟨v_4470, h_4471⟩ : ∃ v9 : Int32, v_49 + 1 = v9 := ⟨_, rfl⟩
                refine v_iadd hC dX12_readLoss_156 h_4471 ?_
                have h_4472 := add_v h_4471 (by first | omega | (simp only [Int32.lt_iff_toInt_lt, Int32.le_iff_toInt_le, Int32.reduceToInt, ← Int32.toInt_inj, true_and, and_true, or_true, true_or, false_or, or_false, false_and, and_false, not_true_eq_false, not_false_eq_true] <;> omega)) (by first | omega | (simp only [Int32.lt_iff_toInt_lt, Int32.le_iff_toInt_le, Int32.reduceToInt, ← Int32.toInt_inj, true_and, and_true, or_true, true_or, false_or, or_false, false_and, and_false, not_true_eq_false, not_false_eq_true] <;> omega))
                try simp only [Int32.reduceToInt] at h_4472
                refine v_aload_n hC dX12_readLoss_157 rfl ?_
                refine v_iconst hC dX12_readLoss_158 (v := 0) (by decide) ?_
                refine v_bipush hC dX12_readLoss_159 (v := 15) (by decide) ?_
                refine v_vi hC (rest := [.int v_4470, .ref (q 14)]) m_1 hf_4466 rfl mi_X12_number ms_X12_number (p_X12_number hW_4463 k_0) mx_X12_number ml_X12_170 (by decide) rfl (cells1 := 0) (slots1 := 0) (by decide) (by decide) (Nat.le_of_ble_eq_true rfl) (Nat.le_of_ble_eq_true rfl) rfl (Nat.le_of_ble_eq_true rfl) dX12_readLoss_161 (fun r_4473 L_4474 f_4475 h_4476 => ?_)
                obtain ⟨rfl, hW_4478, hF_4479, -, -, -, -, -, x_4477⟩ := h_4476
                have fe_4480 : fld (f_4459 a_0) 8 = (v_4432 : Int32).toInt := by rw [hf_4466]; rfl
                have fe_4481 : fld (f_4459 a_0) 10 = (v_4436 : Int32).toInt := by rw [hf_4466]; rfl
                have fe_4482 : fld (f_4459 a_0) 12 = (v_4439 : Int32).toInt := by rw [hf_4466]; rfl
                have hf_4483 := hF_4479.at hf_4460 rfl
                obtain ⟨v_4485, v_4486, v_4488, v_4490, v_4492, v_4494, v_4496, v_4497, v_4498, v_4499, v_4501, e_4484, b_4487, b_4489, b_4491, b_4493, b_4495, b_4500, b_4502⟩ := hW_4478.at m_1 t_2
                have fe_4503 : fld (f_4475 a_0) 8 = (v_4490 : Int32).toInt := by rw [e_4484]; rfl
                have fe_4504 : fld (f_4475 a_0) 9 = (v_4492 : Int32).toInt := by rw [e_4484]; rfl
                have fe_4505 : fld (f_4475 a_0) 10 = (v_4494 : Int32).toInt := by rw [e_4484]; rfl
                have fe_4506 : fld (f_4475 a_0) 12 = (v_4497 : Int32).toInt := by rw [e_4484]; rfl
                rw [fe_4506, fe_4482, fe_4481, fe_4480, fe_4504, fe_4503, fe_4505] at x_4477
                have nb_4507 : ¬ (v_4497 : Int32).toInt = 0 := x_4477.elim id (fun h9 => absurd h9.1 g0_4457)
                clear x_4477
                clear fe_4480 fe_4481 fe_4482 fe_4503 fe_4504 fe_4505 fe_4506
                try simp only [Int32.reduceToInt, Int64.reduceToInt] at x_4477
                refine v_iast hC m_22 hf_4483 (vp_in_iff.mpr (by first | omega | (simp only [Int32.lt_iff_toInt_lt, Int32.le_iff_toInt_le, Int32.reduceToInt, ← Int32.toInt_inj, true_and, and_true, or_true, true_or, false_or, or_false, false_and, and_false, not_true_eq_false, not_false_eq_true] <;> omega))) dX12_readLoss_164 (fun f_4508 hf_4509 hk_4510 => ?_)
                have hW_4512 := hW_4478.up hf_4509 hk_4510 t_23 ⟨_, rfl, (ok_4464.up (by first | omega | (simp only [Int32.lt_iff_toInt_lt, Int32.le_iff_toInt_le, Int32.reduceToInt, ← Int32.toInt_inj, true_and, and_true, or_true, true_or, false_or, or_false, false_and, and_false, not_true_eq_false, not_false_eq_true] <;> omega)) (fun q1 q2 => (by first | omega | (simp only [Int32.lt_iff_toInt_lt, Int32.le_iff_toInt_le, Int32.reduceToInt, ← Int32.toInt_inj] at *; omega))) (fun k9 q1 q2 q3 => (by first | omega | (simp only [Int32.lt_iff_toInt_lt, Int32.le_iff_toInt_le, Int32.reduceToInt, ← Int32.toInt_inj] at *; omega))))⟩
                obtain ⟨g_4511, hf_4509, ok_4513, eg_4514⟩ : ∃ g9, f_4508 (q 14) = aI E 2076 g9 ∧ FOK g9 ∧ g9 = upd g_4462 (v_4470 : Int32).toNatClampNeg r_4473 := ⟨_, hf_4509, (ok_4464.up (by first | omega | (simp only [Int32.lt_iff_toInt_lt, Int32.le_iff_toInt_le, Int32.reduceToInt, ← Int32.toInt_inj, true_and, and_true, or_true, true_or, false_or, or_false, false_and, and_false, not_true_eq_false, not_false_eq_true] <;> omega)) (fun q1 q2 => (by first | omega | (simp only [Int32.lt_iff_toInt_lt, Int32.le_iff_toInt_le, Int32.reduceToInt, ← Int32.toInt_inj] at *; omega))) (fun k9 q1 q2 q3 => (by first | omega | (simp only [Int32.lt_iff_toInt_lt, Int32.le_iff_toInt_le, Int32.reduceToInt, ← Int32.toInt_inj] at *; omega)))), rfl⟩
                have hf_4515 := (hk_4510 a_0 (ne_kd e_4484 hf_4483 rfl)).trans e_4484
                have fr_4516 := FR.w hk_4510 hf_4483 (k := 2176) rfl
                have lk_4517 := lf_at (g0 := g_f) eg_4514 (by omega) (by omega)
                have ag_4518 := ag_4469.st eg_4514 (by omega) (by omega)
                try simp only [Int32.reduceToInt] at lk_4517
                refine v_aload_n hC dX12_readLoss_165 rfl ?_
                refine v_get hC fl_X12_34 m_1 hf_4515 rfl dX12_readLoss_166 ?_
                refine v_iload_n hC dX12_readLoss_169 rfl ?_
                refine v_iconst hC dX12_readLoss_170 (v := 2) (by decide) ?_
                obtain ⟨v_4519, h_4520⟩ : ∃ v9 : Int32, v_49 + 2 = v9 := ⟨_, rfl⟩
                refine v_iadd hC dX12_readLoss_171 h_4520 ?_
                have h_4521 := add_v h_4520 (by first | omega | (simp only [Int32.lt_iff_toInt_lt, Int32.le_iff_toInt_le, Int32.reduceToInt, ← Int32.toInt_inj, true_and, and_true, or_true, true_or, false_or, or_false, false_and, and_false, not_true_eq_false, not_false_eq_true] <;> omega)) (by first | omega | (simp only [Int32.lt_iff_toInt_lt, Int32.le_iff_toInt_le, Int32.reduceToInt, ← Int32.toInt_inj, true_and, and_true, or_true, true_or, false_or, or_false, false_and, and_false, not_true_eq_false, not_false_eq_true] <;> omega))
                try simp only [Int32.reduceToInt] at h_4521
                refine v_aload_n hC dX12_readLoss_172 rfl ?_
                refine v_ldcwS hC sr_X12_295 dX12_readLoss_173 ?_
                refine v_aload_n hC dX12_readLoss_176 rfl ?_
                refine v_get hC fl_X12_34 m_1 hf_4515 rfl dX12_readLoss_177 ?_
                refine v_iload_n hC dX12_readLoss_180 rfl ?_
                refine v_iconst hC dX12_readLoss_181 (v := 1) (by decide) ?_
                obtain ⟨v_4522, h_4523⟩ : ∃ v9 : Int32, v_49 + 1 = v9 := ⟨_, rfl⟩
                refine v_iadd hC dX12_readLoss_182 h_4523 ?_
                have h_4524 := add_v h_4523 (by first | omega | (simp only [Int32.lt_iff_toInt_lt, Int32.le_iff_toInt_le, Int32.reduceToInt, ← Int32.toInt_inj, true_and, and_true, or_true, true_or, false_or, or_false, false_and, and_false, not_true_eq_false, not_false_eq_true] <;> omega)) (by first | omega | (simp only [Int32.lt_iff_toInt_lt, Int32.le_iff_toInt_le, Int32.reduceToInt, ← Int32.toInt_inj, true_and, and_true, or_true, true_or, false_or, or_false, false_and, and_false, not_true_eq_false, not_false_eq_true] <;> omega))
                try simp only [Int32.reduceToInt] at h_4524
                obtain ⟨v_4525, h_4526⟩ : ∃ v9 : Int32, g_4511 (v_4522 : Int32).toNatClampNeg = v9 := ⟨_, rfl⟩
                refine v_iald hC m_22 hf_4509 (vp_in_iff.mpr (by first | omega | (simp only [Int32.lt_iff_toInt_lt, Int32.le_iff_toInt_le, Int32.reduceToInt, ← Int32.toInt_inj, true_and, and_true, or_true, true_or, false_or, or_false, false_and, and_false, not_true_eq_false, not_false_eq_true] <;> omega))) h_4526 dX12_readLoss_183 ?_
                refine v_bipush hC dX12_readLoss_184 (v := 15) (by decide) ?_
                refine v_vi hC (rest := [.int v_4519, .ref (q 14)]) m_1 hf_4515 rfl mi_X12_told ms_X12_told (p_X12_told hW_4512 k_0 (by decide)) mx_X12_told ml_X12_189 (by decide) rfl (cells1 := 0) (slots1 := 0) (by decide) (by decide) (Nat.le_of_ble_eq_true rfl) (Nat.le_of_ble_eq_true rfl) rfl (Nat.le_of_ble_eq_true rfl) dX12_readLoss_186 (fun r_4527 L_4528 f_4529 h_4530 => ?_)
                obtain ⟨rfl, hW_4532, hF_4533, -, -, -, -, -, x_4531⟩ := h_4530
                have fe_4534 : fld (f_4508 a_0) 8 = (v_4490 : Int32).toInt := by rw [hf_4515]; rfl
                have fe_4535 : fld (f_4508 a_0) 12 = (v_4497 : Int32).toInt := by rw [hf_4515]; rfl
                have hf_4536 := hF_4533.at hf_4509 rfl
                obtain ⟨v_4538, v_4539, v_4541, v_4543, v_4545, v_4547, v_4549, v_4550, v_4551, v_4552, v_4554, e_4537, b_4540, b_4542, b_4544, b_4546, b_4548, b_4553, b_4555⟩ := hW_4532.at m_1 t_2
                have fe_4556 : fld (f_4529 a_0) 8 = (v_4543 : Int32).toInt := by rw [e_4537]; rfl
                have fe_4557 : fld (f_4529 a_0) 9 = (v_4545 : Int32).toInt := by rw [e_4537]; rfl
                have fe_4558 : fld (f_4529 a_0) 10 = (v_4547 : Int32).toInt := by rw [e_4537]; rfl
                have fe_4559 : fld (f_4529 a_0) 12 = (v_4550 : Int32).toInt := by rw [e_4537]; rfl
                rw [fe_4559, fe_4535, fe_4534, fe_4557, fe_4556, fe_4558] at x_4531
                have nb_4560 : ¬ (v_4550 : Int32).toInt = 0 := x_4531.elim id (fun h9 => absurd h9.1 nb_4507)
                clear x_4531
                clear fe_4534 fe_4535 fe_4556 fe_4557 fe_4558 fe_4559
                try simp only [Int32.reduceToInt, Int64.reduceToInt] at x_4531
                refine v_iast hC m_22 hf_4536 (vp_in_iff.mpr (by first | omega | (simp only [Int32.lt_iff_toInt_lt, Int32.le_iff_toInt_le, Int32.reduceToInt, ← Int32.toInt_inj, true_and, and_true, or_true, true_or, false_or, or_false, false_and, and_false, not_true_eq_false, not_false_eq_true] <;> omega))) dX12_readLoss_189 (fun f_4561 hf_4562 hk_4563 => ?_)
                have hW_4565 := hW_4532.up hf_4562 hk_4563 t_23 ⟨_, rfl, (ok_4513.up (by first | omega | (simp only [Int32.lt_iff_toInt_lt, Int32.le_iff_toInt_le, Int32.reduceToInt, ← Int32.toInt_inj, true_and, and_true, or_true, true_or, false_or, or_false, false_and, and_false, not_true_eq_false, not_false_eq_true] <;> omega)) (fun q1 q2 => (by first | omega | (simp only [Int32.lt_iff_toInt_lt, Int32.le_iff_toInt_le, Int32.reduceToInt, ← Int32.toInt_inj] at *; omega))) (fun k9 q1 q2 q3 => (by first | omega | (simp only [Int32.lt_iff_toInt_lt, Int32.le_iff_toInt_le, Int32.reduceToInt, ← Int32.toInt_inj] at *; omega))))⟩
                obtain ⟨g_4564, hf_4562, ok_4566, eg_4567⟩ : ∃ g9, f_4561 (q 14) = aI E 2076 g9 ∧ FOK g9 ∧ g9 = upd g_4511 (v_4519 : Int32).toNatClampNeg r_4527 := ⟨_, hf_4562, (ok_4513.up (by first | omega | (simp only [Int32.lt_iff_toInt_lt, Int32.le_iff_toInt_le, Int32.reduceToInt, ← Int32.toInt_inj, true_and, and_true, or_true, true_or, false_or, or_false, false_and, and_false, not_true_eq_false, not_false_eq_true] <;> omega)) (fun q1 q2 => (by first | omega | (simp only [Int32.lt_iff_toInt_lt, Int32.le_iff_toInt_le, Int32.reduceToInt, ← Int32.toInt_inj] at *; omega))) (fun k9 q1 q2 q3 => (by first | omega | (simp only [Int32.lt_iff_toInt_lt, Int32.le_iff_toInt_le, Int32.reduceToInt, ← Int32.toInt_inj] at *; omega)))), rfl⟩
                have hf_4568 := (hk_4563 a_0 (ne_kd e_4537 hf_4536 rfl)).trans e_4537
                have fr_4569 := FR.w hk_4563 hf_4536 (k := 2176) rfl
                have lk_4570 := l2_at (g0 := g_f) eg_4567 (by omega) (by omega)
                have ag_4571 := ag_4518.st eg_4567 (by omega) (by omega)
                try simp only [Int32.reduceToInt] at lk_4570
                refine v_goto hC dX12_readLoss_190 (tgt := 258) (by decide) ?_
                refine v_aload_n hC dX12_readLoss_258 rfl ?_
                refine v_vv hC (rest := []) m_1 hf_4568 rfl mi_X12_ends ms_X12_ends (p_X12_ends hW_4565 k_0) mx_X12_ends ml_X12_178 (by decide) rfl (cells1 := 0) (slots1 := 0) (by decide) (by decide) (Nat.le_of_ble_eq_true rfl) (Nat.le_of_ble_eq_true rfl) rfl (Nat.le_of_ble_eq_true rfl) dX12_readLoss_259 (fun L_4573 f_4574 h_4575 => ?_)
                obtain ⟨rfl, hW_4577, hF_4578, -, -, -, -, x_4576⟩ := h_4575
                have fe_4579 : fld (f_4561 a_0) 8 = (v_4543 : Int32).toInt := by rw [hf_4568]; rfl
                have fe_4580 : fld (f_4561 a_0) 10 = (v_4547 : Int32).toInt := by rw [hf_4568]; rfl
                have fe_4581 : fld (f_4561 a_0) 12 = (v_4550 : Int32).toInt := by rw [hf_4568]; rfl
                have hf_4582 := hF_4578.at hf_4562 rfl
                obtain ⟨v_4584, v_4585, v_4587, v_4589, v_4591, v_4593, v_4595, v_4596, v_4597, v_4598, v_4600, e_4583, b_4586, b_4588, b_4590, b_4592, b_4594, b_4599, b_4601⟩ := hW_4577.at m_1 t_2
                have fe_4602 : fld (f_4574 a_0) 8 = (v_4589 : Int32).toInt := by rw [e_4583]; rfl
                have fe_4603 : fld (f_4574 a_0) 9 = (v_4591 : Int32).toInt := by rw [e_4583]; rfl
                have fe_4604 : fld (f_4574 a_0) 10 = (v_4593 : Int32).toInt := by rw [e_4583]; rfl
                have fe_4605 : fld (f_4574 a_0) 12 = (v_4596 : Int32).toInt := by rw [e_4583]; rfl
                rw [fe_4605, fe_4581, fe_4580, fe_4579, fe_4603, fe_4602, fe_4604] at x_4576
                have nb_4606 : ¬ (v_4596 : Int32).toInt = 0 := x_4576.elim id (fun h9 => absurd h9.1 nb_4560)
                clear x_4576
                clear fe_4579 fe_4580 fe_4581 fe_4602 fe_4603 fe_4604 fe_4605
                refine v_aload_n hC dX12_readLoss_262 rfl ?_
                refine v_get hC fl_X12_34 m_1 e_4583 rfl dX12_readLoss_263 ?_
                refine v_bipush hC dX12_readLoss_266 (v := 6) (by decide) ?_
                refine v_dup2 hC dX12_readLoss_268 rfl rfl ?_
                have l6_4607 : (g_4564 6).toInt = (g_f 6).toInt := congrArg Int32.toInt ag_4571.2.1
                refine v_iald hC m_22 hf_4582 (vp_in_iff.mpr (by decide)) (v := g_4564 6) rfl dX12_readLoss_269 ?_
                refine v_iconst hC dX12_readLoss_270 (v := 1) (by decide) ?_
                obtain ⟨v_4608, h_4609⟩ : ∃ v9 : Int32, (g_4564 6) + 1 = v9 := ⟨_, rfl⟩
                refine v_iadd hC dX12_readLoss_271 h_4609 ?_
                have h_4610 := add_v h_4609 (by first | omega | (simp only [Int32.lt_iff_toInt_lt, Int32.le_iff_toInt_le, Int32.reduceToInt, ← Int32.toInt_inj, true_and, and_true, or_true, true_or, false_or, or_false, false_and, and_false, not_true_eq_false, not_false_eq_true] <;> omega)) (by first | omega | (simp only [Int32.lt_iff_toInt_lt, Int32.le_iff_toInt_le, Int32.reduceToInt, ← Int32.toInt_inj, true_and, and_true, or_true, true_or, false_or, or_false, false_and, and_false, not_true_eq_false, not_false_eq_true] <;> omega))
                try simp only [Int32.reduceToInt] at h_4610
                refine v_iast hC m_22 hf_4582 (vp_in_iff.mpr (by decide)) dX12_readLoss_272 (fun f_4611 hf_4612 hk_4613 => ?_)
                have hW_4615 := hW_4577.up hf_4612 hk_4613 t_23 ⟨_, rfl, (ok_4566.up (i := 6) (by decide) (fun q1 q2 => absurd (And.intro q1 q2) (by decide)) (fun k9 q1 q2 q3 => by simp only [Int32.reduceToInt] at q3; omega))⟩
                obtain ⟨g_4614, hf_4612, ok_4616, eg_4617⟩ : ∃ g9, f_4611 (q 14) = aI E 2076 g9 ∧ FOK g9 ∧ g9 = upd g_4564 (6 : Int32).toNatClampNeg v_4608 := ⟨_, hf_4612, (ok_4566.up (i := 6) (by decide) (fun q1 q2 => absurd (And.intro q1 q2) (by decide)) (fun k9 q1 q2 q3 => by simp only [Int32.reduceToInt] at q3; omega)), rfl⟩
                have hf_4618 := (hk_4613 a_0 (ne_kd e_4583 hf_4582 rfl)).trans e_4583
                have fr_4619 := FR.w hk_4613 hf_4582 (k := 2176) rfl
                have ln6_4620 := FOK.n6 ag_4571.1 eg_4617
                have ln6_4620_t : (g_4614 6).toInt = v_4608.toInt := congrArg Int32.toInt ln6_4620.2
                have fe_4621 : fld (f_4611 a_0) 12 = (v_4596 : Int32).toInt := by rw [hf_4618]; rfl
                have fe_4622 : fld (f_4611 a_0) 8 = (v_4589 : Int32).toInt := by rw [hf_4618]; rfl
                have fe_4623 : fld (f_4611 a_0) 12 = (v_4596 : Int32).toInt := by rw [hf_4618]; rfl
                have fe_4624 : fld (f_4611 a_0) 20 = (v_4600 : Int32).toInt := by rw [hf_4618]; rfl
                exact hR _ _ _ _ _ _ dX12_readLoss_273 (Nat.le_of_ble_eq_true rfl) (Nat.le_of_ble_eq_true rfl) ⟨rfl, hW_4615, ((((((((((hF_3246.tr hF_3290).tr hF_4423).tr fr_4467).tr hF_4479).tr fr_4516).tr hF_4533).tr fr_4569).tr hF_4578).tr fr_4619).mono rfl), ⟨_, hf_4612, ln6_4620.1, (by omega), (by rw [fe_4621]; exact .inl nb_4606)⟩, (by rw [fe_4622, fe_4623, mz_43, mz_44]; exact .inl nb_4606), (by simp only [fe_4624, mz_45, true_and, and_true, or_true, true_or, false_or, or_false, false_and, and_false, not_true_eq_false, not_false_eq_true] <;> first | omega | (simp only [Int32.lt_iff_toInt_lt, Int32.le_iff_toInt_le, Int32.reduceToInt, ← Int32.toInt_inj, true_and, and_true, or_true, true_or, false_or, or_false, false_and, and_false, not_true_eq_false, not_false_eq_true] <;> omega))⟩
              · simp only [Int32.lt_iff_toInt_lt, Int32.le_iff_toInt_le, Int32.reduceToInt, ← Int32.toInt_inj] at h_4456
                have g0_4458 := gd_t x_4452 h_4456
                clear x_4452
                refine v_aload_n hC dX12_readLoss_131 rfl ?_
                refine v_vv hC (rest := []) m_1 e_4426 rfl mi_X12_advance ms_X12_advance (p_X12_advance hW_4422 k_0) mx_X12_advance ml_X12_156 (by decide) rfl (cells1 := 0) (slots1 := 0) (by decide) (by decide) (Nat.le_of_ble_eq_true rfl) (Nat.le_of_ble_eq_true rfl) rfl (Nat.le_of_ble_eq_true rfl) dX12_readLoss_132 (fun L_4626 f_4627 h_4628 => ?_)
                obtain ⟨rfl, hW_4632, hF_4633, x_4629, x_4630, x_4631, -⟩ := h_4628
                have fe_4634 : fld (f_4418 a_0) 8 = (v_4432 : Int32).toInt := by rw [e_4426]; rfl
                have fe_4635 : fld (f_4418 a_0) 12 = (v_4439 : Int32).toInt := by rw [e_4426]; rfl
                have hf_4636 := hF_4633.at hf_4425 rfl
                obtain ⟨v_4638, v_4639, v_4641, v_4643, v_4645, v_4647, v_4649, v_4650, v_4651, v_4652, v_4654, e_4637, b_4640, b_4642, b_4644, b_4646, b_4648, b_4653, b_4655⟩ := hW_4632.at m_1 t_2
                have fe_4656 : fld (f_4627 a_0) 8 = (v_4643 : Int32).toInt := by rw [e_4637]; rfl
                have fe_4657 : fld (f_4627 a_0) 9 = (v_4645 : Int32).toInt := by rw [e_4637]; rfl
                have fe_4658 : fld (f_4627 a_0) 10 = (v_4647 : Int32).toInt := by rw [e_4637]; rfl
                have fe_4659 : fld (f_4627 a_0) 12 = (v_4650 : Int32).toInt := by rw [e_4637]; rfl
                rw [fe_4634, fe_4657, fe_4656] at x_4629
                rw [fe_4658, fe_4657, fe_4656] at x_4630
                rw [fe_4659, fe_4635] at x_4631
                clear fe_4634 fe_4635 fe_4656 fe_4657 fe_4658 fe_4659
                refine v_aload_n hC dX12_readLoss_135 rfl ?_
                refine v_get hC fl_X12_34 m_1 e_4637 rfl dX12_readLoss_136 ?_
                refine v_iload_n hC dX12_readLoss_139 rfl ?_
                refine v_iload_n hC dX12_readLoss_140 rfl ?_
                refine v_if_eq_t hC dX12_readLoss_141 (tgt := 148) (by decide) (by first | omega | (simp only [Int32.lt_iff_toInt_lt, Int32.le_iff_toInt_le, Int32.reduceToInt, ← Int32.toInt_inj, true_and, and_true, or_true, true_or, false_or, or_false, false_and, and_false, not_true_eq_false, not_false_eq_true] <;> omega)) ?_
                refine v_iconst hC dX12_readLoss_148 (v := 0) (by decide) ?_
                refine v_iast hC m_22 hf_4636 (vp_in_iff.mpr (by first | omega | (simp only [Int32.lt_iff_toInt_lt, Int32.le_iff_toInt_le, Int32.reduceToInt, ← Int32.toInt_inj, true_and, and_true, or_true, true_or, false_or, or_false, false_and, and_false, not_true_eq_false, not_false_eq_true] <;> omega))) dX12_readLoss_149 (fun f_4660 hf_4661 hk_4662 => ?_)
                have hW_4664 := hW_4632.up hf_4661 hk_4662 t_23 ⟨_, rfl, (o_f.up (by first | omega | (simp only [Int32.lt_iff_toInt_lt, Int32.le_iff_toInt_le, Int32.reduceToInt, ← Int32.toInt_inj, true_and, and_true, or_true, true_or, false_or, or_false, false_and, and_false, not_true_eq_false, not_false_eq_true] <;> omega)) (fun q1 q2 => (by first | omega | (simp only [Int32.lt_iff_toInt_lt, Int32.le_iff_toInt_le, Int32.reduceToInt, ← Int32.toInt_inj] at *; omega))) (fun k9 q1 q2 q3 => (by first | omega | (simp only [Int32.lt_iff_toInt_lt, Int32.le_iff_toInt_le, Int32.reduceToInt, ← Int32.toInt_inj] at *; omega))))⟩
                obtain ⟨g_4663, hf_4661, ok_4665, eg_4666⟩ : ∃ g9, f_4660 (q 14) = aI E 2076 g9 ∧ FOK g9 ∧ g9 = upd g_f (v_49 : Int32).toNatClampNeg 0 := ⟨_, hf_4661, (o_f.up (by first | omega | (simp only [Int32.lt_iff_toInt_lt, Int32.le_iff_toInt_le, Int32.reduceToInt, ← Int32.toInt_inj, true_and, and_true, or_true, true_or, false_or, or_false, false_and, and_false, not_true_eq_false, not_false_eq_true] <;> omega)) (fun q1 q2 => (by first | omega | (simp only [Int32.lt_iff_toInt_lt, Int32.le_iff_toInt_le, Int32.reduceToInt, ← Int32.toInt_inj] at *; omega))) (fun k9 q1 q2 q3 => (by first | omega | (simp only [Int32.lt_iff_toInt_lt, Int32.le_iff_toInt_le, Int32.reduceToInt, ← Int32.toInt_inj] at *; omega)))), rfl⟩
                have hf_4667 := (hk_4662 a_0 (ne_kd e_4637 hf_4636 rfl)).trans e_4637
                have fr_4668 := FR.w hk_4662 hf_4636 (k := 2176) rfl
                have lk_4669 := lk_at (g0 := g_f) eg_4666 (by omega) (by omega)
                have ag_4670 := (AG.rf o_f).st eg_4666 (by omega) (by omega)
                try simp only [Int32.reduceToInt] at lk_4669
                refine v_aload_n hC dX12_readLoss_150 rfl ?_
                refine v_get hC fl_X12_34 m_1 hf_4667 rfl dX12_readLoss_151 ?_
                refine v_iload_n hC dX12_readLoss_154 rfl ?_
                refine v_iconst hC dX12_readLoss_155 (v := 1) (by decide) ?_
                obtain ⟨v_4671, h_4672⟩ : ∃ v9 : Int32, v_49 + 1 = v9 := ⟨_, rfl⟩
                refine v_iadd hC dX12_readLoss_156 h_4672 ?_
                have h_4673 := add_v h_4672 (by first | omega | (simp only [Int32.lt_iff_toInt_lt, Int32.le_iff_toInt_le, Int32.reduceToInt, ← Int32.toInt_inj, true_and, and_true, or_true, true_or, false_or, or_false, false_and, and_false, not_true_eq_false, not_false_eq_true] <;> omega)) (by first | omega | (simp only [Int32.lt_iff_toInt_lt, Int32.le_iff_toInt_le, Int32.reduceToInt, ← Int32.toInt_inj, true_and, and_true, or_true, true_or, false_or, or_false, false_and, and_false, not_true_eq_false, not_false_eq_true] <;> omega))
                try simp only [Int32.reduceToInt] at h_4673
                refine v_aload_n hC dX12_readLoss_157 rfl ?_
                refine v_iconst hC dX12_readLoss_158 (v := 0) (by decide) ?_
                refine v_bipush hC dX12_readLoss_159 (v := 15) (by decide) ?_
                refine v_vi hC (rest := [.int v_4671, .ref (q 14)]) m_1 hf_4667 rfl mi_X12_number ms_X12_number (p_X12_number hW_4664 k_0) mx_X12_number ml_X12_170 (by decide) rfl (cells1 := 0) (slots1 := 0) (by decide) (by decide) (Nat.le_of_ble_eq_true rfl) (Nat.le_of_ble_eq_true rfl) rfl (Nat.le_of_ble_eq_true rfl) dX12_readLoss_161 (fun r_4674 L_4675 f_4676 h_4677 => ?_)
                obtain ⟨rfl, hW_4679, hF_4680, -, -, -, -, -, x_4678⟩ := h_4677
                have fe_4681 : fld (f_4660 a_0) 8 = (v_4643 : Int32).toInt := by rw [hf_4667]; rfl
                have fe_4682 : fld (f_4660 a_0) 10 = (v_4647 : Int32).toInt := by rw [hf_4667]; rfl
                have fe_4683 : fld (f_4660 a_0) 12 = (v_4650 : Int32).toInt := by rw [hf_4667]; rfl
                have hf_4684 := hF_4680.at hf_4661 rfl
                obtain ⟨v_4686, v_4687, v_4689, v_4691, v_4693, v_4695, v_4697, v_4698, v_4699, v_4700, v_4702, e_4685, b_4688, b_4690, b_4692, b_4694, b_4696, b_4701, b_4703⟩ := hW_4679.at m_1 t_2
                have fe_4704 : fld (f_4676 a_0) 8 = (v_4691 : Int32).toInt := by rw [e_4685]; rfl
                have fe_4705 : fld (f_4676 a_0) 9 = (v_4693 : Int32).toInt := by rw [e_4685]; rfl
                have fe_4706 : fld (f_4676 a_0) 10 = (v_4695 : Int32).toInt := by rw [e_4685]; rfl
                have fe_4707 : fld (f_4676 a_0) 12 = (v_4698 : Int32).toInt := by rw [e_4685]; rfl
                rw [fe_4707, fe_4683, fe_4682, fe_4681, fe_4705, fe_4704, fe_4706] at x_4678
                clear fe_4681 fe_4682 fe_4683 fe_4704 fe_4705 fe_4706 fe_4707
                try simp only [Int32.reduceToInt, Int64.reduceToInt] at x_4678
                refine v_iast hC m_22 hf_4684 (vp_in_iff.mpr (by first | omega | (simp only [Int32.lt_iff_toInt_lt, Int32.le_iff_toInt_le, Int32.reduceToInt, ← Int32.toInt_inj, true_and, and_true, or_true, true_or, false_or, or_false, false_and, and_false, not_true_eq_false, not_false_eq_true] <;> omega))) dX12_readLoss_164 (fun f_4708 hf_4709 hk_4710 => ?_)
                have hW_4712 := hW_4679.up hf_4709 hk_4710 t_23 ⟨_, rfl, (ok_4665.up (by first | omega | (simp only [Int32.lt_iff_toInt_lt, Int32.le_iff_toInt_le, Int32.reduceToInt, ← Int32.toInt_inj, true_and, and_true, or_true, true_or, false_or, or_false, false_and, and_false, not_true_eq_false, not_false_eq_true] <;> omega)) (fun q1 q2 => (by first | omega | (simp only [Int32.lt_iff_toInt_lt, Int32.le_iff_toInt_le, Int32.reduceToInt, ← Int32.toInt_inj] at *; omega))) (fun k9 q1 q2 q3 => (by first | omega | (simp only [Int32.lt_iff_toInt_lt, Int32.le_iff_toInt_le, Int32.reduceToInt, ← Int32.toInt_inj] at *; omega))))⟩
                obtain ⟨g_4711, hf_4709, ok_4713, eg_4714⟩ : ∃ g9, f_4708 (q 14) = aI E 2076 g9 ∧ FOK g9 ∧ g9 = upd g_4663 (v_4671 : Int32).toNatClampNeg r_4674 := ⟨_, hf_4709, (ok_4665.up (by first | omega | (simp only [Int32.lt_iff_toInt_lt, Int32.le_iff_toInt_le, Int32.reduceToInt, ← Int32.toInt_inj, true_and, and_true, or_true, true_or, false_or, or_false, false_and, and_false, not_true_eq_false, not_false_eq_true] <;> omega)) (fun q1 q2 => (by first | omega | (simp only [Int32.lt_iff_toInt_lt, Int32.le_iff_toInt_le, Int32.reduceToInt, ← Int32.toInt_inj] at *; omega))) (fun k9 q1 q2 q3 => (by first | omega | (simp only [Int32.lt_iff_toInt_lt, Int32.le_iff_toInt_le, Int32.reduceToInt, ← Int32.toInt_inj] at *; omega)))), rfl⟩
                have hf_4715 := (hk_4710 a_0 (ne_kd e_4685 hf_4684 rfl)).trans e_4685
                have fr_4716 := FR.w hk_4710 hf_4684 (k := 2176) rfl
                have lk_4717 := lf_at (g0 := g_f) eg_4714 (by omega) (by omega)
                have ag_4718 := ag_4670.st eg_4714 (by omega) (by omega)
                try simp only [Int32.reduceToInt] at lk_4717
                refine v_aload_n hC dX12_readLoss_165 rfl ?_
                refine v_get hC fl_X12_34 m_1 hf_4715 rfl dX12_readLoss_166 ?_
                refine v_iload_n hC dX12_readLoss_169 rfl ?_
                refine v_iconst hC dX12_readLoss_170 (v := 2) (by decide) ?_
                obtain ⟨v_4719, h_4720⟩ : ∃ v9 : Int32, v_49 + 2 = v9 := ⟨_, rfl⟩
                refine v_iadd hC dX12_readLoss_171 h_4720 ?_
                have h_4721 := add_v h_4720 (by first | omega | (simp only [Int32.lt_iff_toInt_lt, Int32.le_iff_toInt_le, Int32.reduceToInt, ← Int32.toInt_inj, true_and, and_true, or_true, true_or, false_or, or_false, false_and, and_false, not_true_eq_false, not_false_eq_true] <;> omega)) (by first | omega | (simp only [Int32.lt_iff_toInt_lt, Int32.le_iff_toInt_le, Int32.reduceToInt, ← Int32.toInt_inj, true_and, and_true, or_true, true_or, false_or, or_false, false_and, and_false, not_true_eq_false, not_false_eq_true] <;> omega))
                try simp only [Int32.reduceToInt] at h_4721
                refine v_aload_n hC dX12_readLoss_172 rfl ?_
                refine v_ldcwS hC sr_X12_295 dX12_readLoss_173 ?_
                refine v_aload_n hC dX12_readLoss_176 rfl ?_
                refine v_get hC fl_X12_34 m_1 hf_4715 rfl dX12_readLoss_177 ?_
                refine v_iload_n hC dX12_readLoss_180 rfl ?_
                refine v_iconst hC dX12_readLoss_181 (v := 1) (by decide) ?_
                obtain ⟨v_4722, h_4723⟩ : ∃ v9 : Int32, v_49 + 1 = v9 := ⟨_, rfl⟩
                refine v_iadd hC dX12_readLoss_182 h_4723 ?_
                have h_4724 := add_v h_4723 (by first | omega | (simp only [Int32.lt_iff_toInt_lt, Int32.le_iff_toInt_le, Int32.reduceToInt, ← Int32.toInt_inj, true_and, and_true, or_true, true_or, false_or, or_false, false_and, and_false, not_true_eq_false, not_false_eq_true] <;> omega)) (by first | omega | (simp only [Int32.lt_iff_toInt_lt, Int32.le_iff_toInt_le, Int32.reduceToInt, ← Int32.toInt_inj, true_and, and_true, or_true, true_or, false_or, or_false, false_and, and_false, not_true_eq_false, not_false_eq_true] <;> omega))
                try simp only [Int32.reduceToInt] at h_4724
                obtain ⟨v_4725, h_4726⟩ : ∃ v9 : Int32, g_4711 (v_4722 : Int32).toNatClampNeg = v9 := ⟨_, rfl⟩
                refine v_iald hC m_22 hf_4709 (vp_in_iff.mpr (by first | omega | (simp only [Int32.lt_iff_toInt_lt, Int32.le_iff_toInt_le, Int32.reduceToInt, ← Int32.toInt_inj, true_and, and_true, or_true, true_or, false_or, or_false, false_and, and_false, not_true_eq_false, not_false_eq_true] <;> omega))) h_4726 dX12_readLoss_183 ?_
                refine v_bipush hC dX12_readLoss_184 (v := 15) (by decide) ?_
                refine v_vi hC (rest := [.int v_4719, .ref (q 14)]) m_1 hf_4715 rfl mi_X12_told ms_X12_told (p_X12_told hW_4712 k_0 (by decide)) mx_X12_told ml_X12_189 (by decide) rfl (cells1 := 0) (slots1 := 0) (by decide) (by decide) (Nat.le_of_ble_eq_true rfl) (Nat.le_of_ble_eq_true rfl) rfl (Nat.le_of_ble_eq_true rfl) dX12_readLoss_186 (fun r_4727 L_4728 f_4729 h_4730 => ?_)
                obtain ⟨rfl, hW_4732, hF_4733, -, -, -, -, -, x_4731⟩ := h_4730
                have fe_4734 : fld (f_4708 a_0) 8 = (v_4691 : Int32).toInt := by rw [hf_4715]; rfl
                have fe_4735 : fld (f_4708 a_0) 12 = (v_4698 : Int32).toInt := by rw [hf_4715]; rfl
                have hf_4736 := hF_4733.at hf_4709 rfl
                obtain ⟨v_4738, v_4739, v_4741, v_4743, v_4745, v_4747, v_4749, v_4750, v_4751, v_4752, v_4754, e_4737, b_4740, b_4742, b_4744, b_4746, b_4748, b_4753, b_4755⟩ := hW_4732.at m_1 t_2
                have fe_4756 : fld (f_4729 a_0) 8 = (v_4743 : Int32).toInt := by rw [e_4737]; rfl
                have fe_4757 : fld (f_4729 a_0) 9 = (v_4745 : Int32).toInt := by rw [e_4737]; rfl
                have fe_4758 : fld (f_4729 a_0) 10 = (v_4747 : Int32).toInt := by rw [e_4737]; rfl
                have fe_4759 : fld (f_4729 a_0) 12 = (v_4750 : Int32).toInt := by rw [e_4737]; rfl
                rw [fe_4759, fe_4735, fe_4734, fe_4757, fe_4756, fe_4758] at x_4731
                clear fe_4734 fe_4735 fe_4756 fe_4757 fe_4758 fe_4759
                try simp only [Int32.reduceToInt, Int64.reduceToInt] at x_4731
                refine v_iast hC m_22 hf_4736 (vp_in_iff.mpr (by first | omega | (simp only [Int32.lt_iff_toInt_lt, Int32.le_iff_toInt_le, Int32.reduceToInt, ← Int32.toInt_inj, true_and, and_true, or_true, true_or, false_or, or_false, false_and, and_false, not_true_eq_false, not_false_eq_true] <;> omega))) dX12_readLoss_189 (fun f_4760 hf_4761 hk_4762 => ?_)
                have hW_4764 := hW_4732.up hf_4761 hk_4762 t_23 ⟨_, rfl, (ok_4713.up (by first | omega | (simp only [Int32.lt_iff_toInt_lt, Int32.le_iff_toInt_le, Int32.reduceToInt, ← Int32.toInt_inj, true_and, and_true, or_true, true_or, false_or, or_false, false_and, and_false, not_true_eq_false, not_false_eq_true] <;> omega)) (fun q1 q2 => (by first | omega | (simp only [Int32.lt_iff_toInt_lt, Int32.le_iff_toInt_le, Int32.reduceToInt, ← Int32.toInt_inj] at *; omega))) (fun k9 q1 q2 q3 => (by first | omega | (simp only [Int32.lt_iff_toInt_lt, Int32.le_iff_toInt_le, Int32.reduceToInt, ← Int32.toInt_inj] at *; omega))))⟩
                obtain ⟨g_4763, hf_4761, ok_4765, eg_4766⟩ : ∃ g9, f_4760 (q 14) = aI E 2076 g9 ∧ FOK g9 ∧ g9 = upd g_4711 (v_4719 : Int32).toNatClampNeg r_4727 := ⟨_, hf_4761, (ok_4713.up (by first | omega | (simp only [Int32.lt_iff_toInt_lt, Int32.le_iff_toInt_le, Int32.reduceToInt, ← Int32.toInt_inj, true_and, and_true, or_true, true_or, false_or, or_false, false_and, and_false, not_true_eq_false, not_false_eq_true] <;> omega)) (fun q1 q2 => (by first | omega | (simp only [Int32.lt_iff_toInt_lt, Int32.le_iff_toInt_le, Int32.reduceToInt, ← Int32.toInt_inj] at *; omega))) (fun k9 q1 q2 q3 => (by first | omega | (simp only [Int32.lt_iff_toInt_lt, Int32.le_iff_toInt_le, Int32.reduceToInt, ← Int32.toInt_inj] at *; omega)))), rfl⟩
                have hf_4767 := (hk_4762 a_0 (ne_kd e_4737 hf_4736 rfl)).trans e_4737
                have fr_4768 := FR.w hk_4762 hf_4736 (k := 2176) rfl
                have lk_4769 := l2_at (g0 := g_f) eg_4766 (by omega) (by omega)
                have ag_4770 := ag_4718.st eg_4766 (by omega) (by omega)
                try simp only [Int32.reduceToInt] at lk_4769
                refine v_goto hC dX12_readLoss_190 (tgt := 258) (by decide) ?_
                refine v_aload_n hC dX12_readLoss_258 rfl ?_
                refine v_vv hC (rest := []) m_1 hf_4767 rfl mi_X12_ends ms_X12_ends (p_X12_ends hW_4764 k_0) mx_X12_ends ml_X12_178 (by decide) rfl (cells1 := 0) (slots1 := 0) (by decide) (by decide) (Nat.le_of_ble_eq_true rfl) (Nat.le_of_ble_eq_true rfl) rfl (Nat.le_of_ble_eq_true rfl) dX12_readLoss_259 (fun L_4772 f_4773 h_4774 => ?_)
                obtain ⟨rfl, hW_4776, hF_4777, -, -, -, -, x_4775⟩ := h_4774
                have fe_4778 : fld (f_4760 a_0) 8 = (v_4743 : Int32).toInt := by rw [hf_4767]; rfl
                have fe_4779 : fld (f_4760 a_0) 10 = (v_4747 : Int32).toInt := by rw [hf_4767]; rfl
                have fe_4780 : fld (f_4760 a_0) 12 = (v_4750 : Int32).toInt := by rw [hf_4767]; rfl
                have hf_4781 := hF_4777.at hf_4761 rfl
                obtain ⟨v_4783, v_4784, v_4786, v_4788, v_4790, v_4792, v_4794, v_4795, v_4796, v_4797, v_4799, e_4782, b_4785, b_4787, b_4789, b_4791, b_4793, b_4798, b_4800⟩ := hW_4776.at m_1 t_2
                have fe_4801 : fld (f_4773 a_0) 8 = (v_4788 : Int32).toInt := by rw [e_4782]; rfl
                have fe_4802 : fld (f_4773 a_0) 9 = (v_4790 : Int32).toInt := by rw [e_4782]; rfl
                have fe_4803 : fld (f_4773 a_0) 10 = (v_4792 : Int32).toInt := by rw [e_4782]; rfl
                have fe_4804 : fld (f_4773 a_0) 12 = (v_4795 : Int32).toInt := by rw [e_4782]; rfl
                rw [fe_4804, fe_4780, fe_4779, fe_4778, fe_4802, fe_4801, fe_4803] at x_4775
                clear fe_4778 fe_4779 fe_4780 fe_4801 fe_4802 fe_4803 fe_4804
                refine v_aload_n hC dX12_readLoss_262 rfl ?_
                refine v_get hC fl_X12_34 m_1 e_4782 rfl dX12_readLoss_263 ?_
                refine v_bipush hC dX12_readLoss_266 (v := 6) (by decide) ?_
                refine v_dup2 hC dX12_readLoss_268 rfl rfl ?_
                have l6_4805 : (g_4763 6).toInt = (g_f 6).toInt := congrArg Int32.toInt ag_4770.2.1
                refine v_iald hC m_22 hf_4781 (vp_in_iff.mpr (by decide)) (v := g_4763 6) rfl dX12_readLoss_269 ?_
                refine v_iconst hC dX12_readLoss_270 (v := 1) (by decide) ?_
                obtain ⟨v_4806, h_4807⟩ : ∃ v9 : Int32, (g_4763 6) + 1 = v9 := ⟨_, rfl⟩
                refine v_iadd hC dX12_readLoss_271 h_4807 ?_
                have h_4808 := add_v h_4807 (by first | omega | (simp only [Int32.lt_iff_toInt_lt, Int32.le_iff_toInt_le, Int32.reduceToInt, ← Int32.toInt_inj, true_and, and_true, or_true, true_or, false_or, or_false, false_and, and_false, not_true_eq_false, not_false_eq_true] <;> omega)) (by first | omega | (simp only [Int32.lt_iff_toInt_lt, Int32.le_iff_toInt_le, Int32.reduceToInt, ← Int32.toInt_inj, true_and, and_true, or_true, true_or, false_or, or_false, false_and, and_false, not_true_eq_false, not_false_eq_true] <;> omega))
                try simp only [Int32.reduceToInt] at h_4808
                refine v_iast hC m_22 hf_4781 (vp_in_iff.mpr (by decide)) dX12_readLoss_272 (fun f_4809 hf_4810 hk_4811 => ?_)
                have hW_4813 := hW_4776.up hf_4810 hk_4811 t_23 ⟨_, rfl, (ok_4765.up (i := 6) (by decide) (fun q1 q2 => absurd (And.intro q1 q2) (by decide)) (fun k9 q1 q2 q3 => by simp only [Int32.reduceToInt] at q3; omega))⟩
                obtain ⟨g_4812, hf_4810, ok_4814, eg_4815⟩ : ∃ g9, f_4809 (q 14) = aI E 2076 g9 ∧ FOK g9 ∧ g9 = upd g_4763 (6 : Int32).toNatClampNeg v_4806 := ⟨_, hf_4810, (ok_4765.up (i := 6) (by decide) (fun q1 q2 => absurd (And.intro q1 q2) (by decide)) (fun k9 q1 q2 q3 => by simp only [Int32.reduceToInt] at q3; omega)), rfl⟩
                have hf_4816 := (hk_4811 a_0 (ne_kd e_4782 hf_4781 rfl)).trans e_4782
                have fr_4817 := FR.w hk_4811 hf_4781 (k := 2176) rfl
                have ln6_4818 := FOK.n6 ag_4770.1 eg_4815
                have ln6_4818_t : (g_4812 6).toInt = v_4806.toInt := congrArg Int32.toInt ln6_4818.2
                have fe_4819 : fld (f_4809 a_0) 12 = (v_4795 : Int32).toInt := by rw [hf_4816]; rfl
                have fe_4824 : fld (f_4809 a_0) 8 = (v_4788 : Int32).toInt := by rw [hf_4816]; rfl
                have fe_4825 : fld (f_4809 a_0) 12 = (v_4795 : Int32).toInt := by rw [hf_4816]; rfl
                have fe_4830 : fld (f_4809 a_0) 20 = (v_4799 : Int32).toInt := by rw [hf_4816]; rfl
                exact hR _ _ _ _ _ _ dX12_readLoss_273 (Nat.le_of_ble_eq_true rfl) (Nat.le_of_ble_eq_true rfl) ⟨rfl, hW_4813, (((((((((((hF_3246.tr hF_3290).tr hF_4423).tr hF_4633).tr fr_4668).tr hF_4680).tr fr_4716).tr hF_4733).tr fr_4768).tr hF_4777).tr fr_4817).mono rfl), ⟨_, hf_4810, ln6_4818.1, (by omega), (by rw [fe_4819]; by_cases q9 : v_4795.toInt = 0; have gp_4820 := x_4775.resolve_left (fun h9 => h9 q9); clear x_4775; have gp_4821 := x_4731.resolve_left (fun h9 => h9 gp_4820.1); clear x_4731; have gp_4822 := x_4678.resolve_left (fun h9 => h9 gp_4821.1); clear x_4678; have gz_4823 := x_4631.symm.trans gp_4822.1; exact .inr (LO.fin hLO ag_4770 eg_4815 (by omega) (by omega) (fun q8 => by omega)); exact .inl q9)⟩, (by rw [fe_4824, fe_4825, mz_43, mz_44]; by_cases q9 : (v_4795 : Int32).toInt = 0; have gp_4826 := x_4775.resolve_left (fun h9 => h9 q9); clear x_4775; have gp_4827 := x_4731.resolve_left (fun h9 => h9 gp_4826.1); clear x_4731; have gp_4828 := x_4678.resolve_left (fun h9 => h9 gp_4827.1); clear x_4678; have gz_4829 := x_4631.symm.trans gp_4828.1; (right; omega); exact .inl q9), (by simp only [fe_4830, mz_45, true_and, and_true, or_true, true_or, false_or, or_false, false_and, and_false, not_true_eq_false, not_false_eq_true] <;> first | omega | (simp only [Int32.lt_iff_toInt_lt, Int32.le_iff_toInt_le, Int32.reduceToInt, ← Int32.toInt_inj, true_and, and_true, or_true, true_or, false_or, or_false, false_and, and_false, not_true_eq_false, not_false_eq_true] <;> omega))⟩
      · simp only [Int32.lt_iff_toInt_lt, Int32.le_iff_toInt_le, Int32.reduceToInt, ← Int32.toInt_inj] at h_3279
        have g0_3281 := gd_f x_3275 h_3279
        clear x_3275
        have fe_4831 : fld (f_3241 a_0) 12 = (v_3262 : Int32).toInt := by rw [e_3249]; rfl
        have fe_4832 : fld (f_3241 a_0) 8 = (v_3255 : Int32).toInt := by rw [e_3249]; rfl
        have fe_4833 : fld (f_3241 a_0) 12 = (v_3262 : Int32).toInt := by rw [e_3249]; rfl
        have fe_4834 : fld (f_3241 a_0) 20 = (v_3266 : Int32).toInt := by rw [e_3249]; rfl
        exact hR _ _ _ _ _ _ dX12_readLoss_87 (Nat.le_of_ble_eq_true rfl) (Nat.le_of_ble_eq_true rfl) ⟨rfl, hW_3245, (hF_3246.mono rfl), ⟨_, hf_3248, (AG.rf o_f).1, (by omega), (by rw [fe_4831]; left; omega)⟩, (by rw [fe_4832, fe_4833, mz_43, mz_44]; exact .inl g0_3281), (by simp only [fe_4834, mz_45, true_and, and_true, or_true, true_or, false_or, or_false, false_and, and_false, not_true_eq_false, not_false_eq_true] <;> first | omega | (simp only [Int32.lt_iff_toInt_lt, Int32.le_iff_toInt_le, Int32.reduceToInt, ← Int32.toInt_inj, true_and, and_true, or_true, true_or, false_or, or_false, false_and, and_false, not_true_eq_false, not_false_eq_true] <;> omega))⟩
  refine v_if_ne hC dX12_readLoss_21 (tgt := 44) (by decide) (fun h_58 => ?_) (fun h_58 => ?_)
  · simp only [Int32.lt_iff_toInt_lt, Int32.le_iff_toInt_le, Int32.reduceToInt, ← Int32.toInt_inj] at h_58
    refine v_iconst hC dX12_readLoss_44 (v := 1) (by decide) ?_
    refine v_goto hC dX12_readLoss_45 (tgt := 49) (by decide) ?_
    refine v_pick [0, 1] rfl ?_
    exact jn_73 1 (by decide)
  · simp only [Int32.lt_iff_toInt_lt, Int32.le_iff_toInt_le, Int32.reduceToInt, ← Int32.toInt_inj] at h_58
    refine v_aload_n hC dX12_readLoss_24 rfl ?_
    refine v_ldcwS hC sr_X12_289 dX12_readLoss_25 ?_
    refine v_vi hC (rest := []) m_1 e_24 rfl mi_X12_is ms_X12_is (p_X12_is hW k_0 (by decide)) mx_X12_is ml_X12_152 (by decide) rfl (cells1 := 0) (slots1 := 0) (by decide) (by decide) (Nat.le_of_ble_eq_true rfl) (Nat.le_of_ble_eq_true rfl) rfl (Nat.le_of_ble_eq_true rfl) dX12_readLoss_28 (fun r_4835 L_4836 f_4837 h_4838 => ?_)
    obtain ⟨rfl, rfl, rfl⟩ := h_4838
    refine v_if_ne hC dX12_readLoss_31 (tgt := 44) (by decide) (fun h_4841 => ?_) (fun h_4841 => ?_)
    · simp only [Int32.lt_iff_toInt_lt, Int32.le_iff_toInt_le, Int32.reduceToInt, ← Int32.toInt_inj] at h_4841
      refine v_iconst hC dX12_readLoss_44 (v := 1) (by decide) ?_
      refine v_goto hC dX12_readLoss_45 (tgt := 49) (by decide) ?_
      refine v_pick [0, 1] rfl ?_
      exact jn_73 1 (by decide)
    · simp only [Int32.lt_iff_toInt_lt, Int32.le_iff_toInt_le, Int32.reduceToInt, ← Int32.toInt_inj] at h_4841
      refine v_aload_n hC dX12_readLoss_34 rfl ?_
      refine v_ldcwS hC sr_X12_291 dX12_readLoss_35 ?_
      refine v_vi hC (rest := []) m_1 e_24 rfl mi_X12_is ms_X12_is (p_X12_is hW k_0 (by decide)) mx_X12_is ml_X12_152 (by decide) rfl (cells1 := 0) (slots1 := 0) (by decide) (by decide) (Nat.le_of_ble_eq_true rfl) (Nat.le_of_ble_eq_true rfl) rfl (Nat.le_of_ble_eq_true rfl) dX12_readLoss_38 (fun r_4842 L_4843 f_4844 h_4845 => ?_)
      obtain ⟨rfl, rfl, rfl⟩ := h_4845
      refine v_if_eq hC dX12_readLoss_41 (tgt := 48) (by decide) (fun h_4848 => ?_) (fun h_4848 => ?_)
      · simp only [Int32.lt_iff_toInt_lt, Int32.le_iff_toInt_le, Int32.reduceToInt, ← Int32.toInt_inj] at h_4848
        refine v_iconst hC dX12_readLoss_48 (v := 0) (by decide) ?_
        refine v_pick [0, 1] rfl ?_
        exact jn_73 0 (by decide)
      · simp only [Int32.lt_iff_toInt_lt, Int32.le_iff_toInt_le, Int32.reduceToInt, ← Int32.toInt_inj] at h_4848
        refine v_iconst hC dX12_readLoss_44 (v := 1) (by decide) ?_
        refine v_goto hC dX12_readLoss_45 (tgt := 49) (by decide) ?_
        refine v_pick [0, 1] rfl ?_
        exact jn_73 1 (by decide)
set_option maxRecDepth 100000 in
set_option maxHeartbeats 1500000 in
theorem p_X12_begin {l : Launch} {E : Ez} {L : List Nat} {f : Nat → va_E} {T : Nat → va_E → Prop} {a_0 : Nat} {q : Nat → Nat} (hW : WT T L f) (k_0 : isM T L E a_0 q) : CV l yX12_begin cX12_begin 1 0 0 0 E [.ref a_0] L f (fun L1 f1 => L = L1 ∧ WT T L f1 ∧ FR [12] f f1 ∧ fld (f1 a_0) 12 = 0 ∧ fld (f1 a_0) 8 = 0 ∧ fld (f1 a_0) 20 = fld (f a_0) 20) := by
  refine cv_of (by decide) (Nat.le_of_ble_eq_true rfl) (fun z hz hnm hC hR => ?_)
  have hC : Cx z E cX12_begin RX12 1 0 0 0 := hC
  subst hz
  show V z E 1 0 0 L f 0 [(0, .ref a_0)] []
  obtain ⟨m_1, t_2, nq_21, k_3, k_4, k_5, k_6, k_7, k_8, k_9, k_10, k_11, k_12, k_13, k_14, k_15, k_16, k_17, k_18, k_19, k_20⟩ := id k_0
  obtain ⟨v_23, v_24, v_26, v_28, v_30, v_32, v_34, v_35, v_36, v_37, v_39, e_22, b_25, b_27, b_29, b_31, b_33, b_38, b_40⟩ := hW.at m_1 t_2
  have mz_41 : fld (f a_0) 20 = v_39.toInt := by rw [e_22]; rfl
  refine v_aload_n hC dX12_begin_0 rfl ?_
  refine v_aload_n hC dX12_begin_1 rfl ?_
  refine v_get hC fl_X12_102 m_1 e_22 rfl dX12_begin_2 ?_
  refine v_put hC fl_X12_105 m_1 e_22 rfl rfl (Nat.le_of_ble_eq_true rfl) (fs' := [.int v_23, .ref (q 1), .ref (q 2), .ref (q 3), .ref (q 4), .int v_24, .ref (q 6), .int v_24, .int v_28, .int v_30, .int v_32, .int v_34, .int v_35, .int v_36, .ref (q 14), .ref (q 15), .ref (q 16), .int v_37, .ref (q 18), .ref (q 19), .int v_39, .ref (q 21), .ref (q 22), .ref (q 23), .ref (q 24), .ref (q 25), .ref (q 26), .ref (q 27), .ref (q 28)]) rfl dX12_begin_5 (fun f_42 hf_43 hk_44 => ?_)
  have hW_45 := hW.up hf_43 hk_44 t_2 ⟨v_23, v_24, v_24, v_28, v_30, v_32, v_34, v_35, v_36, v_37, v_39, rfl, (by first | omega | (simp only [Int32.lt_iff_toInt_lt, Int32.le_iff_toInt_le, Int32.reduceToInt, ← Int32.toInt_inj, true_and, and_true, or_true, true_or, false_or, or_false, false_and, and_false, not_true_eq_false, not_false_eq_true] <;> omega)), (by first | omega | (simp only [Int32.lt_iff_toInt_lt, Int32.le_iff_toInt_le, Int32.reduceToInt, ← Int32.toInt_inj, true_and, and_true, or_true, true_or, false_or, or_false, false_and, and_false, not_true_eq_false, not_false_eq_true] <;> omega)), (by first | omega | (simp only [Int32.lt_iff_toInt_lt, Int32.le_iff_toInt_le, Int32.reduceToInt, ← Int32.toInt_inj, true_and, and_true, or_true, true_or, false_or, or_false, false_and, and_false, not_true_eq_false, not_false_eq_true] <;> omega)), (by first | omega | (simp only [Int32.lt_iff_toInt_lt, Int32.le_iff_toInt_le, Int32.reduceToInt, ← Int32.toInt_inj, true_and, and_true, or_true, true_or, false_or, or_false, false_and, and_false, not_true_eq_false, not_false_eq_true] <;> omega)), (by first | omega | (simp only [Int32.lt_iff_toInt_lt, Int32.le_iff_toInt_le, Int32.reduceToInt, ← Int32.toInt_inj, true_and, and_true, or_true, true_or, false_or, or_false, false_and, and_false, not_true_eq_false, not_false_eq_true] <;> omega)), (by first | omega | (simp only [Int32.lt_iff_toInt_lt, Int32.le_iff_toInt_le, Int32.reduceToInt, ← Int32.toInt_inj, true_and, and_true, or_true, true_or, false_or, or_false, false_and, and_false, not_true_eq_false, not_false_eq_true] <;> omega)), (by first | omega | (simp only [Int32.lt_iff_toInt_lt, Int32.le_iff_toInt_le, Int32.reduceToInt, ← Int32.toInt_inj, true_and, and_true, or_true, true_or, false_or, or_false, false_and, and_false, not_true_eq_false, not_false_eq_true] <;> omega))⟩
  have fr_46 := FR.w hk_44 e_22 (k := 12) rfl
  refine v_aload_n hC dX12_begin_8 rfl ?_
  refine v_iconst hC dX12_begin_9 (v := 0) (by decide) ?_
  refine v_put hC fl_X12_102 m_1 hf_43 rfl rfl (Nat.le_of_ble_eq_true rfl) (fs' := [.int v_23, .ref (q 1), .ref (q 2), .ref (q 3), .ref (q 4), .int 0, .ref (q 6), .int v_24, .int v_28, .int v_30, .int v_32, .int v_34, .int v_35, .int v_36, .ref (q 14), .ref (q 15), .ref (q 16), .int v_37, .ref (q 18), .ref (q 19), .int v_39, .ref (q 21), .ref (q 22), .ref (q 23), .ref (q 24), .ref (q 25), .ref (q 26), .ref (q 27), .ref (q 28)]) rfl dX12_begin_10 (fun f_47 hf_48 hk_49 => ?_)
  have hW_50 := hW_45.up hf_48 hk_49 t_2 ⟨v_23, 0, v_24, v_28, v_30, v_32, v_34, v_35, v_36, v_37, v_39, rfl, (by decide), (by first | omega | (simp only [Int32.lt_iff_toInt_lt, Int32.le_iff_toInt_le, Int32.reduceToInt, ← Int32.toInt_inj, true_and, and_true, or_true, true_or, false_or, or_false, false_and, and_false, not_true_eq_false, not_false_eq_true] <;> omega)), (by first | omega | (simp only [Int32.lt_iff_toInt_lt, Int32.le_iff_toInt_le, Int32.reduceToInt, ← Int32.toInt_inj, true_and, and_true, or_true, true_or, false_or, or_false, false_and, and_false, not_true_eq_false, not_false_eq_true] <;> omega)), (by first | omega | (simp only [Int32.lt_iff_toInt_lt, Int32.le_iff_toInt_le, Int32.reduceToInt, ← Int32.toInt_inj, true_and, and_true, or_true, true_or, false_or, or_false, false_and, and_false, not_true_eq_false, not_false_eq_true] <;> omega)), (by first | omega | (simp only [Int32.lt_iff_toInt_lt, Int32.le_iff_toInt_le, Int32.reduceToInt, ← Int32.toInt_inj, true_and, and_true, or_true, true_or, false_or, or_false, false_and, and_false, not_true_eq_false, not_false_eq_true] <;> omega)), (by first | omega | (simp only [Int32.lt_iff_toInt_lt, Int32.le_iff_toInt_le, Int32.reduceToInt, ← Int32.toInt_inj, true_and, and_true, or_true, true_or, false_or, or_false, false_and, and_false, not_true_eq_false, not_false_eq_true] <;> omega)), (by first | omega | (simp only [Int32.lt_iff_toInt_lt, Int32.le_iff_toInt_le, Int32.reduceToInt, ← Int32.toInt_inj, true_and, and_true, or_true, true_or, false_or, or_false, false_and, and_false, not_true_eq_false, not_false_eq_true] <;> omega))⟩
  have fr_51 := FR.w hk_49 hf_43 (k := 12) rfl
  refine v_aload_n hC dX12_begin_13 rfl ?_
  refine v_iconst hC dX12_begin_14 (v := 0) (by decide) ?_
  refine v_put hC fl_X12_108 m_1 hf_48 rfl rfl (Nat.le_of_ble_eq_true rfl) (fs' := [.int v_23, .ref (q 1), .ref (q 2), .ref (q 3), .ref (q 4), .int 0, .ref (q 6), .int v_24, .int 0, .int v_30, .int v_32, .int v_34, .int v_35, .int v_36, .ref (q 14), .ref (q 15), .ref (q 16), .int v_37, .ref (q 18), .ref (q 19), .int v_39, .ref (q 21), .ref (q 22), .ref (q 23), .ref (q 24), .ref (q 25), .ref (q 26), .ref (q 27), .ref (q 28)]) rfl dX12_begin_15 (fun f_52 hf_53 hk_54 => ?_)
  have hW_55 := hW_50.up hf_53 hk_54 t_2 ⟨v_23, 0, v_24, 0, v_30, v_32, v_34, v_35, v_36, v_37, v_39, rfl, (by decide), (by first | omega | (simp only [Int32.lt_iff_toInt_lt, Int32.le_iff_toInt_le, Int32.reduceToInt, ← Int32.toInt_inj, true_and, and_true, or_true, true_or, false_or, or_false, false_and, and_false, not_true_eq_false, not_false_eq_true] <;> omega)), (by decide), (by first | omega | (simp only [Int32.lt_iff_toInt_lt, Int32.le_iff_toInt_le, Int32.reduceToInt, ← Int32.toInt_inj, true_and, and_true, or_true, true_or, false_or, or_false, false_and, and_false, not_true_eq_false, not_false_eq_true] <;> omega)), (by first | omega | (simp only [Int32.lt_iff_toInt_lt, Int32.le_iff_toInt_le, Int32.reduceToInt, ← Int32.toInt_inj, true_and, and_true, or_true, true_or, false_or, or_false, false_and, and_false, not_true_eq_false, not_false_eq_true] <;> omega)), (by first | omega | (simp only [Int32.lt_iff_toInt_lt, Int32.le_iff_toInt_le, Int32.reduceToInt, ← Int32.toInt_inj, true_and, and_true, or_true, true_or, false_or, or_false, false_and, and_false, not_true_eq_false, not_false_eq_true] <;> omega)), (by first | omega | (simp only [Int32.lt_iff_toInt_lt, Int32.le_iff_toInt_le, Int32.reduceToInt, ← Int32.toInt_inj, true_and, and_true, or_true, true_or, false_or, or_false, false_and, and_false, not_true_eq_false, not_false_eq_true] <;> omega))⟩
  have fr_56 := FR.w hk_54 hf_48 (k := 12) rfl
  refine v_aload_n hC dX12_begin_18 rfl ?_
  refine v_iconst hC dX12_begin_19 (v := 0) (by decide) ?_
  refine v_put hC fl_X12_111 m_1 hf_53 rfl rfl (Nat.le_of_ble_eq_true rfl) (fs' := [.int v_23, .ref (q 1), .ref (q 2), .ref (q 3), .ref (q 4), .int 0, .ref (q 6), .int v_24, .int 0, .int v_30, .int v_32, .int v_34, .int 0, .int v_36, .ref (q 14), .ref (q 15), .ref (q 16), .int v_37, .ref (q 18), .ref (q 19), .int v_39, .ref (q 21), .ref (q 22), .ref (q 23), .ref (q 24), .ref (q 25), .ref (q 26), .ref (q 27), .ref (q 28)]) rfl dX12_begin_20 (fun f_57 hf_58 hk_59 => ?_)
  have hW_60 := hW_55.up hf_58 hk_59 t_2 ⟨v_23, 0, v_24, 0, v_30, v_32, v_34, 0, v_36, v_37, v_39, rfl, (by decide), (by first | omega | (simp only [Int32.lt_iff_toInt_lt, Int32.le_iff_toInt_le, Int32.reduceToInt, ← Int32.toInt_inj, true_and, and_true, or_true, true_or, false_or, or_false, false_and, and_false, not_true_eq_false, not_false_eq_true] <;> omega)), (by decide), (by first | omega | (simp only [Int32.lt_iff_toInt_lt, Int32.le_iff_toInt_le, Int32.reduceToInt, ← Int32.toInt_inj, true_and, and_true, or_true, true_or, false_or, or_false, false_and, and_false, not_true_eq_false, not_false_eq_true] <;> omega)), (by first | omega | (simp only [Int32.lt_iff_toInt_lt, Int32.le_iff_toInt_le, Int32.reduceToInt, ← Int32.toInt_inj, true_and, and_true, or_true, true_or, false_or, or_false, false_and, and_false, not_true_eq_false, not_false_eq_true] <;> omega)), (by first | omega | (simp only [Int32.lt_iff_toInt_lt, Int32.le_iff_toInt_le, Int32.reduceToInt, ← Int32.toInt_inj, true_and, and_true, or_true, true_or, false_or, or_false, false_and, and_false, not_true_eq_false, not_false_eq_true] <;> omega)), (by first | omega | (simp only [Int32.lt_iff_toInt_lt, Int32.le_iff_toInt_le, Int32.reduceToInt, ← Int32.toInt_inj, true_and, and_true, or_true, true_or, false_or, or_false, false_and, and_false, not_true_eq_false, not_false_eq_true] <;> omega))⟩
  have fr_61 := FR.w hk_59 hf_53 (k := 12) rfl
  refine v_aload_n hC dX12_begin_23 rfl ?_
  refine v_iconst hC dX12_begin_24 (v := (-1)) (by decide) ?_
  refine v_put hC fl_X12_31 m_1 hf_58 rfl rfl (Nat.le_of_ble_eq_true rfl) (fs' := [.int v_23, .ref (q 1), .ref (q 2), .ref (q 3), .ref (q 4), .int 0, .ref (q 6), .int v_24, .int 0, .int v_30, .int v_32, .int v_34, .int 0, .int (-1), .ref (q 14), .ref (q 15), .ref (q 16), .int v_37, .ref (q 18), .ref (q 19), .int v_39, .ref (q 21), .ref (q 22), .ref (q 23), .ref (q 24), .ref (q 25), .ref (q 26), .ref (q 27), .ref (q 28)]) rfl dX12_begin_25 (fun f_62 hf_63 hk_64 => ?_)
  have hW_65 := hW_60.up hf_63 hk_64 t_2 ⟨v_23, 0, v_24, 0, v_30, v_32, v_34, 0, (-1), v_37, v_39, rfl, (by decide), (by first | omega | (simp only [Int32.lt_iff_toInt_lt, Int32.le_iff_toInt_le, Int32.reduceToInt, ← Int32.toInt_inj, true_and, and_true, or_true, true_or, false_or, or_false, false_and, and_false, not_true_eq_false, not_false_eq_true] <;> omega)), (by decide), (by first | omega | (simp only [Int32.lt_iff_toInt_lt, Int32.le_iff_toInt_le, Int32.reduceToInt, ← Int32.toInt_inj, true_and, and_true, or_true, true_or, false_or, or_false, false_and, and_false, not_true_eq_false, not_false_eq_true] <;> omega)), (by first | omega | (simp only [Int32.lt_iff_toInt_lt, Int32.le_iff_toInt_le, Int32.reduceToInt, ← Int32.toInt_inj, true_and, and_true, or_true, true_or, false_or, or_false, false_and, and_false, not_true_eq_false, not_false_eq_true] <;> omega)), (by first | omega | (simp only [Int32.lt_iff_toInt_lt, Int32.le_iff_toInt_le, Int32.reduceToInt, ← Int32.toInt_inj, true_and, and_true, or_true, true_or, false_or, or_false, false_and, and_false, not_true_eq_false, not_false_eq_true] <;> omega)), (by first | omega | (simp only [Int32.lt_iff_toInt_lt, Int32.le_iff_toInt_le, Int32.reduceToInt, ← Int32.toInt_inj, true_and, and_true, or_true, true_or, false_or, or_false, false_and, and_false, not_true_eq_false, not_false_eq_true] <;> omega))⟩
  have fr_66 := FR.w hk_64 hf_58 (k := 12) rfl
  have fe_67 : fld (f_62 a_0) 12 = (0 : Int32).toInt := by rw [hf_63]; rfl
  simp only [Int32.reduceToInt] at fe_67
  have fe_68 : fld (f_62 a_0) 8 = (0 : Int32).toInt := by rw [hf_63]; rfl
  simp only [Int32.reduceToInt] at fe_68
  have fe_69 : fld (f_62 a_0) 20 = (v_39 : Int32).toInt := by rw [hf_63]; rfl
  exact hR _ _ _ _ _ _ dX12_begin_28 (Nat.le_of_ble_eq_true rfl) (Nat.le_of_ble_eq_true rfl) ⟨rfl, hW_65, (((((fr_46.tr fr_51).tr fr_56).tr fr_61).tr fr_66).mono rfl), (by simp only [fe_67, true_and, and_true, or_true, true_or, false_or, or_false, false_and, and_false, not_true_eq_false, not_false_eq_true] <;> first | omega | (simp only [Int32.lt_iff_toInt_lt, Int32.le_iff_toInt_le, Int32.reduceToInt, ← Int32.toInt_inj, true_and, and_true, or_true, true_or, false_or, or_false, false_and, and_false, not_true_eq_false, not_false_eq_true] <;> omega)), (by simp only [fe_68, true_and, and_true, or_true, true_or, false_or, or_false, false_and, and_false, not_true_eq_false, not_false_eq_true] <;> first | omega | (simp only [Int32.lt_iff_toInt_lt, Int32.le_iff_toInt_le, Int32.reduceToInt, ← Int32.toInt_inj, true_and, and_true, or_true, true_or, false_or, or_false, false_and, and_false, not_true_eq_false, not_false_eq_true] <;> omega)), (by simp only [fe_69, mz_41, true_and, and_true, or_true, true_or, false_or, or_false, false_and, and_false, not_true_eq_false, not_false_eq_true] <;> first | omega | (simp only [Int32.lt_iff_toInt_lt, Int32.le_iff_toInt_le, Int32.reduceToInt, ← Int32.toInt_inj, true_and, and_true, or_true, true_or, false_or, or_false, false_and, and_false, not_true_eq_false, not_false_eq_true] <;> omega))⟩
set_option maxRecDepth 100000 in
set_option maxHeartbeats 1500000 in
theorem p_X12_losses {l : Launch} {E : Ez} {L : List Nat} {f : Nat → va_E} {T : Nat → va_E → Prop} {a_0 : Nat} {q : Nat → Nat} (hW : WT T L f) (k_0 : isM T L E a_0 q) : CI l yX12_losses cX12_losses 1 .int 9 0 0 E [.ref a_0] L f (fun r L1 f1 => L = L1 ∧ WT T L f1 ∧ FR [12, 2176] f f1) := by
  refine ci_of (by decide) (Nat.le_of_ble_eq_true rfl) (fun z hz hnm hC hR => ?_)
  have hC : Cx z E cX12_losses RX12 1 9 0 0 := hC
  subst hz
  show V z E 1 0 0 L f 0 [(0, .ref a_0)] []
  obtain ⟨m_1, t_2, nq_21, k_3, k_4, k_5, k_6, k_7, k_8, k_9, k_10, k_11, k_12, k_13, k_14, k_15, k_16, k_17, k_18, k_19, k_20⟩ := id k_0
  refine v_aload_n hC dX12_losses_0 rfl ?_
  obtain ⟨v_23, v_24, v_26, v_28, v_30, v_32, v_34, v_35, v_36, v_37, v_39, e_22, b_25, b_27, b_29, b_31, b_33, b_38, b_40⟩ := hW.at m_1 t_2
  refine v_vv hC (rest := []) m_1 e_22 rfl mi_X12_begin ms_X12_begin (p_X12_begin hW k_0) mx_X12_begin ml_X12_181 (by decide) rfl (cells1 := 0) (slots1 := 0) (by decide) (by decide) (Nat.le_of_ble_eq_true rfl) (Nat.le_of_ble_eq_true rfl) rfl (Nat.le_of_ble_eq_true rfl) dX12_losses_1 (fun L_42 f_43 h_44 => ?_)
  obtain ⟨rfl, hW_48, hF_49, x_45, x_46, x_47⟩ := h_44
  have fe_50 : fld (f a_0) 20 = (v_39 : Int32).toInt := by rw [e_22]; rfl
  obtain ⟨v_52, v_53, v_55, v_57, v_59, v_61, v_63, v_64, v_65, v_66, v_68, e_51, b_54, b_56, b_58, b_60, b_62, b_67, b_69⟩ := hW_48.at m_1 t_2
  have fe_70 : fld (f_43 a_0) 8 = (v_57 : Int32).toInt := by rw [e_51]; rfl
  have fe_71 : fld (f_43 a_0) 12 = (v_64 : Int32).toInt := by rw [e_51]; rfl
  have fe_72 : fld (f_43 a_0) 20 = (v_68 : Int32).toInt := by rw [e_51]; rfl
  rw [fe_71] at x_45
  rw [fe_70] at x_46
  rw [fe_72, fe_50] at x_47
  clear fe_50 fe_70 fe_71 fe_72
  refine v_aload_n hC dX12_losses_4 rfl ?_
  refine v_get hC fl_X12_34 m_1 e_51 rfl dX12_losses_5 ?_
  refine v_bipush hC dX12_losses_8 (v := 6) (by decide) ?_
  refine v_iconst hC dX12_losses_10 (v := 0) (by decide) ?_
  obtain ⟨m_73, t_74⟩ := id k_8
  obtain ⟨g_76, e_75, ok_77⟩ := hW_48.at m_73 t_74
  refine v_iast hC m_73 e_75 (vp_in_iff.mpr (by decide)) dX12_losses_11 (fun f_78 hf_79 hk_80 => ?_)
  have hW_82 := hW_48.up hf_79 hk_80 t_74 ⟨_, rfl, (ok_77.up (i := 6) (by decide) (fun q1 q2 => absurd (And.intro q1 q2) (by decide)) (fun k9 q1 q2 q3 => by simp only [Int32.reduceToInt] at q3; omega))⟩
  obtain ⟨g_81, hf_79, ok_83, eg_84⟩ : ∃ g9, f_78 (q 14) = aI E 2076 g9 ∧ FOK g9 ∧ g9 = upd g_76 (6 : Int32).toNatClampNeg 0 := ⟨_, hf_79, (ok_77.up (i := 6) (by decide) (fun q1 q2 => absurd (And.intro q1 q2) (by decide)) (fun k9 q1 q2 q3 => by simp only [Int32.reduceToInt] at q3; omega)), rfl⟩
  have hf_85 := (hk_80 a_0 (ne_kd e_51 e_75 rfl)).trans e_51
  have fr_86 := FR.w hk_80 e_75 (k := 2176) rfl
  have gz_87 : (g_81 6).toInt = 0 := by rw [eg_84]; rfl
  have lo_88 : LO g_81 := fun l9 h9 => absurd h9 (by omega)
  refine v_aload_n hC dX12_losses_12 rfl ?_
  refine v_vv hC (rest := []) m_1 hf_85 rfl mi_X12_advance ms_X12_advance (p_X12_advance hW_82 k_0) mx_X12_advance ml_X12_156 (by decide) rfl (cells1 := 0) (slots1 := 0) (by decide) (by decide) (Nat.le_of_ble_eq_true rfl) (Nat.le_of_ble_eq_true rfl) rfl (Nat.le_of_ble_eq_true rfl) dX12_losses_13 (fun L_90 f_91 h_92 => ?_)
  obtain ⟨rfl, hW_94, hF_95, -, -, x_93, -⟩ := h_92
  have fe_96 : fld (f_78 a_0) 12 = (v_64 : Int32).toInt := by rw [hf_85]; rfl
  have hf_97 := hF_95.at hf_79 rfl
  obtain ⟨v_99, v_100, v_102, v_104, v_106, v_108, v_110, v_111, v_112, v_113, v_115, e_98, b_101, b_103, b_105, b_107, b_109, b_114, b_116⟩ := hW_94.at m_1 t_2
  have fe_117 : fld (f_91 a_0) 12 = (v_111 : Int32).toInt := by rw [e_98]; rfl
  rw [fe_117, fe_96] at x_93
  clear fe_96 fe_117
  have lp_600 : ∀ (n_601 : Nat) (f_596 : Nat → va_E) (hW_597 : WT T L f_596) (hF_598 : FR [12, 2176] f_91 f_596)  (cv_599 : ∃ g9 : Nat → Int32, (f_596 (q 14)) = aI E 2076 g9 ∧ FOK g9 ∧ (0 ≤ (g9 6).toInt ∧ (g9 6).toInt ≤ 12) ∧ (¬ fld (f_596 a_0) 12 = 0 ∨ LO g9)) (hm_603 : 600 - fld (f_596 a_0) 8 < (n_601 : Int)), V z E 1 0 0 L f_596 16 [(0, .ref a_0)] [] := by
    intro n_601
    induction n_601 with
    | zero =>
      intro f_596 hW_597 hF_598 cv_599 hm_603
      obtain ⟨g_604, e_605, ok_606, bl_607, lo_608⟩ := cv_599
      obtain ⟨v_610, v_611, v_613, v_615, v_617, v_619, v_621, v_622, v_623, v_624, v_626, e_609, b_612, b_614, b_616, b_618, b_620, b_625, b_627⟩ := hW_597.at m_1 t_2
      have fe_628 : fld (f_596 a_0) 12 = (v_622 : Int32).toInt := by rw [e_609]; rfl
      rw [fe_628] at lo_608
      have h_629 : fld (f_596 a_0) 8 = (v_615 : Int32).toInt := by rw [e_609]; rfl
      rw [h_629] at hm_603
      exfalso; omega
    | succ n_601 ih_602 =>
      intro f_596 hW_597 hF_598 cv_599 hm_603
      obtain ⟨g_604, e_605, ok_606, bl_607, lo_608⟩ := cv_599
      obtain ⟨v_610, v_611, v_613, v_615, v_617, v_619, v_621, v_622, v_623, v_624, v_626, e_609, b_612, b_614, b_616, b_618, b_620, b_625, b_627⟩ := hW_597.at m_1 t_2
      have fe_628 : fld (f_596 a_0) 12 = (v_622 : Int32).toInt := by rw [e_609]; rfl
      rw [fe_628] at lo_608
      have h_629 : fld (f_596 a_0) 8 = (v_615 : Int32).toInt := by rw [e_609]; rfl
      rw [h_629] at hm_603
      refine v_aload_n hC dX12_losses_16 rfl ?_
      refine v_vi hC (rest := []) m_1 e_609 rfl mi_X12_good ms_X12_good (p_X12_good hW_597 k_0) mx_X12_good ml_X12_139 (by decide) rfl (cells1 := 0) (slots1 := 0) (by decide) (by decide) (Nat.le_of_ble_eq_true rfl) (Nat.le_of_ble_eq_true rfl) rfl (Nat.le_of_ble_eq_true rfl) dX12_losses_17 (fun r_630 L_631 f_632 h_633 => ?_)
      obtain ⟨rfl, rfl, b_634, x_635⟩ := h_633
      have fe_638 : fld (f_596 a_0) 12 = (v_622 : Int32).toInt := by rw [e_609]; rfl
      rw [fe_638] at x_635
      clear fe_638
      try simp only [Int32.reduceToInt, Int64.reduceToInt] at x_635
      refine v_if_eq hC dX12_losses_20 (tgt := 37) (by decide) (fun h_639 => ?_) (fun h_639 => ?_)
      · simp only [Int32.lt_iff_toInt_lt, Int32.le_iff_toInt_le, Int32.reduceToInt, ← Int32.toInt_inj] at h_639
        have g0_640 := gd_f x_635 h_639
        clear x_635
        clear x_93
        refine v_aload_n hC dX12_losses_37 rfl ?_
        refine v_vi hC (rest := []) m_1 e_609 rfl mi_X12_good ms_X12_good (p_X12_good hW_597 k_0) mx_X12_good ml_X12_139 (by decide) rfl (cells1 := 0) (slots1 := 0) (by decide) (by decide) (Nat.le_of_ble_eq_true rfl) (Nat.le_of_ble_eq_true rfl) rfl (Nat.le_of_ble_eq_true rfl) dX12_losses_38 (fun r_643 L_644 f_645 h_646 => ?_)
        obtain ⟨rfl, rfl, b_647, x_648⟩ := h_646
        have fe_651 : fld (f_596 a_0) 12 = (v_622 : Int32).toInt := by rw [e_609]; rfl
        rw [fe_651] at x_648
        clear fe_651
        try simp only [Int32.reduceToInt, Int64.reduceToInt] at x_648
        refine v_if_ne hC dX12_losses_41 (tgt := 47) (by decide) (fun h_652 => ?_) (fun h_652 => ?_)
        · simp only [Int32.lt_iff_toInt_lt, Int32.le_iff_toInt_le, Int32.reduceToInt, ← Int32.toInt_inj] at h_652
          have g0_653 := gd_t x_648 h_652
          clear x_648
          obtain ⟨m_655, t_656⟩ := id k_3
          obtain ⟨g_658, e_657, ok_659⟩ := hW_597.at m_655 t_656
          have b_660 := ok_659.r0
          have b_661 := ok_659.w0
          refine v_aload_n hC dX12_losses_47 rfl ?_
          refine v_get hC fl_X12_13 m_1 e_609 rfl dX12_losses_48 ?_
          refine v_bipush hC dX12_losses_51 (v := 6) (by decide) ?_
          refine v_aload_n hC dX12_losses_53 rfl ?_
          refine v_get hC fl_X12_34 m_1 e_609 rfl dX12_losses_54 ?_
          refine v_bipush hC dX12_losses_57 (v := 6) (by decide) ?_
          refine v_iald hC m_73 e_605 (vp_in_iff.mpr (by decide)) (v := g_604 6) rfl dX12_losses_59 ?_
          refine v_iast hC m_655 e_657 (vp_in_iff.mpr (by decide)) dX12_losses_60 (fun f_662 hf_663 hk_664 => ?_)
          have hf_665 := (hk_664 a_0 (ne_kd e_609 e_657 rfl)).trans e_609
          have hf_666 := (hk_664 (q 14) nq_21.symm).trans e_605
          refine v_aload_n hC dX12_losses_61 rfl ?_
          refine v_sipush hC dX12_losses_62 (v := 1012) (by decide) ?_
          refine v_sipush hC dX12_losses_65 (v := 1048) (by decide) ?_
          refine v_vv hC (rest := []) m_1 hf_665 rfl mi_X12_keeps ms_X12_keeps (p_X12_keeps k_0 hf_665 hf_663 hf_666 (by decide)) mx_X12_keeps ml_X12_197 (by decide) rfl (cells1 := 0) (slots1 := 0) (by decide) (by decide) (Nat.le_of_ble_eq_true rfl) (Nat.le_of_ble_eq_true rfl) rfl (Nat.le_of_ble_eq_true rfl) dX12_losses_68 (fun L_668 f_669 h_670 => ?_)
          obtain ⟨rfl, hf_671, hk_672⟩ := h_670
          have hf_673 := (hk_672 a_0 (ne_kd hf_665 hf_663 rfl)).trans hf_665
          have hf_674 := (hk_672 (q 14) nq_21.symm).trans hf_666
          have kr_675 : ∀ x9, x9 ≠ (q 1) → f_669 x9 = f_596 x9 := fun x9 hx9 => (hk_672 x9 hx9).trans (hk_664 x9 hx9)
          obtain ⟨g_678, e_679, ok_677, eg_680⟩ : ∃ g9, f_669 (q 1) = aI E 2076 g9 ∧ WOK g9 ∧ g9 = (va_cpy g_604 (upd g_658 6 (g_604 6)) (1012 : Int32).toNatClampNeg (1012 : Int32).toNatClampNeg ((1048 : Int32).toNatClampNeg - (1012 : Int32).toNatClampNeg)) := ⟨_, hf_671, (ok_659.losx (by omega) (lo_608.resolve_left (fun h9 => h9 g0_653))), rfl⟩
          have hW_676 := hW_597.up e_679 kr_675 t_656 ⟨_, rfl, ok_677⟩
          have fr_681 := FR.w kr_675 e_657 (k := 2176) rfl
          have b_682 := ok_677.r0
          have b_683 := ok_677.w0
          refine v_aload_n hC dX12_losses_71 rfl ?_
          refine v_get hC fl_X12_13 m_1 hf_673 rfl dX12_losses_72 ?_
          refine v_bipush hC dX12_losses_75 (v := 6) (by decide) ?_
          refine v_iald hC m_655 e_679 (vp_in_iff.mpr (by decide)) (v := g_678 6) rfl dX12_losses_77 ?_
          exact hR _ _ _ _ _ _ _ dX12_losses_78 rfl (Nat.le_of_ble_eq_true rfl) (Nat.le_of_ble_eq_true rfl) ⟨rfl, hW_676, (((((hF_49.tr fr_86).tr hF_95).tr hF_598).tr fr_681).mono rfl)⟩
        · simp only [Int32.lt_iff_toInt_lt, Int32.le_iff_toInt_le, Int32.reduceToInt, ← Int32.toInt_inj] at h_652
          have g0_654 := gd_f x_648 h_652
          clear x_648
          refine v_bipush hC dX12_losses_44 (v := (-4)) (by decide) ?_
          exact hR _ _ _ _ _ _ _ dX12_losses_46 rfl (Nat.le_of_ble_eq_true rfl) (Nat.le_of_ble_eq_true rfl) ⟨rfl, hW_597, ((((hF_49.tr fr_86).tr hF_95).tr hF_598).mono rfl)⟩
      · simp only [Int32.lt_iff_toInt_lt, Int32.le_iff_toInt_le, Int32.reduceToInt, ← Int32.toInt_inj] at h_639
        have g0_641 := gd_t x_635 h_639
        clear x_635
        have gz_642 := x_93.symm.trans g0_641
        refine v_aload_n hC dX12_losses_23 rfl ?_
        refine v_get hC fl_X12_120 m_1 e_609 rfl dX12_losses_24 ?_
        refine v_if_eq hC dX12_losses_27 (tgt := 37) (by decide) (fun h_684 => ?_) (fun h_684 => ?_)
        · simp only [Int32.lt_iff_toInt_lt, Int32.le_iff_toInt_le, Int32.reduceToInt, ← Int32.toInt_inj] at h_684
          refine v_aload_n hC dX12_losses_37 rfl ?_
          refine v_vi hC (rest := []) m_1 e_609 rfl mi_X12_good ms_X12_good (p_X12_good hW_597 k_0) mx_X12_good ml_X12_139 (by decide) rfl (cells1 := 0) (slots1 := 0) (by decide) (by decide) (Nat.le_of_ble_eq_true rfl) (Nat.le_of_ble_eq_true rfl) rfl (Nat.le_of_ble_eq_true rfl) dX12_losses_38 (fun r_685 L_686 f_687 h_688 => ?_)
          obtain ⟨rfl, rfl, b_689, x_690⟩ := h_688
          have fe_693 : fld (f_596 a_0) 12 = (v_622 : Int32).toInt := by rw [e_609]; rfl
          rw [fe_693] at x_690
          clear fe_693
          try simp only [Int32.reduceToInt, Int64.reduceToInt] at x_690
          refine v_if_ne hC dX12_losses_41 (tgt := 47) (by decide) (fun h_694 => ?_) (fun h_694 => ?_)
          · simp only [Int32.lt_iff_toInt_lt, Int32.le_iff_toInt_le, Int32.reduceToInt, ← Int32.toInt_inj] at h_694
            have g0_695 := gd_t x_690 h_694
            clear x_690
            obtain ⟨m_697, t_698⟩ := id k_3
            obtain ⟨g_700, e_699, ok_701⟩ := hW_597.at m_697 t_698
            have b_702 := ok_701.r0
            have b_703 := ok_701.w0
            refine v_aload_n hC dX12_losses_47 rfl ?_
            refine v_get hC fl_X12_13 m_1 e_609 rfl dX12_losses_48 ?_
            refine v_bipush hC dX12_losses_51 (v := 6) (by decide) ?_
            refine v_aload_n hC dX12_losses_53 rfl ?_
            refine v_get hC fl_X12_34 m_1 e_609 rfl dX12_losses_54 ?_
            refine v_bipush hC dX12_losses_57 (v := 6) (by decide) ?_
            refine v_iald hC m_73 e_605 (vp_in_iff.mpr (by decide)) (v := g_604 6) rfl dX12_losses_59 ?_
            refine v_iast hC m_697 e_699 (vp_in_iff.mpr (by decide)) dX12_losses_60 (fun f_704 hf_705 hk_706 => ?_)
            have hf_707 := (hk_706 a_0 (ne_kd e_609 e_699 rfl)).trans e_609
            have hf_708 := (hk_706 (q 14) nq_21.symm).trans e_605
            refine v_aload_n hC dX12_losses_61 rfl ?_
            refine v_sipush hC dX12_losses_62 (v := 1012) (by decide) ?_
            refine v_sipush hC dX12_losses_65 (v := 1048) (by decide) ?_
            refine v_vv hC (rest := []) m_1 hf_707 rfl mi_X12_keeps ms_X12_keeps (p_X12_keeps k_0 hf_707 hf_705 hf_708 (by decide)) mx_X12_keeps ml_X12_197 (by decide) rfl (cells1 := 0) (slots1 := 0) (by decide) (by decide) (Nat.le_of_ble_eq_true rfl) (Nat.le_of_ble_eq_true rfl) rfl (Nat.le_of_ble_eq_true rfl) dX12_losses_68 (fun L_710 f_711 h_712 => ?_)
            obtain ⟨rfl, hf_713, hk_714⟩ := h_712
            have hf_715 := (hk_714 a_0 (ne_kd hf_707 hf_705 rfl)).trans hf_707
            have hf_716 := (hk_714 (q 14) nq_21.symm).trans hf_708
            have kr_717 : ∀ x9, x9 ≠ (q 1) → f_711 x9 = f_596 x9 := fun x9 hx9 => (hk_714 x9 hx9).trans (hk_706 x9 hx9)
            obtain ⟨g_720, e_721, ok_719, eg_722⟩ : ∃ g9, f_711 (q 1) = aI E 2076 g9 ∧ WOK g9 ∧ g9 = (va_cpy g_604 (upd g_700 6 (g_604 6)) (1012 : Int32).toNatClampNeg (1012 : Int32).toNatClampNeg ((1048 : Int32).toNatClampNeg - (1012 : Int32).toNatClampNeg)) := ⟨_, hf_713, (ok_701.losx (by omega) (lo_608.resolve_left (fun h9 => h9 g0_695))), rfl⟩
            have hW_718 := hW_597.up e_721 kr_717 t_698 ⟨_, rfl, ok_719⟩
            have fr_723 := FR.w kr_717 e_699 (k := 2176) rfl
            have b_724 := ok_719.r0
            have b_725 := ok_719.w0
            refine v_aload_n hC dX12_losses_71 rfl ?_
            refine v_get hC fl_X12_13 m_1 hf_715 rfl dX12_losses_72 ?_
            refine v_bipush hC dX12_losses_75 (v := 6) (by decide) ?_
            refine v_iald hC m_697 e_721 (vp_in_iff.mpr (by decide)) (v := g_720 6) rfl dX12_losses_77 ?_
            exact hR _ _ _ _ _ _ _ dX12_losses_78 rfl (Nat.le_of_ble_eq_true rfl) (Nat.le_of_ble_eq_true rfl) ⟨rfl, hW_718, (((((hF_49.tr fr_86).tr hF_95).tr hF_598).tr fr_723).mono rfl)⟩
          · simp only [Int32.lt_iff_toInt_lt, Int32.le_iff_toInt_le, Int32.reduceToInt, ← Int32.toInt_inj] at h_694
            have g0_696 := gd_f x_690 h_694
            clear x_690
            refine v_bipush hC dX12_losses_44 (v := (-4)) (by decide) ?_
            exact hR _ _ _ _ _ _ _ dX12_losses_46 rfl (Nat.le_of_ble_eq_true rfl) (Nat.le_of_ble_eq_true rfl) ⟨rfl, hW_597, ((((hF_49.tr fr_86).tr hF_95).tr hF_598).mono rfl)⟩
        · simp only [Int32.lt_iff_toInt_lt, Int32.le_iff_toInt_le, Int32.reduceToInt, ← Int32.toInt_inj] at h_684
          refine v_aload_n hC dX12_losses_30 rfl ?_
          refine v_vv hC (rest := []) m_1 e_609 rfl mi_X12_readLoss ms_X12_readLoss (p_X12_readLoss hW_597 k_0 e_605 ok_606 (by first | omega | (simp only [Int32.lt_iff_toInt_lt, Int32.le_iff_toInt_le, Int32.reduceToInt, ← Int32.toInt_inj, true_and, and_true, or_true, true_or, false_or, or_false, false_and, and_false, not_true_eq_false, not_false_eq_true] <;> omega)) (lo_608.resolve_left (fun h9 => h9 g0_641))) mx_X12_readLoss ml_X12_298 (by decide) rfl (cells1 := 0) (slots1 := 0) (by decide) (by decide) (Nat.le_of_ble_eq_true rfl) (Nat.le_of_ble_eq_true rfl) rfl (Nat.le_of_ble_eq_true rfl) dX12_losses_31 (fun L_727 f_728 h_729 => ?_)
          obtain ⟨rfl, hW_733, hF_734, x_730, x_731, x_732⟩ := h_729
          have fe_735 : fld (f_596 a_0) 8 = (v_615 : Int32).toInt := by rw [e_609]; rfl
          have fe_736 : fld (f_596 a_0) 12 = (v_622 : Int32).toInt := by rw [e_609]; rfl
          have fe_737 : fld (f_596 a_0) 20 = (v_626 : Int32).toInt := by rw [e_609]; rfl
          obtain ⟨v_739, v_740, v_742, v_744, v_746, v_748, v_750, v_751, v_752, v_753, v_755, e_738, b_741, b_743, b_745, b_747, b_749, b_754, b_756⟩ := hW_733.at m_1 t_2
          have fe_757 : fld (f_728 a_0) 8 = (v_744 : Int32).toInt := by rw [e_738]; rfl
          have fe_758 : fld (f_728 a_0) 12 = (v_751 : Int32).toInt := by rw [e_738]; rfl
          have fe_759 : fld (f_728 a_0) 20 = (v_755 : Int32).toInt := by rw [e_738]; rfl
          rw [fe_758] at x_730
          rw [fe_758, fe_736, fe_735, fe_757] at x_731
          rw [fe_759, fe_737] at x_732
          clear fe_735 fe_736 fe_737 fe_757 fe_758 fe_759
          obtain ⟨g_760, e_761, ok_762, bl_763, lo_764⟩ := x_730
          have fe_765 : fld (f_728 a_0) 12 = (v_751 : Int32).toInt := by rw [e_738]; rfl
          rw [fe_765] at lo_764
          refine v_goto hC dX12_losses_34 (tgt := 16) (by decide) ?_
          refine v_pick [0] rfl ?_
          have fe_766 : fld (f_728 a_0) 12 = (v_751 : Int32).toInt := by rw [e_738]; rfl
          have h_767 : fld (f_728 a_0) 8 = (v_744 : Int32).toInt := by rw [e_738]; rfl
          exact ih_602 f_728 hW_733 ((hF_598.tr hF_734).mono rfl) ⟨_, e_761, ok_762, (by omega), (by rw [fe_766]; exact lo_764)⟩ (by rw [h_767]; omega)
  refine v_pick [0] rfl ?_
  have fe_768 : fld (f_91 a_0) 12 = (v_111 : Int32).toInt := by rw [e_98]; rfl
  have h_769 : fld (f_91 a_0) 8 = (v_104 : Int32).toInt := by rw [e_98]; rfl
  exact lp_600 602 f_91 hW_94 FR.rf ⟨_, hf_97, ok_83, (by omega), .inr lo_88⟩ (by rw [h_769]; omega)
