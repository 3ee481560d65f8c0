set_option maxRecDepth 100000 in
set_option maxHeartbeats 1500000 in
theorem p_X12_keeps {l : Launch} {E : Ez} {L : List Nat} {f : Nat → va_E} {T : Nat → va_E → Prop} {a_0 : Nat} {a_1 a_2 : Int32} {q : Nat → Nat} {g_w g_f : Nat → Int32} {u_0 u_5 u_7 u_8 u_9 u_10 u_11 u_12 u_13 u_17 u_20 : Int32} (k_0 : isM T L E a_0 q) (e_m : f a_0 = ob 12 [.int u_0, .ref (q 1), .ref (q 2), .ref (q 3), .ref (q 4), .int u_5, .ref (q 6), .int u_7, .int u_8, .int u_9, .int u_10, .int u_11, .int u_12, .int u_13, .ref (q 14), .ref (q 15), .ref (q 16), .int u_17, .ref (q 18), .ref (q 19), .int u_20, .ref (q 21), .ref (q 22), .ref (q 23), .ref (q 24), .ref (q 25), .ref (q 26), .ref (q 27), .ref (q 28)]) (e_w : f (q 1) = aI E 2076 g_w) (e_f : f (q 14) = aI E 2076 g_f) (g_1 : 0 ≤ a_1.toInt ∧ a_1.toInt ≤ a_2.toInt ∧ a_2.toInt ≤ 2076) : CV l yX12_keeps cX12_keeps 4 0 0 0 E [.ref a_0, .int a_1, .int a_2] L f (fun L1 f1 => L = L1 ∧ f1 (q 1) = aI E 2076 (va_cpy g_f g_w a_1.toNatClampNeg a_1.toNatClampNeg (a_2.toNatClampNeg - a_1.toNatClampNeg)) ∧ ∀ x9, x9 ≠ (q 1) → f1 x9 = f x9) := by
  refine cv_of (by decide) (Nat.le_of_ble_eq_true rfl) (fun z hz hnm hC hR => ?_)
  have hC : Cx z E cX12_keeps RX12 4 0 0 0 := hC
  subst hz
  show V z E 4 0 0 L f 0 [(0, .ref a_0), (1, .int a_1), (2, .int a_2)] []
  obtain ⟨m_1, t_2, nq_21, k_3, k_4, k_5, k_6, k_7, k_8, k_9, k_10, k_11, k_12, k_13, k_14, k_15, k_16, k_17, k_18, k_19, k_20⟩ := id k_0
  obtain ⟨m_22, t_23⟩ := id k_3
  obtain ⟨m_24, t_25⟩ := id k_8
  refine v_iload_n hC dX12_keeps_0 rfl ?_
  refine v_istore_n hC dX12_keeps_1 (by decide) (lv' := [(3, .int a_1), (0, .ref a_0), (1, .int a_1), (2, .int a_2)]) rfl ?_
  have lp_34 : ∀ (n_27 : Nat) (f_30 : Nat → va_E) (i_26 : Int32) (b_33 : (a_1 : Int32).toInt ≤ i_26.toInt ∧ i_26.toInt ≤ a_2.toInt) (eR_31 : f_30 (q 1) = aI E 2076 (va_cpy g_f g_w a_1.toNatClampNeg a_1.toNatClampNeg (i_26.toNatClampNeg - a_1.toNatClampNeg))) (kR_32 : ∀ x9, x9 ≠ (q 1) → f_30 x9 = f x9) (hm_29 : a_2.toInt - i_26.toInt < (n_27 : Int)), V z E 4 0 0 L f_30 2 [(3, .int i_26), (0, .ref a_0), (2, .int a_2)] [] := by
    intro n_27
    induction n_27 with
    | zero =>
      intro f_30 i_26 b_33 eR_31 kR_32 hm_29
      exfalso; omega
    | succ n_27 ih_28 =>
      intro f_30 i_26 b_33 eR_31 kR_32 hm_29
      have hf_35 := (kR_32 a_0 (ne_kd e_m e_w rfl)).trans e_m
      have hf_36 := (kR_32 (q 14) nq_21.symm).trans e_f
      refine v_iload_n hC dX12_keeps_2 rfl ?_
      refine v_iload_n hC dX12_keeps_3 rfl ?_
      refine v_icmp_ge hC dX12_keeps_4 (tgt := 25) (by decide) (fun h_37 => ?_) (fun h_37 => ?_)
      · simp only [Int32.lt_iff_toInt_lt, Int32.le_iff_toInt_le, Int32.reduceToInt, ← Int32.toInt_inj] at h_37
        exact hR _ _ _ _ _ _ dX12_keeps_25 (Nat.le_of_ble_eq_true rfl) (Nat.le_of_ble_eq_true rfl) ⟨rfl, eR_31.trans (congrArg (aI E 2076) (by rw [show (i_26 : Int32).toNatClampNeg = a_2.toNatClampNeg from by rw [clamp_t, clamp_t]; omega])), kR_32⟩
      · simp only [Int32.lt_iff_toInt_lt, Int32.le_iff_toInt_le, Int32.reduceToInt, ← Int32.toInt_inj] at h_37
        refine v_aload_n hC dX12_keeps_7 rfl ?_
        refine v_get hC fl_X12_13 m_1 hf_35 rfl dX12_keeps_8 ?_
        refine v_iload_n hC dX12_keeps_11 rfl ?_
        refine v_aload_n hC dX12_keeps_12 rfl ?_
        refine v_get hC fl_X12_34 m_1 hf_35 rfl dX12_keeps_13 ?_
        refine v_iload_n hC dX12_keeps_16 rfl ?_
        obtain ⟨v_38, h_39⟩ : ∃ v9 : Int32, g_f (i_26 : Int32).toNatClampNeg = v9 := ⟨_, rfl⟩
        refine v_iald hC m_24 hf_36 (vp_in_iff.mpr (by first | omega | (simp only [Int32.lt_iff_toInt_lt, Int32.le_iff_toInt_le, Int32.reduceToInt, ← Int32.toInt_inj, true_and, and_true, or_true, true_or, false_or, or_false, false_and, and_false, not_true_eq_false, not_false_eq_true] <;> omega))) h_39 dX12_keeps_17 ?_
        refine v_iast hC m_22 eR_31 (vp_in_iff.mpr (by first | omega | (simp only [Int32.lt_iff_toInt_lt, Int32.le_iff_toInt_le, Int32.reduceToInt, ← Int32.toInt_inj, true_and, and_true, or_true, true_or, false_or, or_false, false_and, and_false, not_true_eq_false, not_false_eq_true] <;> omega))) dX12_keeps_18 (fun f_40 hf_41 hk_42 => ?_)
        have hf_43 := (hk_42 a_0 (ne_kd hf_35 eR_31 rfl)).trans hf_35
        have hf_44 := (hk_42 (q 14) nq_21.symm).trans hf_36
        have kr_45 : ∀ x9, x9 ≠ (q 1) → f_40 x9 = f x9 := fun x9 hx9 => (hk_42 x9 hx9).trans (kR_32 x9 hx9)
        obtain ⟨v_46, h_47⟩ : ∃ v9 : Int32, i_26 + Int32.ofInt 1 = v9 := ⟨_, rfl⟩
        have h_48 := add_v (b := 1) h_47 (by first | omega | (simp only [Int32.lt_iff_toInt_lt, Int32.le_iff_toInt_le, Int32.reduceToInt, ← Int32.toInt_inj, true_and, and_true, or_true, true_or, false_or, or_false, false_and, and_false, not_true_eq_false, not_false_eq_true] <;> omega)) (by first | omega | (simp only [Int32.lt_iff_toInt_lt, Int32.le_iff_toInt_le, Int32.reduceToInt, ← Int32.toInt_inj, true_and, and_true, or_true, true_or, false_or, or_false, false_and, and_false, not_true_eq_false, not_false_eq_true] <;> omega))
        simp only [Int32.reduceToInt] at h_48
        refine v_iinc hC dX12_keeps_19 (k := 0) rfl (v := v_46) h_47 (by decide) (lv' := [(3, .int v_46), (0, .ref a_0), (2, .int a_2)]) rfl ?_
        refine v_goto hC dX12_keeps_22 (tgt := 2) (by decide) ?_
        refine v_pick [0, 1, 2] rfl ?_
        have kx_49 : ∀ x9, x9 ≠ (q 1) → f_40 x9 = f x9 := fun x9 hx9 => (hk_42 x9 hx9).trans (kR_32 x9 hx9)
        exact ih_28 f_40 v_46 (by omega) (hf_41.trans (congrArg (aI E 2076) ((cpy_step (by rw [clamp_t, clamp_t]; omega) (by rw [← h_39, show a_1.toNatClampNeg + (i_26.toNatClampNeg - a_1.toNatClampNeg) = i_26.toNatClampNeg from by rw [clamp_t, clamp_t]; omega])).trans (by rw [show i_26.toNatClampNeg - a_1.toNatClampNeg + 1 = v_46.toNatClampNeg - a_1.toNatClampNeg from by rw [clamp_t, clamp_t, clamp_t]; omega])))) kx_49 (by omega)
  refine v_pick [0, 1, 3] rfl ?_
  exact lp_34 7000 f a_1 (by first | omega | decide) (e_w.trans (congrArg (aI E 2076) (by simp only [Nat.sub_self, cpy_nil, clamp_0]))) (fun _ _ => rfl) (by first | omega | (simp only [Int32.reduceToInt]; omega))
set_option maxRecDepth 100000 in
set_option maxHeartbeats 1500000 in
theorem p_X12_clears {l : Launch} {E : Ez} {L : List Nat} {f : Nat → va_E} {T : Nat → va_E → Prop} {a_0 : Nat} {a_1 a_2 : Int32} {q : Nat → Nat} {g_f : Nat → Int32} {u_0 u_5 u_7 u_8 u_9 u_10 u_11 u_12 u_13 u_17 u_20 : Int32} (k_0 : isM T L E a_0 q) (e_m : f a_0 = ob 12 [.int u_0, .ref (q 1), .ref (q 2), .ref (q 3), .ref (q 4), .int u_5, .ref (q 6), .int u_7, .int u_8, .int u_9, .int u_10, .int u_11, .int u_12, .int u_13, .ref (q 14), .ref (q 15), .ref (q 16), .int u_17, .ref (q 18), .ref (q 19), .int u_20, .ref (q 21), .ref (q 22), .ref (q 23), .ref (q 24), .ref (q 25), .ref (q 26), .ref (q 27), .ref (q 28)]) (e_f : f (q 14) = aI E 2076 g_f) (g_1 : 0 ≤ a_1.toInt ∧ a_1.toInt ≤ a_2.toInt ∧ a_2.toInt ≤ 2076) : CV l yX12_clears cX12_clears 4 0 0 0 E [.ref a_0, .int a_1, .int a_2] L f (fun L1 f1 => L = L1 ∧ f1 (q 14) = aI E 2076 (va_cpy (fun _ => 0) g_f a_1.toNatClampNeg a_1.toNatClampNeg (a_2.toNatClampNeg - a_1.toNatClampNeg)) ∧ ∀ x9, x9 ≠ (q 14) → f1 x9 = f x9) := by
  refine cv_of (by decide) (Nat.le_of_ble_eq_true rfl) (fun z hz hnm hC hR => ?_)
  have hC : Cx z E cX12_clears RX12 4 0 0 0 := hC
  subst hz
  show V z E 4 0 0 L f 0 [(0, .ref a_0), (1, .int a_1), (2, .int a_2)] []
  obtain ⟨m_1, t_2, nq_21, k_3, k_4, k_5, k_6, k_7, k_8, k_9, k_10, k_11, k_12, k_13, k_14, k_15, k_16, k_17, k_18, k_19, k_20⟩ := id k_0
  obtain ⟨m_22, t_23⟩ := id k_3
  obtain ⟨m_24, t_25⟩ := id k_8
  refine v_iload_n hC dX12_clears_0 rfl ?_
  refine v_istore_n hC dX12_clears_1 (by decide) (lv' := [(3, .int a_1), (0, .ref a_0), (1, .int a_1), (2, .int a_2)]) rfl ?_
  have lp_34 : ∀ (n_27 : Nat) (f_30 : Nat → va_E) (i_26 : Int32) (b_33 : (a_1 : Int32).toInt ≤ i_26.toInt ∧ i_26.toInt ≤ a_2.toInt) (eR_31 : f_30 (q 14) = aI E 2076 (va_cpy (fun _ => 0) g_f a_1.toNatClampNeg a_1.toNatClampNeg (i_26.toNatClampNeg - a_1.toNatClampNeg))) (kR_32 : ∀ x9, x9 ≠ (q 14) → f_30 x9 = f x9) (hm_29 : a_2.toInt - i_26.toInt < (n_27 : Int)), V z E 4 0 0 L f_30 2 [(3, .int i_26), (0, .ref a_0), (2, .int a_2)] [] := by
    intro n_27
    induction n_27 with
    | zero =>
      intro f_30 i_26 b_33 eR_31 kR_32 hm_29
      exfalso; omega
    | succ n_27 ih_28 =>
      intro f_30 i_26 b_33 eR_31 kR_32 hm_29
      have hf_35 := (kR_32 a_0 (ne_kd e_m e_f rfl)).trans e_m
      refine v_iload_n hC dX12_clears_2 rfl ?_
      refine v_iload_n hC dX12_clears_3 rfl ?_
      refine v_icmp_ge hC dX12_clears_4 (tgt := 20) (by decide) (fun h_36 => ?_) (fun h_36 => ?_)
      · simp only [Int32.lt_iff_toInt_lt, Int32.le_iff_toInt_le, Int32.reduceToInt, ← Int32.toInt_inj] at h_36
        exact hR _ _ _ _ _ _ dX12_clears_20 (Nat.le_of_ble_eq_true rfl) (Nat.le_of_ble_eq_true rfl) ⟨rfl, eR_31.trans (congrArg (aI E 2076) (by rw [show (i_26 : Int32).toNatClampNeg = a_2.toNatClampNeg from by rw [clamp_t, clamp_t]; omega])), kR_32⟩
      · simp only [Int32.lt_iff_toInt_lt, Int32.le_iff_toInt_le, Int32.reduceToInt, ← Int32.toInt_inj] at h_36
        refine v_aload_n hC dX12_clears_7 rfl ?_
        refine v_get hC fl_X12_34 m_1 hf_35 rfl dX12_clears_8 ?_
        refine v_iload_n hC dX12_clears_11 rfl ?_
        refine v_iconst hC dX12_clears_12 (v := 0) (by decide) ?_
        refine v_iast hC m_24 eR_31 (vp_in_iff.mpr (by first | omega | (simp only [Int32.lt_iff_toInt_lt, Int32.le_iff_toInt_le, Int32.reduceToInt, ← Int32.toInt_inj, true_and, and_true, or_true, true_or, false_or, or_false, false_and, and_false, not_true_eq_false, not_false_eq_true] <;> omega))) dX12_clears_13 (fun f_37 hf_38 hk_39 => ?_)
        have hf_40 := (hk_39 a_0 (ne_kd hf_35 eR_31 rfl)).trans hf_35
        have kr_41 : ∀ x9, x9 ≠ (q 14) → f_37 x9 = f x9 := fun x9 hx9 => (hk_39 x9 hx9).trans (kR_32 x9 hx9)
        obtain ⟨v_42, h_43⟩ : ∃ v9 : Int32, i_26 + Int32.ofInt 1 = v9 := ⟨_, rfl⟩
        have h_44 := add_v (b := 1) h_43 (by first | omega | (simp only [Int32.lt_iff_toInt_lt, Int32.le_iff_toInt_le, Int32.reduceToInt, ← Int32.toInt_inj, true_and, and_true, or_true, true_or, false_or, or_false, false_and, and_false, not_true_eq_false, not_false_eq_true] <;> omega)) (by first | omega | (simp only [Int32.lt_iff_toInt_lt, Int32.le_iff_toInt_le, Int32.reduceToInt, ← Int32.toInt_inj, true_and, and_true, or_true, true_or, false_or, or_false, false_and, and_false, not_true_eq_false, not_false_eq_true] <;> omega))
        simp only [Int32.reduceToInt] at h_44
        refine v_iinc hC dX12_clears_14 (k := 0) rfl (v := v_42) h_43 (by decide) (lv' := [(3, .int v_42), (0, .ref a_0), (2, .int a_2)]) rfl ?_
        refine v_goto hC dX12_clears_17 (tgt := 2) (by decide) ?_
        refine v_pick [0, 1, 2] rfl ?_
        have kx_45 : ∀ x9, x9 ≠ (q 14) → f_37 x9 = f x9 := fun x9 hx9 => (hk_39 x9 hx9).trans (kR_32 x9 hx9)
        exact ih_28 f_37 v_42 (by omega) (hf_38.trans (congrArg (aI E 2076) ((cpy_step (by rw [clamp_t, clamp_t]; omega) rfl).trans (by rw [show i_26.toNatClampNeg - a_1.toNatClampNeg + 1 = v_42.toNatClampNeg - a_1.toNatClampNeg from by rw [clamp_t, clamp_t, clamp_t]; omega])))) kx_45 (by omega)
  refine v_pick [0, 1, 3] rfl ?_
  exact lp_34 7000 f a_1 (by first | omega | decide) (e_f.trans (congrArg (aI E 2076) (by simp only [Nat.sub_self, cpy_nil, clamp_0]))) (fun _ _ => rfl) (by first | omega | (simp only [Int32.reduceToInt]; omega))
set_option maxRecDepth 100000 in
set_option maxHeartbeats 1500000 in
theorem p_X12_good {l : Launch} {E : Ez} {L : List Nat} {f : Nat → va_E} {T : Nat → va_E → Prop} {a_0 : Nat} {q : Nat → Nat} (hW : WT T L f) (k_0 : isM T L E a_0 q) : CI l yX12_good cX12_good 1 .boolean 0 0 0 E [.ref a_0] L f (fun r L1 f1 => L = L1 ∧ f = f1 ∧ (0 ≤ r.toInt ∧ r.toInt ≤ 1) ∧ ((r.toInt = 1 ∧ fld (f a_0) 12 = 0) ∨ (r.toInt = 0 ∧ ¬ fld (f a_0) 12 = 0))) := by
  refine ci_of (by decide) (Nat.le_of_ble_eq_true rfl) (fun z hz hnm hC hR => ?_)
  have hC : Cx z E cX12_good RX12 1 0 0 0 := hC
  subst hz
  show V z E 1 0 0 L f 0 [(0, .ref a_0)] []
  obtain ⟨m_1, t_2, nq_21, k_3, k_4, k_5, k_6, k_7, k_8, k_9, k_10, k_11, k_12, k_13, k_14, k_15, k_16, k_17, k_18, k_19, k_20⟩ := id k_0
  obtain ⟨v_23, v_24, v_26, v_28, v_30, v_32, v_34, v_35, v_36, v_37, v_39, e_22, b_25, b_27, b_29, b_31, b_33, b_38, b_40⟩ := hW.at m_1 t_2
  have mz_41 : fld (f a_0) 12 = v_35.toInt := by rw [e_22]; rfl
  refine v_aload_n hC dX12_good_0 rfl ?_
  refine v_get hC fl_X12_111 m_1 e_22 rfl dX12_good_1 ?_
  refine v_if_ne hC dX12_good_4 (tgt := 11) (by decide) (fun h_42 => ?_) (fun h_42 => ?_)
  · simp only [Int32.lt_iff_toInt_lt, Int32.le_iff_toInt_le, Int32.reduceToInt, ← Int32.toInt_inj] at h_42
    refine v_iconst hC dX12_good_11 (v := 0) (by decide) ?_
    exact hR _ _ _ _ _ _ _ dX12_good_12 rfl (Nat.le_of_ble_eq_true rfl) (Nat.le_of_ble_eq_true rfl) ⟨rfl, rfl, (by decide), (by simp only [mz_41, true_and, and_true, or_true, true_or, false_or, or_false, false_and, and_false, not_true_eq_false, not_false_eq_true] <;> first | omega | (simp only [Int32.lt_iff_toInt_lt, Int32.le_iff_toInt_le, Int32.reduceToInt, ← Int32.toInt_inj, true_and, and_true, or_true, true_or, false_or, or_false, false_and, and_false, not_true_eq_false, not_false_eq_true] <;> omega))⟩
  · simp only [Int32.lt_iff_toInt_lt, Int32.le_iff_toInt_le, Int32.reduceToInt, ← Int32.toInt_inj] at h_42
    refine v_iconst hC dX12_good_7 (v := 1) (by decide) ?_
    refine v_goto hC dX12_good_8 (tgt := 12) (by decide) ?_
    exact hR _ _ _ _ _ _ _ dX12_good_12 rfl (Nat.le_of_ble_eq_true rfl) (Nat.le_of_ble_eq_true rfl) ⟨rfl, rfl, (by decide), (by simp only [mz_41, true_and, and_true, or_true, true_or, false_or, or_false, false_and, and_false, not_true_eq_false, not_false_eq_true] <;> first | omega | (simp only [Int32.lt_iff_toInt_lt, Int32.le_iff_toInt_le, Int32.reduceToInt, ← Int32.toInt_inj, true_and, and_true, or_true, true_or, false_or, or_false, false_and, and_false, not_true_eq_false, not_false_eq_true] <;> omega))⟩
set_option maxRecDepth 100000 in
set_option maxHeartbeats 1500000 in
theorem p_J0_coder_7d493 {l : Launch} {E : Ez} {L : List Nat} {f : Nat → va_E} {T : Nat → va_E → Prop} {a_0 : Nat} (hW : WT T L f) (ha_0 : a_0 < 77) : CI l yJ0_coder_7d493 cJ0_coder_7d493 1 .byte 0 0 0 E [.ref (eK E a_0)] L f (fun r L1 f1 => L = L1 ∧ f = f1 ∧ (0 ≤ r.toInt ∧ r.toInt ≤ 0) ∧ narrow .byte (.int r) = .int r) := by
  refine ci_of (by decide) (Nat.le_of_ble_eq_true rfl) (fun z hz hnm hC hR => ?_)
  have hC : Cx z E cJ0_coder_7d493 RJ0 1 0 0 0 := hC
  subst hz
  show V z E 1 0 0 L f 0 [(0, .ref (eK E a_0))] []
  refine v_getCS hC sf_J0_38 dJ0_coder_7d493_0 ?_
  refine v_if_eq_f hC dJ0_coder_7d493_3 (tgt := 13) (by decide) (by decide) ?_
  refine v_aload_n hC dJ0_coder_7d493_6 rfl ?_
  refine v_getSc hC ha_0 sf_J0_15 dJ0_coder_7d493_7 ?_
  refine v_goto hC dJ0_coder_7d493_10 (tgt := 14) (by decide) ?_
  exact hR _ _ _ _ _ _ _ dJ0_coder_7d493_14 rfl (Nat.le_of_ble_eq_true rfl) (Nat.le_of_ble_eq_true rfl) ⟨rfl, rfl, (by decide), rfl⟩
set_option maxRecDepth 100000 in
set_option maxHeartbeats 1500000 in
theorem p_J0_length_8abf5 {l : Launch} {E : Ez} {L : List Nat} {f : Nat → va_E} {T : Nat → va_E → Prop} {a_0 : Nat} (hW : WT T L f) (ha_0 : a_0 < 77) : CI l yJ0_length_8abf5 cJ0_length_8abf5 1 .int 1 0 0 E [.ref (eK E a_0)] L f (fun r L1 f1 => L = L1 ∧ f = f1 ∧ (0 ≤ r.toInt ∧ r.toInt ≤ 40) ∧ r.toInt = ((bytStr.getD a_0 []).length : Int)) := by
  refine ci_of (by decide) (Nat.le_of_ble_eq_true rfl) (fun z hz hnm hC hR => ?_)
  have hC : Cx z E cJ0_length_8abf5 RJ0 1 1 0 0 := hC
  subst hz
  show V z E 1 0 0 L f 0 [(0, .ref (eK E a_0))] []
  refine v_aload_n hC dJ0_length_8abf5_0 rfl ?_
  refine v_getSv hC ha_0 sf_J0_9 dJ0_length_8abf5_1 ?_
  obtain ⟨v_1, h_2⟩ : ∃ v9 : Int32, nI (bytStr.getD a_0 []).length = v9 := ⟨_, rfl⟩
  refine v_alenS hC ha_0 dJ0_length_8abf5_4 ?_
  have b_3 := len_v ha_0
  rw [h_2] at b_3 ⊢
  refine v_aload_n hC dJ0_length_8abf5_5 rfl ?_
  refine v_viS hC (rest := [.int v_1]) ha_0 rfl mi_J0_coder_7d493 ms_J0_coder_7d493 (p_J0_coder_7d493 hW ha_0) mx_J0_coder_7d493 ml_J0_335 (by decide) rfl (cells1 := 0) (slots1 := 0) (by decide) (by decide) (Nat.le_of_ble_eq_true rfl) (Nat.le_of_ble_eq_true rfl) rfl (Nat.le_of_ble_eq_true rfl) dJ0_length_8abf5_6 (fun r_4 L_5 f_6 h_7 => ?_)
  obtain ⟨rfl, rfl, b_8, nr_9⟩ := h_7
  obtain rfl : r_4 = 0 := Int32.toInt_inj.mp (by simp only [Int32.reduceToInt]; omega)
  refine v_ishr hC dJ0_length_8abf5_9 (sb_shr0 _) ?_
  exact hR _ _ _ _ _ _ _ dJ0_length_8abf5_10 rfl (Nat.le_of_ble_eq_true rfl) (Nat.le_of_ble_eq_true rfl) ⟨rfl, rfl, (by first | omega | (simp only [Int32.lt_iff_toInt_lt, Int32.le_iff_toInt_le, Int32.reduceToInt, ← Int32.toInt_inj, true_and, and_true, or_true, true_or, false_or, or_false, false_and, and_false, not_true_eq_false, not_false_eq_true] <;> omega)), (by first | omega | (simp only [Int32.lt_iff_toInt_lt, Int32.le_iff_toInt_le, Int32.reduceToInt, ← Int32.toInt_inj, true_and, and_true, or_true, true_or, false_or, or_false, false_and, and_false, not_true_eq_false, not_false_eq_true] <;> omega))⟩
set_option maxRecDepth 100000 in
set_option maxHeartbeats 1500000 in
theorem p_J0_isLatin1_aae02 {l : Launch} {E : Ez} {L : List Nat} {f : Nat → va_E} {T : Nat → va_E → Prop} {a_0 : Nat} (hW : WT T L f) (ha_0 : a_0 < 77) : CI l yJ0_isLatin1_aae02 cJ0_isLatin1_aae02 1 .boolean 0 0 0 E [.ref (eK E a_0)] L f (fun r L1 f1 => L = L1 ∧ f = f1 ∧ (1 ≤ r.toInt ∧ r.toInt ≤ 1)) := by
  refine ci_of (by decide) (Nat.le_of_ble_eq_true rfl) (fun z hz hnm hC hR => ?_)
  have hC : Cx z E cJ0_isLatin1_aae02 RJ0 1 0 0 0 := hC
  subst hz
  show V z E 1 0 0 L f 0 [(0, .ref (eK E a_0))] []
  refine v_getCS hC sf_J0_38 dJ0_isLatin1_aae02_0 ?_
  refine v_if_eq_f hC dJ0_isLatin1_aae02_3 (tgt := 17) (by decide) (by decide) ?_
  refine v_aload_n hC dJ0_isLatin1_aae02_6 rfl ?_
  refine v_getSc hC ha_0 sf_J0_15 dJ0_isLatin1_aae02_7 ?_
  refine v_if_ne_f hC dJ0_isLatin1_aae02_10 (tgt := 17) (by decide) (by decide) ?_
  refine v_iconst hC dJ0_isLatin1_aae02_13 (v := 1) (by decide) ?_
  refine v_goto hC dJ0_isLatin1_aae02_14 (tgt := 18) (by decide) ?_
  exact hR _ _ _ _ _ _ _ dJ0_isLatin1_aae02_18 rfl (Nat.le_of_ble_eq_true rfl) (Nat.le_of_ble_eq_true rfl) ⟨rfl, rfl, (by decide)⟩
set_option maxRecDepth 100000 in
set_option maxHeartbeats 1500000 in
theorem p_J3_checkIndex_8e157 {l : Launch} {E : Ez} {L : List Nat} {f : Nat → va_E} {T : Nat → va_E → Prop} {a_0 : Int32} {a_1 : Int32} (hW : WT T L f) (hlen : 0 ≤ a_0.toInt ∧ a_0.toInt < a_1.toInt) : CI l yJ3_checkIndex_8e157 cJ3_checkIndex_8e157 3 .int 0 0 0 E [.int a_0, .int a_1, .null] L f (fun r L1 f1 => L = L1 ∧ f = f1) := by
  refine ci_of (by decide) (Nat.le_of_ble_eq_true rfl) (fun z hz hnm hC hR => ?_)
  have hC : Cx z E cJ3_checkIndex_8e157 RJ3 3 0 0 0 := hC
  subst hz
  show V z E 3 0 0 L f 0 [(0, .int a_0), (1, .int a_1), (2, .null)] []
  refine v_iload_n hC dJ3_checkIndex_8e157_0 rfl ?_
  refine v_if_lt_f hC dJ3_checkIndex_8e157_1 (tgt := 9) (by decide) (by first | omega | (simp only [Int32.lt_iff_toInt_lt, Int32.le_iff_toInt_le, Int32.reduceToInt, ← Int32.toInt_inj, true_and, and_true, or_true, true_or, false_or, or_false, false_and, and_false, not_true_eq_false, not_false_eq_true] <;> omega)) ?_
  refine v_iload_n hC dJ3_checkIndex_8e157_4 rfl ?_
  refine v_iload_n hC dJ3_checkIndex_8e157_5 rfl ?_
  refine v_icmp_lt_t hC dJ3_checkIndex_8e157_6 (tgt := 16) (by decide) (by first | omega | (simp only [Int32.lt_iff_toInt_lt, Int32.le_iff_toInt_le, Int32.reduceToInt, ← Int32.toInt_inj, true_and, and_true, or_true, true_or, false_or, or_false, false_and, and_false, not_true_eq_false, not_false_eq_true] <;> omega)) ?_
  refine v_iload_n hC dJ3_checkIndex_8e157_16 rfl ?_
  exact hR _ _ _ _ _ _ _ dJ3_checkIndex_8e157_17 rfl (Nat.le_of_ble_eq_true rfl) (Nat.le_of_ble_eq_true rfl) ⟨rfl, rfl⟩
set_option maxRecDepth 100000 in
set_option maxHeartbeats 1500000 in
theorem p_J3_checkIndex_8e157_7 {l : Launch} {E : Ez} {L : List Nat} {f : Nat → va_E} {T : Nat → va_E → Prop} {a_0 : Int32} {a_1 : Int32} {a_2 : Nat} (hW : WT T L f) (hlen : 0 ≤ a_0.toInt ∧ a_0.toInt < a_1.toInt) : CI l yJ3_checkIndex_8e157 cJ3_checkIndex_8e157 3 .int 0 0 0 E [.int a_0, .int a_1, .ref a_2] L f (fun r L1 f1 => L = L1 ∧ f = f1) := by
  refine ci_of (by decide) (Nat.le_of_ble_eq_true rfl) (fun z hz hnm hC hR => ?_)
  have hC : Cx z E cJ3_checkIndex_8e157 RJ3 3 0 0 0 := hC
  subst hz
  show V z E 3 0 0 L f 0 [(0, .int a_0), (1, .int a_1), (2, .ref a_2)] []
  refine v_iload_n hC dJ3_checkIndex_8e157_0 rfl ?_
  refine v_if_lt_f hC dJ3_checkIndex_8e157_1 (tgt := 9) (by decide) (by first | omega | (simp only [Int32.lt_iff_toInt_lt, Int32.le_iff_toInt_le, Int32.reduceToInt, ← Int32.toInt_inj, true_and, and_true, or_true, true_or, false_or, or_false, false_and, and_false, not_true_eq_false, not_false_eq_true] <;> omega)) ?_
  refine v_iload_n hC dJ3_checkIndex_8e157_4 rfl ?_
  refine v_iload_n hC dJ3_checkIndex_8e157_5 rfl ?_
  refine v_icmp_lt_t hC dJ3_checkIndex_8e157_6 (tgt := 16) (by decide) (by first | omega | (simp only [Int32.lt_iff_toInt_lt, Int32.le_iff_toInt_le, Int32.reduceToInt, ← Int32.toInt_inj, true_and, and_true, or_true, true_or, false_or, or_false, false_and, and_false, not_true_eq_false, not_false_eq_true] <;> omega)) ?_
  refine v_iload_n hC dJ3_checkIndex_8e157_16 rfl ?_
  exact hR _ _ _ _ _ _ _ dJ3_checkIndex_8e157_17 rfl (Nat.le_of_ble_eq_true rfl) (Nat.le_of_ble_eq_true rfl) ⟨rfl, rfl⟩
set_option maxRecDepth 100000 in
set_option maxHeartbeats 1500000 in
theorem p_J0_checkIndex_df160 {l : Launch} {E : Ez} {L : List Nat} {f : Nat → va_E} {T : Nat → va_E → Prop} {a_0 : Int32} {a_1 : Int32} (hW : WT T L f) (hlen : 0 ≤ a_0.toInt ∧ a_0.toInt < a_1.toInt) : CV l yJ0_checkIndex_df160 cJ0_checkIndex_df160 2 1 0 0 E [.int a_0, .int a_1] L f (fun L1 f1 => L = L1 ∧ f = f1) := by
  refine cv_of (by decide) (Nat.le_of_ble_eq_true rfl) (fun z hz hnm hC hR => ?_)
  have hC : Cx z E cJ0_checkIndex_df160 RJ0 2 1 0 0 := hC
  subst hz
  show V z E 2 0 0 L f 0 [(0, .int a_0), (1, .int a_1)] []
  refine v_iload_n hC dJ0_checkIndex_df160_0 rfl ?_
  refine v_iload_n hC dJ0_checkIndex_df160_1 rfl ?_
  refine v_getSF hC sf_J0_1053 dJ0_checkIndex_df160_2 ?_ (fun o_1 => ?_)
  · refine v_si hC (rest := []) mt_J3_checkIndex_8e157 (p_J3_checkIndex_8e157 hW (by first | omega | (simp only [Int32.lt_iff_toInt_lt, Int32.le_iff_toInt_le, Int32.reduceToInt, ← Int32.toInt_inj, true_and, and_true, or_true, true_or, false_or, or_false, false_and, and_false, not_true_eq_false, not_false_eq_true] <;> omega))) mx_J3_checkIndex_8e157 ml_J0_1059 (by decide) rfl (cells1 := 0) (slots1 := 0) (by decide) (by decide) (Nat.le_of_ble_eq_true rfl) (Nat.le_of_ble_eq_true rfl) rfl (Nat.le_of_ble_eq_true rfl) dJ0_checkIndex_df160_5 (fun r_2 L_3 f_4 h_5 => ?_)
    obtain ⟨rfl, rfl⟩ := h_5
    refine v_pop hC dJ0_checkIndex_df160_8 rfl ?_
    exact hR _ _ _ _ _ _ dJ0_checkIndex_df160_9 (Nat.le_of_ble_eq_true rfl) (Nat.le_of_ble_eq_true rfl) ⟨rfl, rfl⟩
  · refine v_si hC (rest := []) mt_J3_checkIndex_8e157 (p_J3_checkIndex_8e157_7 hW (by first | omega | (simp only [Int32.lt_iff_toInt_lt, Int32.le_iff_toInt_le, Int32.reduceToInt, ← Int32.toInt_inj, true_and, and_true, or_true, true_or, false_or, or_false, false_and, and_false, not_true_eq_false, not_false_eq_true] <;> omega))) mx_J3_checkIndex_8e157 ml_J0_1059 (by decide) rfl (cells1 := 0) (slots1 := 0) (by decide) (by decide) (Nat.le_of_ble_eq_true rfl) (Nat.le_of_ble_eq_true rfl) rfl (Nat.le_of_ble_eq_true rfl) dJ0_checkIndex_df160_5 (fun r_8 L_9 f_10 h_11 => ?_)
    obtain ⟨rfl, rfl⟩ := h_11
    refine v_pop hC dJ0_checkIndex_df160_8 rfl ?_
    exact hR _ _ _ _ _ _ dJ0_checkIndex_df160_9 (Nat.le_of_ble_eq_true rfl) (Nat.le_of_ble_eq_true rfl) ⟨rfl, rfl⟩
set_option maxRecDepth 100000 in
set_option maxHeartbeats 1500000 in
theorem p_J1_charAt_3b067 {l : Launch} {E : Ez} {L : List Nat} {f : Nat → va_E} {T : Nat → va_E → Prop} {a_0 : Nat} {a_1 : Int32} (hW : WT T L f) (ha_0 : a_0 < 77) (hlen : 0 ≤ a_1.toInt ∧ a_1.toInt < ((bytStr.getD a_0 []).length : Int)) : CI l yJ1_charAt_3b067 cJ1_charAt_3b067 2 .char 2 0 0 E [.ref (eV E a_0), .int a_1] L f (fun r L1 f1 => L = L1 ∧ f = f1 ∧ r = (chv a_0 a_1) ∧ narrow .char (.int r) = .int r) := by
  refine ci_of (by decide) (Nat.le_of_ble_eq_true rfl) (fun z hz hnm hC hR => ?_)
  have hC : Cx z E cJ1_charAt_3b067 RJ1 2 2 0 0 := hC
  subst hz
  show V z E 2 0 0 L f 0 [(0, .ref (eV E a_0)), (1, .int a_1)] []
  refine v_iload_n hC dJ1_charAt_3b067_0 rfl ?_
  refine v_aload_n hC dJ1_charAt_3b067_1 rfl ?_
  obtain ⟨v_1, h_2⟩ : ∃ v9 : Int32, nI (bytStr.getD a_0 []).length = v9 := ⟨_, rfl⟩
  refine v_alenS hC ha_0 dJ1_charAt_3b067_2 ?_
  have b_3 := len_v ha_0
  rw [h_2] at b_3 ⊢
  refine v_sv hC (rest := []) mt_J0_checkIndex_df160 (p_J0_checkIndex_df160 hW (by first | omega | (simp only [Int32.lt_iff_toInt_lt, Int32.le_iff_toInt_le, Int32.reduceToInt, ← Int32.toInt_inj, true_and, and_true, or_true, true_or, false_or, or_false, false_and, and_false, not_true_eq_false, not_false_eq_true] <;> omega))) mx_J0_checkIndex_df160 ml_J1_9 (by decide) rfl (cells1 := 0) (slots1 := 0) (by decide) (by decide) (Nat.le_of_ble_eq_true rfl) (Nat.le_of_ble_eq_true rfl) rfl (Nat.le_of_ble_eq_true rfl) dJ1_charAt_3b067_3 (fun L_5 f_6 h_7 => ?_)
  obtain ⟨rfl, rfl⟩ := h_7
  refine v_aload_n hC dJ1_charAt_3b067_6 rfl ?_
  refine v_iload_n hC dJ1_charAt_3b067_7 rfl ?_
  obtain ⟨v_10, h_11⟩ : ∃ v9 : Int32, (bytStr.getD a_0 []).getD (a_1 : Int32).toNatClampNeg 0 = v9 := ⟨_, rfl⟩
  refine v_baldS hC ha_0 (vp_in_iff.mpr (by first | omega | (simp only [Int32.lt_iff_toInt_lt, Int32.le_iff_toInt_le, Int32.reduceToInt, ← Int32.toInt_inj, true_and, and_true, or_true, true_or, false_or, or_false, false_and, and_false, not_true_eq_false, not_false_eq_true] <;> omega))) h_11 dJ1_charAt_3b067_8 ?_
  refine v_sipush hC dJ1_charAt_3b067_9 (v := 255) (by decide) ?_
  obtain ⟨v_12, h_13⟩ : ∃ v9 : Int32, v_10 &&& 255 = v9 := ⟨_, rfl⟩
  refine v_iand hC dJ1_charAt_3b067_12 h_13 ?_
  have h_14 := and_v h_13 (by decide)
  try simp only [Int32.reduceToInt] at h_14
  obtain ⟨v_15, h_16⟩ : ∃ v9 : Int32, (v_12.toUInt32 % 65536).toInt32 = v9 := ⟨_, rfl⟩
  refine v_i2c hC dJ1_charAt_3b067_13 h_16 ?_
  exact hR _ _ _ _ _ _ _ dJ1_charAt_3b067_14 (by rw [← h_16]; exact pk_nc _) (Nat.le_of_ble_eq_true rfl) (Nat.le_of_ble_eq_true rfl) ⟨rfl, rfl, (by rw [← h_16, ← h_13, ← h_11]; rfl), (by rw [← h_16]; exact pk_nc _)⟩
set_option maxRecDepth 100000 in
set_option maxHeartbeats 1500000 in
theorem p_J0_charAt_5068e {l : Launch} {E : Ez} {L : List Nat} {f : Nat → va_E} {T : Nat → va_E → Prop} {a_0 : Nat} {a_1 : Int32} (hW : WT T L f) (ha_0 : a_0 < 77) (hlen : 0 ≤ a_1.toInt ∧ a_1.toInt < ((bytStr.getD a_0 []).length : Int)) : CI l yJ0_charAt_5068e cJ0_charAt_5068e 2 .char 3 0 0 E [.ref (eK E a_0), .int a_1] L f (fun r L1 f1 => L = L1 ∧ f = f1 ∧ r = (chv a_0 a_1) ∧ narrow .char (.int r) = .int r) := by
  refine ci_of (by decide) (Nat.le_of_ble_eq_true rfl) (fun z hz hnm hC hR => ?_)
  have hC : Cx z E cJ0_charAt_5068e RJ0 2 3 0 0 := hC
  subst hz
  show V z E 2 0 0 L f 0 [(0, .ref (eK E a_0)), (1, .int a_1)] []
  refine v_aload_n hC dJ0_charAt_5068e_0 rfl ?_
  refine v_viS hC (rest := []) ha_0 rfl mi_J0_isLatin1_aae02 ms_J0_isLatin1_aae02 (p_J0_isLatin1_aae02 hW ha_0) mx_J0_isLatin1_aae02 ml_J0_492 (by decide) rfl (cells1 := 0) (slots1 := 0) (by decide) (by decide) (Nat.le_of_ble_eq_true rfl) (Nat.le_of_ble_eq_true rfl) rfl (Nat.le_of_ble_eq_true rfl) dJ0_charAt_5068e_1 (fun r_1 L_2 f_3 h_4 => ?_)
  obtain ⟨rfl, rfl, b_5⟩ := h_4
  obtain rfl : r_1 = 1 := Int32.toInt_inj.mp (by simp only [Int32.reduceToInt]; omega)
  refine v_if_eq_f hC dJ0_charAt_5068e_4 (tgt := 16) (by decide) (by decide) ?_
  refine v_aload_n hC dJ0_charAt_5068e_7 rfl ?_
  refine v_getSv hC ha_0 sf_J0_9 dJ0_charAt_5068e_8 ?_
  refine v_iload_n hC dJ0_charAt_5068e_11 rfl ?_
  refine v_si hC (rest := []) mt_J1_charAt_3b067 (p_J1_charAt_3b067 hW ha_0 (by first | omega | (simp only [Int32.lt_iff_toInt_lt, Int32.le_iff_toInt_le, Int32.reduceToInt, ← Int32.toInt_inj, true_and, and_true, or_true, true_or, false_or, or_false, false_and, and_false, not_true_eq_false, not_false_eq_true] <;> omega))) mx_J1_charAt_3b067 ml_J0_495 (by decide) rfl (cells1 := 0) (slots1 := 0) (by decide) (by decide) (Nat.le_of_ble_eq_true rfl) (Nat.le_of_ble_eq_true rfl) rfl (Nat.le_of_ble_eq_true rfl) dJ0_charAt_5068e_12 (fun r_8 L_9 f_10 h_11 => ?_)
  obtain ⟨rfl, rfl, rfl, nr_12⟩ := h_11
  exact hR _ _ _ _ _ _ _ dJ0_charAt_5068e_15 nr_12 (Nat.le_of_ble_eq_true rfl) (Nat.le_of_ble_eq_true rfl) ⟨rfl, rfl, rfl, nr_12⟩
set_option maxRecDepth 100000 in
set_option maxHeartbeats 1500000 in
theorem p_X12_is {l : Launch} {E : Ez} {L : List Nat} {f : Nat → va_E} {T : Nat → va_E → Prop} {a_0 : Nat} {a_1 : Nat} {q : Nat → Nat} (hW : WT T L f) (k_0 : isM T L E a_0 q) (ha_1 : a_1 < 77) : CI l yX12_is cX12_is 4 .boolean 4 0 0 E [.ref a_0, .ref (eK E a_1)] L f (fun r L1 f1 => L = L1 ∧ f = f1 ∧ r = (iw (f a_0) (f (q 4)) a_1)) := by
  refine ci_of (by decide) (Nat.le_of_ble_eq_true rfl) (fun z hz hnm hC hR => ?_)
  have hC : Cx z E cX12_is RX12 4 4 0 0 := hC
  subst hz
  show V z E 4 0 0 L f 0 [(0, .ref a_0), (1, .ref (eK E a_1))] []
  obtain ⟨m_1, t_2, nq_21, k_3, k_4, k_5, k_6, k_7, k_8, k_9, k_10, k_11, k_12, k_13, k_14, k_15, k_16, k_17, k_18, k_19, k_20⟩ := id k_0
  refine v_aload_n hC dX12_is_0 rfl ?_
  obtain ⟨v_23, v_24, v_26, v_28, v_30, v_32, v_34, v_35, v_36, v_37, v_39, e_22, b_25, b_27, b_29, b_31, b_33, b_38, b_40⟩ := hW.at m_1 t_2
  refine v_vi hC (rest := []) m_1 e_22 rfl mi_X12_good ms_X12_good (p_X12_good hW k_0) mx_X12_good ml_X12_139 (by decide) rfl (cells1 := 0) (slots1 := 0) (by decide) (by decide) (Nat.le_of_ble_eq_true rfl) (Nat.le_of_ble_eq_true rfl) rfl (Nat.le_of_ble_eq_true rfl) dX12_is_1 (fun r_41 L_42 f_43 h_44 => ?_)
  obtain ⟨rfl, rfl, b_45, x_46⟩ := h_44
  have fe_49 : fld (f a_0) 12 = (v_35 : Int32).toInt := by rw [e_22]; rfl
  rw [fe_49] at x_46
  clear fe_49
  try simp only [Int32.reduceToInt, Int64.reduceToInt] at x_46
  refine v_if_eq hC dX12_is_4 (tgt := 35) (by decide) (fun h_50 => ?_) (fun h_50 => ?_)
  · simp only [Int32.lt_iff_toInt_lt, Int32.le_iff_toInt_le, Int32.reduceToInt, ← Int32.toInt_inj] at h_50
    refine v_iconst hC dX12_is_35 (v := 0) (by decide) ?_
    refine v_istore_n hC dX12_is_36 (by decide) (lv' := [(2, .int 0), (0, .ref a_0), (1, .ref (eK E a_1))]) rfl ?_
    refine v_iconst hC dX12_is_37 (v := 0) (by decide) ?_
    refine v_istore_n hC dX12_is_38 (by decide) (lv' := [(3, .int 0), (2, .int 0), (0, .ref a_0), (1, .ref (eK E a_1))]) rfl ?_
    have lp_193 : ∀ (n_194 : Nat) (i_188 : Int32) (b_190 : (0 ≤ i_188.toInt ∧ i_188.toInt ≤ 40)) (i_189 : Int32) (b_191 : (0 ≤ i_189.toInt ∧ i_189.toInt ≤ 1)) (cv_192 : IWI (f a_0) (f (q 4)) a_1 i_189 i_188) (hm_196 : 40 - i_188.toInt < (n_194 : Int)), V z E 4 0 0 L f 39 [(3, .int i_188), (2, .int i_189), (0, .ref a_0), (1, .ref (eK E a_1))] [] := by
      intro n_194
      induction n_194 with
      | zero =>
        intro i_188 b_190 i_189 b_191 cv_192 hm_196
        have bs_197 := cv_192.bs
        have fe_198 : fld (f a_0) 8 = (v_28 : Int32).toInt := by rw [e_22]; rfl
        have fe_199 : fld (f a_0) 9 = (v_30 : Int32).toInt := by rw [e_22]; rfl
        have fe_200 : fld (f a_0) 10 = (v_32 : Int32).toInt := by rw [e_22]; rfl
        have fe_201 : fld (f a_0) 12 = (v_35 : Int32).toInt := by rw [e_22]; rfl
        rw [fe_198, fe_199, fe_200, fe_201] at bs_197
        exfalso; omega
      | succ n_194 ih_195 =>
        intro i_188 b_190 i_189 b_191 cv_192 hm_196
        have bs_197 := cv_192.bs
        have fe_198 : fld (f a_0) 8 = (v_28 : Int32).toInt := by rw [e_22]; rfl
        have fe_199 : fld (f a_0) 9 = (v_30 : Int32).toInt := by rw [e_22]; rfl
        have fe_200 : fld (f a_0) 10 = (v_32 : Int32).toInt := by rw [e_22]; rfl
        have fe_201 : fld (f a_0) 12 = (v_35 : Int32).toInt := by rw [e_22]; rfl
        rw [fe_198, fe_199, fe_200, fe_201] at bs_197
        refine v_iload_n hC dX12_is_39 rfl ?_
        refine v_aload_n hC dX12_is_40 rfl ?_
        refine v_viS hC (rest := [.int i_188]) ha_1 rfl mi_J0_length_8abf5 ms_J0_length_8abf5 (p_J0_length_8abf5 hW ha_1) mx_J0_length_8abf5 ml_X12_143 (by decide) rfl (cells1 := 0) (slots1 := 0) (by decide) (by decide) (Nat.le_of_ble_eq_true rfl) (Nat.le_of_ble_eq_true rfl) rfl (Nat.le_of_ble_eq_true rfl) dX12_is_41 (fun r_202 L_203 f_204 h_205 => ?_)
        obtain ⟨rfl, rfl, b_206, x_207⟩ := h_205
        try simp only [Int32.reduceToInt, Int64.reduceToInt] at x_207
        refine v_icmp_ge hC dX12_is_44 (tgt := 82) (by decide) (fun h_210 => ?_) (fun h_210 => ?_)
        · simp only [Int32.lt_iff_toInt_lt, Int32.le_iff_toInt_le, Int32.reduceToInt, ← Int32.toInt_inj] at h_210
          refine v_iload_n hC dX12_is_82 rfl ?_
          exact hR _ _ _ _ _ _ _ dX12_is_83 (nar01 (by first | omega | (simp only [Int32.lt_iff_toInt_lt, Int32.le_iff_toInt_le, Int32.reduceToInt, ← Int32.toInt_inj, true_and, and_true, or_true, true_or, false_or, or_false, false_and, and_false, not_true_eq_false, not_false_eq_true] <;> omega))) (Nat.le_of_ble_eq_true rfl) (Nat.le_of_ble_eq_true rfl) ⟨rfl, rfl, (cv_192.fin (by first | (left; omega) | (right; omega)))⟩
        · simp only [Int32.lt_iff_toInt_lt, Int32.le_iff_toInt_le, Int32.reduceToInt, ← Int32.toInt_inj] at h_210
          refine v_iload_n hC dX12_is_47 rfl ?_
          refine v_if_eq hC dX12_is_48 (tgt := 82) (by decide) (fun h_211 => ?_) (fun h_211 => ?_)
          · simp only [Int32.lt_iff_toInt_lt, Int32.le_iff_toInt_le, Int32.reduceToInt, ← Int32.toInt_inj] at h_211
            refine v_iload_n hC dX12_is_82 rfl ?_
            exact hR _ _ _ _ _ _ _ dX12_is_83 (nar01 (by first | omega | (simp only [Int32.lt_iff_toInt_lt, Int32.le_iff_toInt_le, Int32.reduceToInt, ← Int32.toInt_inj, true_and, and_true, or_true, true_or, false_or, or_false, false_and, and_false, not_true_eq_false, not_false_eq_true] <;> omega))) (Nat.le_of_ble_eq_true rfl) (Nat.le_of_ble_eq_true rfl) ⟨rfl, rfl, (cv_192.fin (by first | (left; omega) | (right; omega)))⟩
          · simp only [Int32.lt_iff_toInt_lt, Int32.le_iff_toInt_le, Int32.reduceToInt, ← Int32.toInt_inj] at h_211
            refine v_aload_n hC dX12_is_51 rfl ?_
            refine v_get hC fl_X12_24 m_1 e_22 rfl dX12_is_52 ?_
            refine v_aload_n hC dX12_is_55 rfl ?_
            refine v_get hC fl_X12_117 m_1 e_22 rfl dX12_is_56 ?_
            refine v_iload_n hC dX12_is_59 rfl ?_
            obtain ⟨v_212, h_213⟩ : ∃ v9 : Int32, v_30 + i_188 = v9 := ⟨_, rfl⟩
            refine v_iadd hC dX12_is_60 h_213 ?_
            have h_214 := add_v h_213 (by first | omega | (simp only [Int32.lt_iff_toInt_lt, Int32.le_iff_toInt_le, Int32.reduceToInt, ← Int32.toInt_inj, true_and, and_true, or_true, true_or, false_or, or_false, false_and, and_false, not_true_eq_false, not_false_eq_true] <;> omega)) (by first | omega | (simp only [Int32.lt_iff_toInt_lt, Int32.le_iff_toInt_le, Int32.reduceToInt, ← Int32.toInt_inj, true_and, and_true, or_true, true_or, false_or, or_false, false_and, and_false, not_true_eq_false, not_false_eq_true] <;> omega))
            obtain ⟨m_215, t_216⟩ := id k_6
            obtain ⟨g_218, e_217, fit_219⟩ := hW.at m_215 t_216
            obtain ⟨v_220, h_221⟩ : ∃ v9 : Int32, g_218 (v_212 : Int32).toNatClampNeg = v9 := ⟨_, rfl⟩
            refine v_bald hC m_215 e_217 (vp_in_iff.mpr (by first | omega | (simp only [Int32.lt_iff_toInt_lt, Int32.le_iff_toInt_le, Int32.reduceToInt, ← Int32.toInt_inj, true_and, and_true, or_true, true_or, false_or, or_false, false_and, and_false, not_true_eq_false, not_false_eq_true] <;> omega))) h_221 dX12_is_61 ?_
            refine v_aload_n hC dX12_is_62 rfl ?_
            refine v_iload_n hC dX12_is_63 rfl ?_
            refine v_viS hC (rest := [.int v_220]) ha_1 rfl mi_J0_charAt_5068e ms_J0_charAt_5068e (p_J0_charAt_5068e hW ha_1 (by first | omega | (simp only [Int32.lt_iff_toInt_lt, Int32.le_iff_toInt_le, Int32.reduceToInt, ← Int32.toInt_inj, true_and, and_true, or_true, true_or, false_or, or_false, false_and, and_false, not_true_eq_false, not_false_eq_true] <;> omega))) mx_J0_charAt_5068e ml_X12_148 (by decide) rfl (cells1 := 0) (slots1 := 0) (by decide) (by decide) (Nat.le_of_ble_eq_true rfl) (Nat.le_of_ble_eq_true rfl) rfl (Nat.le_of_ble_eq_true rfl) dX12_is_64 (fun r_222 L_223 f_224 h_225 => ?_)
            obtain ⟨rfl, rfl, rfl, nr_226⟩ := h_225
            refine v_icmp_ne hC dX12_is_67 (tgt := 74) (by decide) (fun h_229 => ?_) (fun h_229 => ?_)
            · simp only [Int32.lt_iff_toInt_lt, Int32.le_iff_toInt_le, Int32.reduceToInt, ← Int32.toInt_inj] at h_229
              refine v_iconst hC dX12_is_74 (v := 0) (by decide) ?_
              refine v_istore_n hC dX12_is_75 (by decide) (lv' := [(2, .int 0), (3, .int i_188), (0, .ref a_0), (1, .ref (eK E a_1))]) rfl ?_
              obtain ⟨v_230, h_231⟩ : ∃ v9 : Int32, i_188 + Int32.ofInt 1 = v9 := ⟨_, rfl⟩
              have h_232 := add_v (b := 1) h_231 (by first | omega | (simp only [Int32.lt_iff_toInt_lt, Int32.le_iff_toInt_le, Int32.reduceToInt, ← Int32.toInt_inj, true_and, and_true, or_true, true_or, false_or, or_false, false_and, and_false, not_true_eq_false, not_false_eq_true] <;> omega)) (by first | omega | (simp only [Int32.lt_iff_toInt_lt, Int32.le_iff_toInt_le, Int32.reduceToInt, ← Int32.toInt_inj, true_and, and_true, or_true, true_or, false_or, or_false, false_and, and_false, not_true_eq_false, not_false_eq_true] <;> omega))
              simp only [Int32.reduceToInt] at h_232
              refine v_iinc hC dX12_is_76 (k := 1) rfl (v := v_230) h_231 (by decide) (lv' := [(3, .int v_230), (2, .int 0), (0, .ref a_0), (1, .ref (eK E a_1))]) rfl ?_
              refine v_goto hC dX12_is_79 (tgt := 39) (by decide) ?_
              refine v_pick [0, 1, 2, 3] rfl ?_
              have fe_233 : fld (f a_0) 9 = (v_30 : Int32).toInt := by rw [e_22]; rfl
              exact ih_195 v_230 (by first | omega | (simp only [Int32.lt_iff_toInt_lt, Int32.le_iff_toInt_le, Int32.reduceToInt, ← Int32.toInt_inj, true_and, and_true, or_true, true_or, false_or, or_false, false_and, and_false, not_true_eq_false, not_false_eq_true] <;> omega)) 0 (by decide) (cv_192.no (by omega) (by omega) (by omega) (fun q9 => h_229 (congrArg Int32.toInt ((bat_at (t := f (q 4)) e_217 h_221 (k := i_188) (F := fld (f a_0) 9) (by rw [fe_233]; omega) (by rw [fe_233]; omega) (by omega)).symm.trans q9)))) (by first | omega | (simp only [Int32.lt_iff_toInt_lt, Int32.le_iff_toInt_le, Int32.reduceToInt, ← Int32.toInt_inj, true_and, and_true, or_true, true_or, false_or, or_false, false_and, and_false, not_true_eq_false, not_false_eq_true] <;> omega))
            · simp only [Int32.lt_iff_toInt_lt, Int32.le_iff_toInt_le, Int32.reduceToInt, ← Int32.toInt_inj] at h_229
              refine v_iconst hC dX12_is_70 (v := 1) (by decide) ?_
              refine v_goto hC dX12_is_71 (tgt := 75) (by decide) ?_
              refine v_istore_n hC dX12_is_75 (by decide) (lv' := [(2, .int 1), (3, .int i_188), (0, .ref a_0), (1, .ref (eK E a_1))]) rfl ?_
              obtain ⟨v_234, h_235⟩ : ∃ v9 : Int32, i_188 + Int32.ofInt 1 = v9 := ⟨_, rfl⟩
              have h_236 := add_v (b := 1) h_235 (by first | omega | (simp only [Int32.lt_iff_toInt_lt, Int32.le_iff_toInt_le, Int32.reduceToInt, ← Int32.toInt_inj, true_and, and_true, or_true, true_or, false_or, or_false, false_and, and_false, not_true_eq_false, not_false_eq_true] <;> omega)) (by first | omega | (simp only [Int32.lt_iff_toInt_lt, Int32.le_iff_toInt_le, Int32.reduceToInt, ← Int32.toInt_inj, true_and, and_true, or_true, true_or, false_or, or_false, false_and, and_false, not_true_eq_false, not_false_eq_true] <;> omega))
              simp only [Int32.reduceToInt] at h_236
              refine v_iinc hC dX12_is_76 (k := 1) rfl (v := v_234) h_235 (by decide) (lv' := [(3, .int v_234), (2, .int 1), (0, .ref a_0), (1, .ref (eK E a_1))]) rfl ?_
              refine v_goto hC dX12_is_79 (tgt := 39) (by decide) ?_
              refine v_pick [0, 1, 2, 3] rfl ?_
              have fe_237 : fld (f a_0) 9 = (v_30 : Int32).toInt := by rw [e_22]; rfl
              exact ih_195 v_234 (by first | omega | (simp only [Int32.lt_iff_toInt_lt, Int32.le_iff_toInt_le, Int32.reduceToInt, ← Int32.toInt_inj, true_and, and_true, or_true, true_or, false_or, or_false, false_and, and_false, not_true_eq_false, not_false_eq_true] <;> omega)) 1 (by decide) (cv_192.yes (by omega) (by omega) (by omega) ((bat_at (t := f (q 4)) e_217 h_221 (k := i_188) (F := fld (f a_0) 9) (by rw [fe_237]; omega) (by rw [fe_237]; omega) (by omega)).trans (Int32.toInt_inj.mp (by omega)))) (by first | omega | (simp only [Int32.lt_iff_toInt_lt, Int32.le_iff_toInt_le, Int32.reduceToInt, ← Int32.toInt_inj, true_and, and_true, or_true, true_or, false_or, or_false, false_and, and_false, not_true_eq_false, not_false_eq_true] <;> omega))
    refine v_pick [0, 1, 2, 3] rfl ?_
    have fe_238 : fld (f a_0) 8 = (v_28 : Int32).toInt := by rw [e_22]; rfl
    have fe_239 : fld (f a_0) 9 = (v_30 : Int32).toInt := by rw [e_22]; rfl
    have fe_240 : fld (f a_0) 10 = (v_32 : Int32).toInt := by rw [e_22]; rfl
    have fe_241 : fld (f a_0) 12 = (v_35 : Int32).toInt := by rw [e_22]; rfl
    exact lp_193 42 0 (by decide) 0 (by decide) (IWI.s0 (by intro q9; rw [fe_238, fe_239, fe_240, fe_241] at q9; omega)) (by decide)
  · simp only [Int32.lt_iff_toInt_lt, Int32.le_iff_toInt_le, Int32.reduceToInt, ← Int32.toInt_inj] at h_50
    refine v_aload_n hC dX12_is_7 rfl ?_
    refine v_get hC fl_X12_120 m_1 e_22 rfl dX12_is_8 ?_
    refine v_iconst hC dX12_is_11 (v := 1) (by decide) ?_
    refine v_icmp_ne hC dX12_is_12 (tgt := 35) (by decide) (fun h_242 => ?_) (fun h_242 => ?_)
    · simp only [Int32.lt_iff_toInt_lt, Int32.le_iff_toInt_le, Int32.reduceToInt, ← Int32.toInt_inj] at h_242
      refine v_iconst hC dX12_is_35 (v := 0) (by decide) ?_
      refine v_istore_n hC dX12_is_36 (by decide) (lv' := [(2, .int 0), (0, .ref a_0), (1, .ref (eK E a_1))]) rfl ?_
      refine v_iconst hC dX12_is_37 (v := 0) (by decide) ?_
      refine v_istore_n hC dX12_is_38 (by decide) (lv' := [(3, .int 0), (2, .int 0), (0, .ref a_0), (1, .ref (eK E a_1))]) rfl ?_
      have lp_385 : ∀ (n_386 : Nat) (i_380 : Int32) (b_382 : (0 ≤ i_380.toInt ∧ i_380.toInt ≤ 40)) (i_381 : Int32) (b_383 : (0 ≤ i_381.toInt ∧ i_381.toInt ≤ 1)) (cv_384 : IWI (f a_0) (f (q 4)) a_1 i_381 i_380) (hm_388 : 40 - i_380.toInt < (n_386 : Int)), V z E 4 0 0 L f 39 [(3, .int i_380), (2, .int i_381), (0, .ref a_0), (1, .ref (eK E a_1))] [] := by
        intro n_386
        induction n_386 with
        | zero =>
          intro i_380 b_382 i_381 b_383 cv_384 hm_388
          have bs_389 := cv_384.bs
          have fe_390 : fld (f a_0) 8 = (v_28 : Int32).toInt := by rw [e_22]; rfl
          have fe_391 : fld (f a_0) 9 = (v_30 : Int32).toInt := by rw [e_22]; rfl
          have fe_392 : fld (f a_0) 10 = (v_32 : Int32).toInt := by rw [e_22]; rfl
          have fe_393 : fld (f a_0) 12 = (v_35 : Int32).toInt := by rw [e_22]; rfl
          rw [fe_390, fe_391, fe_392, fe_393] at bs_389
          exfalso; omega
        | succ n_386 ih_387 =>
          intro i_380 b_382 i_381 b_383 cv_384 hm_388
          have bs_389 := cv_384.bs
          have fe_390 : fld (f a_0) 8 = (v_28 : Int32).toInt := by rw [e_22]; rfl
          have fe_391 : fld (f a_0) 9 = (v_30 : Int32).toInt := by rw [e_22]; rfl
          have fe_392 : fld (f a_0) 10 = (v_32 : Int32).toInt := by rw [e_22]; rfl
          have fe_393 : fld (f a_0) 12 = (v_35 : Int32).toInt := by rw [e_22]; rfl
          rw [fe_390, fe_391, fe_392, fe_393] at bs_389
          refine v_iload_n hC dX12_is_39 rfl ?_
          refine v_aload_n hC dX12_is_40 rfl ?_
          refine v_viS hC (rest := [.int i_380]) ha_1 rfl mi_J0_length_8abf5 ms_J0_length_8abf5 (p_J0_length_8abf5 hW ha_1) mx_J0_length_8abf5 ml_X12_143 (by decide) rfl (cells1 := 0) (slots1 := 0) (by decide) (by decide) (Nat.le_of_ble_eq_true rfl) (Nat.le_of_ble_eq_true rfl) rfl (Nat.le_of_ble_eq_true rfl) dX12_is_41 (fun r_394 L_395 f_396 h_397 => ?_)
          obtain ⟨rfl, rfl, b_398, x_399⟩ := h_397
          try simp only [Int32.reduceToInt, Int64.reduceToInt] at x_399
          refine v_icmp_ge hC dX12_is_44 (tgt := 82) (by decide) (fun h_402 => ?_) (fun h_402 => ?_)
          · simp only [Int32.lt_iff_toInt_lt, Int32.le_iff_toInt_le, Int32.reduceToInt, ← Int32.toInt_inj] at h_402
            refine v_iload_n hC dX12_is_82 rfl ?_
            exact hR _ _ _ _ _ _ _ dX12_is_83 (nar01 (by first | omega | (simp only [Int32.lt_iff_toInt_lt, Int32.le_iff_toInt_le, Int32.reduceToInt, ← Int32.toInt_inj, true_and, and_true, or_true, true_or, false_or, or_false, false_and, and_false, not_true_eq_false, not_false_eq_true] <;> omega))) (Nat.le_of_ble_eq_true rfl) (Nat.le_of_ble_eq_true rfl) ⟨rfl, rfl, (cv_384.fin (by first | (left; omega) | (right; omega)))⟩
          · simp only [Int32.lt_iff_toInt_lt, Int32.le_iff_toInt_le, Int32.reduceToInt, ← Int32.toInt_inj] at h_402
            refine v_iload_n hC dX12_is_47 rfl ?_
            refine v_if_eq hC dX12_is_48 (tgt := 82) (by decide) (fun h_403 => ?_) (fun h_403 => ?_)
            · simp only [Int32.lt_iff_toInt_lt, Int32.le_iff_toInt_le, Int32.reduceToInt, ← Int32.toInt_inj] at h_403
              refine v_iload_n hC dX12_is_82 rfl ?_
              exact hR _ _ _ _ _ _ _ dX12_is_83 (nar01 (by first | omega | (simp only [Int32.lt_iff_toInt_lt, Int32.le_iff_toInt_le, Int32.reduceToInt, ← Int32.toInt_inj, true_and, and_true, or_true, true_or, false_or, or_false, false_and, and_false, not_true_eq_false, not_false_eq_true] <;> omega))) (Nat.le_of_ble_eq_true rfl) (Nat.le_of_ble_eq_true rfl) ⟨rfl, rfl, (cv_384.fin (by first | (left; omega) | (right; omega)))⟩
            · simp only [Int32.lt_iff_toInt_lt, Int32.le_iff_toInt_le, Int32.reduceToInt, ← Int32.toInt_inj] at h_403
              refine v_aload_n hC dX12_is_51 rfl ?_
              refine v_get hC fl_X12_24 m_1 e_22 rfl dX12_is_52 ?_
              refine v_aload_n hC dX12_is_55 rfl ?_
              refine v_get hC fl_X12_117 m_1 e_22 rfl dX12_is_56 ?_
              refine v_iload_n hC dX12_is_59 rfl ?_
              obtain ⟨v_404, h_405⟩ : ∃ v9 : Int32, v_30 + i_380 = v9 := ⟨_, rfl⟩
              refine v_iadd hC dX12_is_60 h_405 ?_
              have h_406 := add_v h_405 (by first | omega | (simp only [Int32.lt_iff_toInt_lt, Int32.le_iff_toInt_le, Int32.reduceToInt, ← Int32.toInt_inj, true_and, and_true, or_true, true_or, false_or, or_false, false_and, and_false, not_true_eq_false, not_false_eq_true] <;> omega)) (by first | omega | (simp only [Int32.lt_iff_toInt_lt, Int32.le_iff_toInt_le, Int32.reduceToInt, ← Int32.toInt_inj, true_and, and_true, or_true, true_or, false_or, or_false, false_and, and_false, not_true_eq_false, not_false_eq_true] <;> omega))
              obtain ⟨m_407, t_408⟩ := id k_6
              obtain ⟨g_410, e_409, fit_411⟩ := hW.at m_407 t_408
              obtain ⟨v_412, h_413⟩ : ∃ v9 : Int32, g_410 (v_404 : Int32).toNatClampNeg = v9 := ⟨_, rfl⟩
              refine v_bald hC m_407 e_409 (vp_in_iff.mpr (by first | omega | (simp only [Int32.lt_iff_toInt_lt, Int32.le_iff_toInt_le, Int32.reduceToInt, ← Int32.toInt_inj, true_and, and_true, or_true, true_or, false_or, or_false, false_and, and_false, not_true_eq_false, not_false_eq_true] <;> omega))) h_413 dX12_is_61 ?_
              refine v_aload_n hC dX12_is_62 rfl ?_
              refine v_iload_n hC dX12_is_63 rfl ?_
              refine v_viS hC (rest := [.int v_412]) ha_1 rfl mi_J0_charAt_5068e ms_J0_charAt_5068e (p_J0_charAt_5068e hW ha_1 (by first | omega | (simp only [Int32.lt_iff_toInt_lt, Int32.le_iff_toInt_le, Int32.reduceToInt, ← Int32.toInt_inj, true_and, and_true, or_true, true_or, false_or, or_false, false_and, and_false, not_true_eq_false, not_false_eq_true] <;> omega))) mx_J0_charAt_5068e ml_X12_148 (by decide) rfl (cells1 := 0) (slots1 := 0) (by decide) (by decide) (Nat.le_of_ble_eq_true rfl) (Nat.le_of_ble_eq_true rfl) rfl (Nat.le_of_ble_eq_true rfl) dX12_is_64 (fun r_414 L_415 f_416 h_417 => ?_)
              obtain ⟨rfl, rfl, rfl, nr_418⟩ := h_417
              refine v_icmp_ne hC dX12_is_67 (tgt := 74) (by decide) (fun h_421 => ?_) (fun h_421 => ?_)
              · simp only [Int32.lt_iff_toInt_lt, Int32.le_iff_toInt_le, Int32.reduceToInt, ← Int32.toInt_inj] at h_421
                refine v_iconst hC dX12_is_74 (v := 0) (by decide) ?_
                refine v_istore_n hC dX12_is_75 (by decide) (lv' := [(2, .int 0), (3, .int i_380), (0, .ref a_0), (1, .ref (eK E a_1))]) rfl ?_
                obtain ⟨v_422, h_423⟩ : ∃ v9 : Int32, i_380 + Int32.ofInt 1 = v9 := ⟨_, rfl⟩
                have h_424 := add_v (b := 1) h_423 (by first | omega | (simp only [Int32.lt_iff_toInt_lt, Int32.le_iff_toInt_le, Int32.reduceToInt, ← Int32.toInt_inj, true_and, and_true, or_true, true_or, false_or, or_false, false_and, and_false, not_true_eq_false, not_false_eq_true] <;> omega)) (by first | omega | (simp only [Int32.lt_iff_toInt_lt, Int32.le_iff_toInt_le, Int32.reduceToInt, ← Int32.toInt_inj, true_and, and_true, or_true, true_or, false_or, or_false, false_and, and_false, not_true_eq_false, not_false_eq_true] <;> omega))
                simp only [Int32.reduceToInt] at h_424
                refine v_iinc hC dX12_is_76 (k := 1) rfl (v := v_422) h_423 (by decide) (lv' := [(3, .int v_422), (2, .int 0), (0, .ref a_0), (1, .ref (eK E a_1))]) rfl ?_
                refine v_goto hC dX12_is_79 (tgt := 39) (by decide) ?_
                refine v_pick [0, 1, 2, 3] rfl ?_
                have fe_425 : fld (f a_0) 9 = (v_30 : Int32).toInt := by rw [e_22]; rfl
                exact ih_387 v_422 (by first | omega | (simp only [Int32.lt_iff_toInt_lt, Int32.le_iff_toInt_le, Int32.reduceToInt, ← Int32.toInt_inj, true_and, and_true, or_true, true_or, false_or, or_false, false_and, and_false, not_true_eq_false, not_false_eq_true] <;> omega)) 0 (by decide) (cv_384.no (by omega) (by omega) (by omega) (fun q9 => h_421 (congrArg Int32.toInt ((bat_at (t := f (q 4)) e_409 h_413 (k := i_380) (F := fld (f a_0) 9) (by rw [fe_425]; omega) (by rw [fe_425]; omega) (by omega)).symm.trans q9)))) (by first | omega | (simp only [Int32.lt_iff_toInt_lt, Int32.le_iff_toInt_le, Int32.reduceToInt, ← Int32.toInt_inj, true_and, and_true, or_true, true_or, false_or, or_false, false_and, and_false, not_true_eq_false, not_false_eq_true] <;> omega))
              · simp only [Int32.lt_iff_toInt_lt, Int32.le_iff_toInt_le, Int32.reduceToInt, ← Int32.toInt_inj] at h_421
                refine v_iconst hC dX12_is_70 (v := 1) (by decide) ?_
                refine v_goto hC dX12_is_71 (tgt := 75) (by decide) ?_
                refine v_istore_n hC dX12_is_75 (by decide) (lv' := [(2, .int 1), (3, .int i_380), (0, .ref a_0), (1, .ref (eK E a_1))]) rfl ?_
                obtain ⟨v_426, h_427⟩ : ∃ v9 : Int32, i_380 + Int32.ofInt 1 = v9 := ⟨_, rfl⟩
                have h_428 := add_v (b := 1) h_427 (by first | omega | (simp only [Int32.lt_iff_toInt_lt, Int32.le_iff_toInt_le, Int32.reduceToInt, ← Int32.toInt_inj, true_and, and_true, or_true, true_or, false_or, or_false, false_and, and_false, not_true_eq_false, not_false_eq_true] <;> omega)) (by first | omega | (simp only [Int32.lt_iff_toInt_lt, Int32.le_iff_toInt_le, Int32.reduceToInt, ← Int32.toInt_inj, true_and, and_true, or_true, true_or, false_or, or_false, false_and, and_false, not_true_eq_false, not_false_eq_true] <;> omega))
                simp only [Int32.reduceToInt] at h_428
                refine v_iinc hC dX12_is_76 (k := 1) rfl (v := v_426) h_427 (by decide) (lv' := [(3, .int v_426), (2, .int 1), (0, .ref a_0), (1, .ref (eK E a_1))]) rfl ?_
                refine v_goto hC dX12_is_79 (tgt := 39) (by decide) ?_
                refine v_pick [0, 1, 2, 3] rfl ?_
                have fe_429 : fld (f a_0) 9 = (v_30 : Int32).toInt := by rw [e_22]; rfl
                exact ih_387 v_426 (by first | omega | (simp only [Int32.lt_iff_toInt_lt, Int32.le_iff_toInt_le, Int32.reduceToInt, ← Int32.toInt_inj, true_and, and_true, or_true, true_or, false_or, or_false, false_and, and_false, not_true_eq_false, not_false_eq_true] <;> omega)) 1 (by decide) (cv_384.yes (by omega) (by omega) (by omega) ((bat_at (t := f (q 4)) e_409 h_413 (k := i_380) (F := fld (f a_0) 9) (by rw [fe_429]; omega) (by rw [fe_429]; omega) (by omega)).trans (Int32.toInt_inj.mp (by omega)))) (by first | omega | (simp only [Int32.lt_iff_toInt_lt, Int32.le_iff_toInt_le, Int32.reduceToInt, ← Int32.toInt_inj, true_and, and_true, or_true, true_or, false_or, or_false, false_and, and_false, not_true_eq_false, not_false_eq_true] <;> omega))
      refine v_pick [0, 1, 2, 3] rfl ?_
      have fe_430 : fld (f a_0) 8 = (v_28 : Int32).toInt := by rw [e_22]; rfl
      have fe_431 : fld (f a_0) 9 = (v_30 : Int32).toInt := by rw [e_22]; rfl
      have fe_432 : fld (f a_0) 10 = (v_32 : Int32).toInt := by rw [e_22]; rfl
      have fe_433 : fld (f a_0) 12 = (v_35 : Int32).toInt := by rw [e_22]; rfl
      exact lp_385 42 0 (by decide) 0 (by decide) (IWI.s0 (by intro q9; rw [fe_430, fe_431, fe_432, fe_433] at q9; omega)) (by decide)
    · simp only [Int32.lt_iff_toInt_lt, Int32.le_iff_toInt_le, Int32.reduceToInt, ← Int32.toInt_inj] at h_242
      refine v_aload_n hC dX12_is_15 rfl ?_
      refine v_get hC fl_X12_108 m_1 e_22 rfl dX12_is_16 ?_
      refine v_aload_n hC dX12_is_19 rfl ?_
      refine v_get hC fl_X12_117 m_1 e_22 rfl dX12_is_20 ?_
      obtain ⟨v_434, h_435⟩ : ∃ v9 : Int32, v_28 - v_30 = v9 := ⟨_, rfl⟩
      refine v_isub hC dX12_is_23 h_435 ?_
      have h_436 := sub_v h_435 (by first | omega | (simp only [Int32.lt_iff_toInt_lt, Int32.le_iff_toInt_le, Int32.reduceToInt, ← Int32.toInt_inj, true_and, and_true, or_true, true_or, false_or, or_false, false_and, and_false, not_true_eq_false, not_false_eq_true] <;> omega)) (by first | omega | (simp only [Int32.lt_iff_toInt_lt, Int32.le_iff_toInt_le, Int32.reduceToInt, ← Int32.toInt_inj, true_and, and_true, or_true, true_or, false_or, or_false, false_and, and_false, not_true_eq_false, not_false_eq_true] <;> omega))
      refine v_aload_n hC dX12_is_24 rfl ?_
      refine v_viS hC (rest := [.int v_434]) ha_1 rfl mi_J0_length_8abf5 ms_J0_length_8abf5 (p_J0_length_8abf5 hW ha_1) mx_J0_length_8abf5 ml_X12_143 (by decide) rfl (cells1 := 0) (slots1 := 0) (by decide) (by decide) (Nat.le_of_ble_eq_true rfl) (Nat.le_of_ble_eq_true rfl) rfl (Nat.le_of_ble_eq_true rfl) dX12_is_25 (fun r_437 L_438 f_439 h_440 => ?_)
      obtain ⟨rfl, rfl, b_441, x_442⟩ := h_440
      try simp only [Int32.reduceToInt, Int64.reduceToInt] at x_442
      refine v_icmp_ne hC dX12_is_28 (tgt := 35) (by decide) (fun h_445 => ?_) (fun h_445 => ?_)
      · simp only [Int32.lt_iff_toInt_lt, Int32.le_iff_toInt_le, Int32.reduceToInt, ← Int32.toInt_inj] at h_445
        refine v_iconst hC dX12_is_35 (v := 0) (by decide) ?_
        refine v_istore_n hC dX12_is_36 (by decide) (lv' := [(2, .int 0), (0, .ref a_0), (1, .ref (eK E a_1))]) rfl ?_
        refine v_iconst hC dX12_is_37 (v := 0) (by decide) ?_
        refine v_istore_n hC dX12_is_38 (by decide) (lv' := [(3, .int 0), (2, .int 0), (0, .ref a_0), (1, .ref (eK E a_1))]) rfl ?_
        have lp_588 : ∀ (n_589 : Nat) (i_583 : Int32) (b_585 : (0 ≤ i_583.toInt ∧ i_583.toInt ≤ 40)) (i_584 : Int32) (b_586 : (0 ≤ i_584.toInt ∧ i_584.toInt ≤ 1)) (cv_587 : IWI (f a_0) (f (q 4)) a_1 i_584 i_583) (hm_591 : 40 - i_583.toInt < (n_589 : Int)), V z E 4 0 0 L f 39 [(3, .int i_583), (2, .int i_584), (0, .ref a_0), (1, .ref (eK E a_1))] [] := by
          intro n_589
          induction n_589 with
          | zero =>
            intro i_583 b_585 i_584 b_586 cv_587 hm_591
            have bs_592 := cv_587.bs
            have fe_593 : fld (f a_0) 8 = (v_28 : Int32).toInt := by rw [e_22]; rfl
            have fe_594 : fld (f a_0) 9 = (v_30 : Int32).toInt := by rw [e_22]; rfl
            have fe_595 : fld (f a_0) 10 = (v_32 : Int32).toInt := by rw [e_22]; rfl
            have fe_596 : fld (f a_0) 12 = (v_35 : Int32).toInt := by rw [e_22]; rfl
            rw [fe_593, fe_594, fe_595, fe_596] at bs_592
            exfalso; omega
          | succ n_589 ih_590 =>
            intro i_583 b_585 i_584 b_586 cv_587 hm_591
            have bs_592 := cv_587.bs
            have fe_593 : fld (f a_0) 8 = (v_28 : Int32).toInt := by rw [e_22]; rfl
            have fe_594 : fld (f a_0) 9 = (v_30 : Int32).toInt := by rw [e_22]; rfl
            have fe_595 : fld (f a_0) 10 = (v_32 : Int32).toInt := by rw [e_22]; rfl
            have fe_596 : fld (f a_0) 12 = (v_35 : Int32).toInt := by rw [e_22]; rfl
            rw [fe_593, fe_594, fe_595, fe_596] at bs_592
            refine v_iload_n hC dX12_is_39 rfl ?_
            refine v_aload_n hC dX12_is_40 rfl ?_
            refine v_viS hC (rest := [.int i_583]) ha_1 rfl mi_J0_length_8abf5 ms_J0_length_8abf5 (p_J0_length_8abf5 hW ha_1) mx_J0_length_8abf5 ml_X12_143 (by decide) rfl (cells1 := 0) (slots1 := 0) (by decide) (by decide) (Nat.le_of_ble_eq_true rfl) (Nat.le_of_ble_eq_true rfl) rfl (Nat.le_of_ble_eq_true rfl) dX12_is_41 (fun r_597 L_598 f_599 h_600 => ?_)
            obtain ⟨rfl, rfl, b_601, x_602⟩ := h_600
            try simp only [Int32.reduceToInt, Int64.reduceToInt] at x_602
            refine v_icmp_ge hC dX12_is_44 (tgt := 82) (by decide) (fun h_605 => ?_) (fun h_605 => ?_)
            · simp only [Int32.lt_iff_toInt_lt, Int32.le_iff_toInt_le, Int32.reduceToInt, ← Int32.toInt_inj] at h_605
              refine v_iload_n hC dX12_is_82 rfl ?_
              exact hR _ _ _ _ _ _ _ dX12_is_83 (nar01 (by first | omega | (simp only [Int32.lt_iff_toInt_lt, Int32.le_iff_toInt_le, Int32.reduceToInt, ← Int32.toInt_inj, true_and, and_true, or_true, true_or, false_or, or_false, false_and, and_false, not_true_eq_false, not_false_eq_true] <;> omega))) (Nat.le_of_ble_eq_true rfl) (Nat.le_of_ble_eq_true rfl) ⟨rfl, rfl, (cv_587.fin (by first | (left; omega) | (right; omega)))⟩
            · simp only [Int32.lt_iff_toInt_lt, Int32.le_iff_toInt_le, Int32.reduceToInt, ← Int32.toInt_inj] at h_605
              refine v_iload_n hC dX12_is_47 rfl ?_
              refine v_if_eq hC dX12_is_48 (tgt := 82) (by decide) (fun h_606 => ?_) (fun h_606 => ?_)
              · simp only [Int32.lt_iff_toInt_lt, Int32.le_iff_toInt_le, Int32.reduceToInt, ← Int32.toInt_inj] at h_606
                refine v_iload_n hC dX12_is_82 rfl ?_
                exact hR _ _ _ _ _ _ _ dX12_is_83 (nar01 (by first | omega | (simp only [Int32.lt_iff_toInt_lt, Int32.le_iff_toInt_le, Int32.reduceToInt, ← Int32.toInt_inj, true_and, and_true, or_true, true_or, false_or, or_false, false_and, and_false, not_true_eq_false, not_false_eq_true] <;> omega))) (Nat.le_of_ble_eq_true rfl) (Nat.le_of_ble_eq_true rfl) ⟨rfl, rfl, (cv_587.fin (by first | (left; omega) | (right; omega)))⟩
              · simp only [Int32.lt_iff_toInt_lt, Int32.le_iff_toInt_le, Int32.reduceToInt, ← Int32.toInt_inj] at h_606
                refine v_aload_n hC dX12_is_51 rfl ?_
                refine v_get hC fl_X12_24 m_1 e_22 rfl dX12_is_52 ?_
                refine v_aload_n hC dX12_is_55 rfl ?_
                refine v_get hC fl_X12_117 m_1 e_22 rfl dX12_is_56 ?_
                refine v_iload_n hC dX12_is_59 rfl ?_
                obtain ⟨v_607, h_608⟩ : ∃ v9 : Int32, v_30 + i_583 = v9 := ⟨_, rfl⟩
                refine v_iadd hC dX12_is_60 h_608 ?_
                have h_609 := add_v h_608 (by first | omega | (simp only [Int32.lt_iff_toInt_lt, Int32.le_iff_toInt_le, Int32.reduceToInt, ← Int32.toInt_inj, true_and, and_true, or_true, true_or, false_or, or_false, false_and, and_false, not_true_eq_false, not_false_eq_true] <;> omega)) (by first | omega | (simp only [Int32.lt_iff_toInt_lt, Int32.le_iff_toInt_le, Int32.reduceToInt, ← Int32.toInt_inj, true_and, and_true, or_true, true_or, false_or, or_false, false_and, and_false, not_true_eq_false, not_false_eq_true] <;> omega))
                obtain ⟨m_610, t_611⟩ := id k_6
                obtain ⟨g_613, e_612, fit_614⟩ := hW.at m_610 t_611
                obtain ⟨v_615, h_616⟩ : ∃ v9 : Int32, g_613 (v_607 : Int32).toNatClampNeg = v9 := ⟨_, rfl⟩
                refine v_bald hC m_610 e_612 (vp_in_iff.mpr (by first | omega | (simp only [Int32.lt_iff_toInt_lt, Int32.le_iff_toInt_le, Int32.reduceToInt, ← Int32.toInt_inj, true_and, and_true, or_true, true_or, false_or, or_false, false_and, and_false, not_true_eq_false, not_false_eq_true] <;> omega))) h_616 dX12_is_61 ?_
                refine v_aload_n hC dX12_is_62 rfl ?_
                refine v_iload_n hC dX12_is_63 rfl ?_
                refine v_viS hC (rest := [.int v_615]) ha_1 rfl mi_J0_charAt_5068e ms_J0_charAt_5068e (p_J0_charAt_5068e hW ha_1 (by first | omega | (simp only [Int32.lt_iff_toInt_lt, Int32.le_iff_toInt_le, Int32.reduceToInt, ← Int32.toInt_inj, true_and, and_true, or_true, true_or, false_or, or_false, false_and, and_false, not_true_eq_false, not_false_eq_true] <;> omega))) mx_J0_charAt_5068e ml_X12_148 (by decide) rfl (cells1 := 0) (slots1 := 0) (by decide) (by decide) (Nat.le_of_ble_eq_true rfl) (Nat.le_of_ble_eq_true rfl) rfl (Nat.le_of_ble_eq_true rfl) dX12_is_64 (fun r_617 L_618 f_619 h_620 => ?_)
                obtain ⟨rfl, rfl, rfl, nr_621⟩ := h_620
                refine v_icmp_ne hC dX12_is_67 (tgt := 74) (by decide) (fun h_624 => ?_) (fun h_624 => ?_)
                · simp only [Int32.lt_iff_toInt_lt, Int32.le_iff_toInt_le, Int32.reduceToInt, ← Int32.toInt_inj] at h_624
                  refine v_iconst hC dX12_is_74 (v := 0) (by decide) ?_
                  refine v_istore_n hC dX12_is_75 (by decide) (lv' := [(2, .int 0), (3, .int i_583), (0, .ref a_0), (1, .ref (eK E a_1))]) rfl ?_
                  obtain ⟨v_625, h_626⟩ : ∃ v9 : Int32, i_583 + Int32.ofInt 1 = v9 := ⟨_, rfl⟩
                  have h_627 := add_v (b := 1) h_626 (by first | omega | (simp only [Int32.lt_iff_toInt_lt, Int32.le_iff_toInt_le, Int32.reduceToInt, ← Int32.toInt_inj, true_and, and_true, or_true, true_or, false_or, or_false, false_and, and_false, not_true_eq_false, not_false_eq_true] <;> omega)) (by first | omega | (simp only [Int32.lt_iff_toInt_lt, Int32.le_iff_toInt_le, Int32.reduceToInt, ← Int32.toInt_inj, true_and, and_true, or_true, true_or, false_or, or_false, false_and, and_false, not_true_eq_false, not_false_eq_true] <;> omega))
                  simp only [Int32.reduceToInt] at h_627
                  refine v_iinc hC dX12_is_76 (k := 1) rfl (v := v_625) h_626 (by decide) (lv' := [(3, .int v_625), (2, .int 0), (0, .ref a_0), (1, .ref (eK E a_1))]) rfl ?_
                  refine v_goto hC dX12_is_79 (tgt := 39) (by decide) ?_
                  refine v_pick [0, 1, 2, 3] rfl ?_
                  have fe_628 : fld (f a_0) 9 = (v_30 : Int32).toInt := by rw [e_22]; rfl
                  exact ih_590 v_625 (by first | omega | (simp only [Int32.lt_iff_toInt_lt, Int32.le_iff_toInt_le, Int32.reduceToInt, ← Int32.toInt_inj, true_and, and_true, or_true, true_or, false_or, or_false, false_and, and_false, not_true_eq_false, not_false_eq_true] <;> omega)) 0 (by decide) (cv_587.no (by omega) (by omega) (by omega) (fun q9 => h_624 (congrArg Int32.toInt ((bat_at (t := f (q 4)) e_612 h_616 (k := i_583) (F := fld (f a_0) 9) (by rw [fe_628]; omega) (by rw [fe_628]; omega) (by omega)).symm.trans q9)))) (by first | omega | (simp only [Int32.lt_iff_toInt_lt, Int32.le_iff_toInt_le, Int32.reduceToInt, ← Int32.toInt_inj, true_and, and_true, or_true, true_or, false_or, or_false, false_and, and_false, not_true_eq_false, not_false_eq_true] <;> omega))
                · simp only [Int32.lt_iff_toInt_lt, Int32.le_iff_toInt_le, Int32.reduceToInt, ← Int32.toInt_inj] at h_624
                  refine v_iconst hC dX12_is_70 (v := 1) (by decide) ?_
                  refine v_goto hC dX12_is_71 (tgt := 75) (by decide) ?_
                  refine v_istore_n hC dX12_is_75 (by decide) (lv' := [(2, .int 1), (3, .int i_583), (0, .ref a_0), (1, .ref (eK E a_1))]) rfl ?_
                  obtain ⟨v_629, h_630⟩ : ∃ v9 : Int32, i_583 + Int32.ofInt 1 = v9 := ⟨_, rfl⟩
                  have h_631 := add_v (b := 1) h_630 (by first | omega | (simp only [Int32.lt_iff_toInt_lt, Int32.le_iff_toInt_le, Int32.reduceToInt, ← Int32.toInt_inj, true_and, and_true, or_true, true_or, false_or, or_false, false_and, and_false, not_true_eq_false, not_false_eq_true] <;> omega)) (by first | omega | (simp only [Int32.lt_iff_toInt_lt, Int32.le_iff_toInt_le, Int32.reduceToInt, ← Int32.toInt_inj, true_and, and_true, or_true, true_or, false_or, or_false, false_and, and_false, not_true_eq_false, not_false_eq_true] <;> omega))
                  simp only [Int32.reduceToInt] at h_631
                  refine v_iinc hC dX12_is_76 (k := 1) rfl (v := v_629) h_630 (by decide) (lv' := [(3, .int v_629), (2, .int 1), (0, .ref a_0), (1, .ref (eK E a_1))]) rfl ?_
                  refine v_goto hC dX12_is_79 (tgt := 39) (by decide) ?_
                  refine v_pick [0, 1, 2, 3] rfl ?_
                  have fe_632 : fld (f a_0) 9 = (v_30 : Int32).toInt := by rw [e_22]; rfl
                  exact ih_590 v_629 (by first | omega | (simp only [Int32.lt_iff_toInt_lt, Int32.le_iff_toInt_le, Int32.reduceToInt, ← Int32.toInt_inj, true_and, and_true, or_true, true_or, false_or, or_false, false_and, and_false, not_true_eq_false, not_false_eq_true] <;> omega)) 1 (by decide) (cv_587.yes (by omega) (by omega) (by omega) ((bat_at (t := f (q 4)) e_612 h_616 (k := i_583) (F := fld (f a_0) 9) (by rw [fe_632]; omega) (by rw [fe_632]; omega) (by omega)).trans (Int32.toInt_inj.mp (by omega)))) (by first | omega | (simp only [Int32.lt_iff_toInt_lt, Int32.le_iff_toInt_le, Int32.reduceToInt, ← Int32.toInt_inj, true_and, and_true, or_true, true_or, false_or, or_false, false_and, and_false, not_true_eq_false, not_false_eq_true] <;> omega))
        refine v_pick [0, 1, 2, 3] rfl ?_
        have fe_633 : fld (f a_0) 8 = (v_28 : Int32).toInt := by rw [e_22]; rfl
        have fe_634 : fld (f a_0) 9 = (v_30 : Int32).toInt := by rw [e_22]; rfl
        have fe_635 : fld (f a_0) 10 = (v_32 : Int32).toInt := by rw [e_22]; rfl
        have fe_636 : fld (f a_0) 12 = (v_35 : Int32).toInt := by rw [e_22]; rfl
        exact lp_588 42 0 (by decide) 0 (by decide) (IWI.s0 (by intro q9; rw [fe_633, fe_634, fe_635, fe_636] at q9; omega)) (by decide)
      · simp only [Int32.lt_iff_toInt_lt, Int32.le_iff_toInt_le, Int32.reduceToInt, ← Int32.toInt_inj] at h_445
        refine v_iconst hC dX12_is_31 (v := 1) (by decide) ?_
        refine v_goto hC dX12_is_32 (tgt := 36) (by decide) ?_
        refine v_istore_n hC dX12_is_36 (by decide) (lv' := [(2, .int 1), (0, .ref a_0), (1, .ref (eK E a_1))]) rfl ?_
        refine v_iconst hC dX12_is_37 (v := 0) (by decide) ?_
        refine v_istore_n hC dX12_is_38 (by decide) (lv' := [(3, .int 0), (2, .int 1), (0, .ref a_0), (1, .ref (eK E a_1))]) rfl ?_
        have lp_779 : ∀ (n_780 : Nat) (i_774 : Int32) (b_776 : (0 ≤ i_774.toInt ∧ i_774.toInt ≤ 40)) (i_775 : Int32) (b_777 : (0 ≤ i_775.toInt ∧ i_775.toInt ≤ 1)) (cv_778 : IWI (f a_0) (f (q 4)) a_1 i_775 i_774) (hm_782 : 40 - i_774.toInt < (n_780 : Int)), V z E 4 0 0 L f 39 [(3, .int i_774), (2, .int i_775), (0, .ref a_0), (1, .ref (eK E a_1))] [] := by
          intro n_780
          induction n_780 with
          | zero =>
            intro i_774 b_776 i_775 b_777 cv_778 hm_782
            have bs_783 := cv_778.bs
            have fe_784 : fld (f a_0) 8 = (v_28 : Int32).toInt := by rw [e_22]; rfl
            have fe_785 : fld (f a_0) 9 = (v_30 : Int32).toInt := by rw [e_22]; rfl
            have fe_786 : fld (f a_0) 10 = (v_32 : Int32).toInt := by rw [e_22]; rfl
            have fe_787 : fld (f a_0) 12 = (v_35 : Int32).toInt := by rw [e_22]; rfl
            rw [fe_784, fe_785, fe_786, fe_787] at bs_783
            exfalso; omega
          | succ n_780 ih_781 =>
            intro i_774 b_776 i_775 b_777 cv_778 hm_782
            have bs_783 := cv_778.bs
            have fe_784 : fld (f a_0) 8 = (v_28 : Int32).toInt := by rw [e_22]; rfl
            have fe_785 : fld (f a_0) 9 = (v_30 : Int32).toInt := by rw [e_22]; rfl
            have fe_786 : fld (f a_0) 10 = (v_32 : Int32).toInt := by rw [e_22]; rfl
            have fe_787 : fld (f a_0) 12 = (v_35 : Int32).toInt := by rw [e_22]; rfl
            rw [fe_784, fe_785, fe_786, fe_787] at bs_783
            refine v_iload_n hC dX12_is_39 rfl ?_
            refine v_aload_n hC dX12_is_40 rfl ?_
            refine v_viS hC (rest := [.int i_774]) ha_1 rfl mi_J0_length_8abf5 ms_J0_length_8abf5 (p_J0_length_8abf5 hW ha_1) mx_J0_length_8abf5 ml_X12_143 (by decide) rfl (cells1 := 0) (slots1 := 0) (by decide) (by decide) (Nat.le_of_ble_eq_true rfl) (Nat.le_of_ble_eq_true rfl) rfl (Nat.le_of_ble_eq_true rfl) dX12_is_41 (fun r_788 L_789 f_790 h_791 => ?_)
            obtain ⟨rfl, rfl, b_792, x_793⟩ := h_791
            try simp only [Int32.reduceToInt, Int64.reduceToInt] at x_793
            refine v_icmp_ge hC dX12_is_44 (tgt := 82) (by decide) (fun h_796 => ?_) (fun h_796 => ?_)
            · simp only [Int32.lt_iff_toInt_lt, Int32.le_iff_toInt_le, Int32.reduceToInt, ← Int32.toInt_inj] at h_796
              refine v_iload_n hC dX12_is_82 rfl ?_
              exact hR _ _ _ _ _ _ _ dX12_is_83 (nar01 (by first | omega | (simp only [Int32.lt_iff_toInt_lt, Int32.le_iff_toInt_le, Int32.reduceToInt, ← Int32.toInt_inj, true_and, and_true, or_true, true_or, false_or, or_false, false_and, and_false, not_true_eq_false, not_false_eq_true] <;> omega))) (Nat.le_of_ble_eq_true rfl) (Nat.le_of_ble_eq_true rfl) ⟨rfl, rfl, (cv_778.fin (by first | (left; omega) | (right; omega)))⟩
            · simp only [Int32.lt_iff_toInt_lt, Int32.le_iff_toInt_le, Int32.reduceToInt, ← Int32.toInt_inj] at h_796
              refine v_iload_n hC dX12_is_47 rfl ?_
              refine v_if_eq hC dX12_is_48 (tgt := 82) (by decide) (fun h_797 => ?_) (fun h_797 => ?_)
              · simp only [Int32.lt_iff_toInt_lt, Int32.le_iff_toInt_le, Int32.reduceToInt, ← Int32.toInt_inj] at h_797
                refine v_iload_n hC dX12_is_82 rfl ?_
                exact hR _ _ _ _ _ _ _ dX12_is_83 (nar01 (by first | omega | (simp only [Int32.lt_iff_toInt_lt, Int32.le_iff_toInt_le, Int32.reduceToInt, ← Int32.toInt_inj, true_and, and_true, or_true, true_or, false_or, or_false, false_and, and_false, not_true_eq_false, not_false_eq_true] <;> omega))) (Nat.le_of_ble_eq_true rfl) (Nat.le_of_ble_eq_true rfl) ⟨rfl, rfl, (cv_778.fin (by first | (left; omega) | (right; omega)))⟩
              · simp only [Int32.lt_iff_toInt_lt, Int32.le_iff_toInt_le, Int32.reduceToInt, ← Int32.toInt_inj] at h_797
                refine v_aload_n hC dX12_is_51 rfl ?_
                refine v_get hC fl_X12_24 m_1 e_22 rfl dX12_is_52 ?_
                refine v_aload_n hC dX12_is_55 rfl ?_
                refine v_get hC fl_X12_117 m_1 e_22 rfl dX12_is_56 ?_
                refine v_iload_n hC dX12_is_59 rfl ?_
                obtain ⟨v_798, h_799⟩ : ∃ v9 : Int32, v_30 + i_774 = v9 := ⟨_, rfl⟩
                refine v_iadd hC dX12_is_60 h_799 ?_
                have h_800 := add_v h_799 (by first | omega | (simp only [Int32.lt_iff_toInt_lt, Int32.le_iff_toInt_le, Int32.reduceToInt, ← Int32.toInt_inj, true_and, and_true, or_true, true_or, false_or, or_false, false_and, and_false, not_true_eq_false, not_false_eq_true] <;> omega)) (by first | omega | (simp only [Int32.lt_iff_toInt_lt, Int32.le_iff_toInt_le, Int32.reduceToInt, ← Int32.toInt_inj, true_and, and_true, or_true, true_or, false_or, or_false, false_and, and_false, not_true_eq_false, not_false_eq_true] <;> omega))
                obtain ⟨m_801, t_802⟩ := id k_6
                obtain ⟨g_804, e_803, fit_805⟩ := hW.at m_801 t_802
                obtain ⟨v_806, h_807⟩ : ∃ v9 : Int32, g_804 (v_798 : Int32).toNatClampNeg = v9 := ⟨_, rfl⟩
                refine v_bald hC m_801 e_803 (vp_in_iff.mpr (by first | omega | (simp only [Int32.lt_iff_toInt_lt, Int32.le_iff_toInt_le, Int32.reduceToInt, ← Int32.toInt_inj, true_and, and_true, or_true, true_or, false_or, or_false, false_and, and_false, not_true_eq_false, not_false_eq_true] <;> omega))) h_807 dX12_is_61 ?_
                refine v_aload_n hC dX12_is_62 rfl ?_
                refine v_iload_n hC dX12_is_63 rfl ?_
                refine v_viS hC (rest := [.int v_806]) ha_1 rfl mi_J0_charAt_5068e ms_J0_charAt_5068e (p_J0_charAt_5068e hW ha_1 (by first | omega | (simp only [Int32.lt_iff_toInt_lt, Int32.le_iff_toInt_le, Int32.reduceToInt, ← Int32.toInt_inj, true_and, and_true, or_true, true_or, false_or, or_false, false_and, and_false, not_true_eq_false, not_false_eq_true] <;> omega))) mx_J0_charAt_5068e ml_X12_148 (by decide) rfl (cells1 := 0) (slots1 := 0) (by decide) (by decide) (Nat.le_of_ble_eq_true rfl) (Nat.le_of_ble_eq_true rfl) rfl (Nat.le_of_ble_eq_true rfl) dX12_is_64 (fun r_808 L_809 f_810 h_811 => ?_)
                obtain ⟨rfl, rfl, rfl, nr_812⟩ := h_811
                refine v_icmp_ne hC dX12_is_67 (tgt := 74) (by decide) (fun h_815 => ?_) (fun h_815 => ?_)
                · simp only [Int32.lt_iff_toInt_lt, Int32.le_iff_toInt_le, Int32.reduceToInt, ← Int32.toInt_inj] at h_815
                  refine v_iconst hC dX12_is_74 (v := 0) (by decide) ?_
                  refine v_istore_n hC dX12_is_75 (by decide) (lv' := [(2, .int 0), (3, .int i_774), (0, .ref a_0), (1, .ref (eK E a_1))]) rfl ?_
                  obtain ⟨v_816, h_817⟩ : ∃ v9 : Int32, i_774 + Int32.ofInt 1 = v9 := ⟨_, rfl⟩
                  have h_818 := add_v (b := 1) h_817 (by first | omega | (simp only [Int32.lt_iff_toInt_lt, Int32.le_iff_toInt_le, Int32.reduceToInt, ← Int32.toInt_inj, true_and, and_true, or_true, true_or, false_or, or_false, false_and, and_false, not_true_eq_false, not_false_eq_true] <;> omega)) (by first | omega | (simp only [Int32.lt_iff_toInt_lt, Int32.le_iff_toInt_le, Int32.reduceToInt, ← Int32.toInt_inj, true_and, and_true, or_true, true_or, false_or, or_false, false_and, and_false, not_true_eq_false, not_false_eq_true] <;> omega))
                  simp only [Int32.reduceToInt] at h_818
                  refine v_iinc hC dX12_is_76 (k := 1) rfl (v := v_816) h_817 (by decide) (lv' := [(3, .int v_816), (2, .int 0), (0, .ref a_0), (1, .ref (eK E a_1))]) rfl ?_
                  refine v_goto hC dX12_is_79 (tgt := 39) (by decide) ?_
                  refine v_pick [0, 1, 2, 3] rfl ?_
                  have fe_819 : fld (f a_0) 9 = (v_30 : Int32).toInt := by rw [e_22]; rfl
                  exact ih_781 v_816 (by first | omega | (simp only [Int32.lt_iff_toInt_lt, Int32.le_iff_toInt_le, Int32.reduceToInt, ← Int32.toInt_inj, true_and, and_true, or_true, true_or, false_or, or_false, false_and, and_false, not_true_eq_false, not_false_eq_true] <;> omega)) 0 (by decide) (cv_778.no (by omega) (by omega) (by omega) (fun q9 => h_815 (congrArg Int32.toInt ((bat_at (t := f (q 4)) e_803 h_807 (k := i_774) (F := fld (f a_0) 9) (by rw [fe_819]; omega) (by rw [fe_819]; omega) (by omega)).symm.trans q9)))) (by first | omega | (simp only [Int32.lt_iff_toInt_lt, Int32.le_iff_toInt_le, Int32.reduceToInt, ← Int32.toInt_inj, true_and, and_true, or_true, true_or, false_or, or_false, false_and, and_false, not_true_eq_false, not_false_eq_true] <;> omega))
                · simp only [Int32.lt_iff_toInt_lt, Int32.le_iff_toInt_le, Int32.reduceToInt, ← Int32.toInt_inj] at h_815
                  refine v_iconst hC dX12_is_70 (v := 1) (by decide) ?_
                  refine v_goto hC dX12_is_71 (tgt := 75) (by decide) ?_
                  refine v_istore_n hC dX12_is_75 (by decide) (lv' := [(2, .int 1), (3, .int i_774), (0, .ref a_0), (1, .ref (eK E a_1))]) rfl ?_
                  obtain ⟨v_820, h_821⟩ : ∃ v9 : Int32, i_774 + Int32.ofInt 1 = v9 := ⟨_, rfl⟩
                  have h_822 := add_v (b := 1) h_821 (by first | omega | (simp only [Int32.lt_iff_toInt_lt, Int32.le_iff_toInt_le, Int32.reduceToInt, ← Int32.toInt_inj, true_and, and_true, or_true, true_or, false_or, or_false, false_and, and_false, not_true_eq_false, not_false_eq_true] <;> omega)) (by first | omega | (simp only [Int32.lt_iff_toInt_lt, Int32.le_iff_toInt_le, Int32.reduceToInt, ← Int32.toInt_inj, true_and, and_true, or_true, true_or, false_or, or_false, false_and, and_false, not_true_eq_false, not_false_eq_true] <;> omega))
                  simp only [Int32.reduceToInt] at h_822
                  refine v_iinc hC dX12_is_76 (k := 1) rfl (v := v_820) h_821 (by decide) (lv' := [(3, .int v_820), (2, .int 1), (0, .ref a_0), (1, .ref (eK E a_1))]) rfl ?_
                  refine v_goto hC dX12_is_79 (tgt := 39) (by decide) ?_
                  refine v_pick [0, 1, 2, 3] rfl ?_
                  have fe_823 : fld (f a_0) 9 = (v_30 : Int32).toInt := by rw [e_22]; rfl
                  exact ih_781 v_820 (by first | omega | (simp only [Int32.lt_iff_toInt_lt, Int32.le_iff_toInt_le, Int32.reduceToInt, ← Int32.toInt_inj, true_and, and_true, or_true, true_or, false_or, or_false, false_and, and_false, not_true_eq_false, not_false_eq_true] <;> omega)) 1 (by decide) (cv_778.yes (by omega) (by omega) (by omega) ((bat_at (t := f (q 4)) e_803 h_807 (k := i_774) (F := fld (f a_0) 9) (by rw [fe_823]; omega) (by rw [fe_823]; omega) (by omega)).trans (Int32.toInt_inj.mp (by omega)))) (by first | omega | (simp only [Int32.lt_iff_toInt_lt, Int32.le_iff_toInt_le, Int32.reduceToInt, ← Int32.toInt_inj, true_and, and_true, or_true, true_or, false_or, or_false, false_and, and_false, not_true_eq_false, not_false_eq_true] <;> omega))
        refine v_pick [0, 1, 2, 3] rfl ?_
        have fe_824 : fld (f a_0) 8 = (v_28 : Int32).toInt := by rw [e_22]; rfl
        have fe_825 : fld (f a_0) 9 = (v_30 : Int32).toInt := by rw [e_22]; rfl
        have fe_826 : fld (f a_0) 10 = (v_32 : Int32).toInt := by rw [e_22]; rfl
        have fe_827 : fld (f a_0) 12 = (v_35 : Int32).toInt := by rw [e_22]; rfl
        exact lp_779 42 0 (by decide) 1 (by decide) (IWI.s1 (by rw [fe_827]; omega) (by rw [fe_826]; omega) (by rw [fe_824, fe_825]; omega)) (by decide)
set_option maxRecDepth 100000 in
set_option maxHeartbeats 1500000 in
theorem p_X12_see {l : Launch} {E : Ez} {L : List Nat} {f : Nat → va_E} {T : Nat → va_E → Prop} {a_0 : Nat} {a_1 : Int32} {q : Nat → Nat} (hW : WT T L f) (k_0 : isM T L E a_0 q) (g_1 : (0 ≤ a_1.toInt ∧ a_1.toInt ≤ 600)) : CI l yX12_see cX12_see 2 .int 0 0 0 E [.ref a_0, .int a_1] L f (fun r L1 f1 => L = L1 ∧ f = f1 ∧ r = (sv (f a_0) (f (q 4)) a_1)) := by
  refine ci_of (by decide) (Nat.le_of_ble_eq_true rfl) (fun z hz hnm hC hR => ?_)
  have hC : Cx z E cX12_see RX12 2 0 0 0 := hC
  subst hz
  show V z E 2 0 0 L f 0 [(0, .ref a_0), (1, .int a_1)] []
  obtain ⟨m_1, t_2, nq_21, k_3, k_4, k_5, k_6, k_7, k_8, k_9, k_10, k_11, k_12, k_13, k_14, k_15, k_16, k_17, k_18, k_19, k_20⟩ := id k_0
  refine v_iload_n hC dX12_see_0 rfl ?_
  refine v_aload_n hC dX12_see_1 rfl ?_
  obtain ⟨v_23, v_24, v_26, v_28, v_30, v_32, v_34, v_35, v_36, v_37, v_39, e_22, b_25, b_27, b_29, b_31, b_33, b_38, b_40⟩ := hW.at m_1 t_2
  refine v_get hC fl_X12_105 m_1 e_22 rfl dX12_see_2 ?_
  refine v_icmp_ge hC dX12_see_5 (tgt := 21) (by decide) (fun h_41 => ?_) (fun h_41 => ?_)
  · simp only [Int32.lt_iff_toInt_lt, Int32.le_iff_toInt_le, Int32.reduceToInt, ← Int32.toInt_inj] at h_41
    refine v_iconst hC dX12_see_21 (v := (-1)) (by decide) ?_
    have fe_42 : fld (f a_0) 7 = (v_26 : Int32).toInt := by rw [e_22]; rfl
    exact hR _ _ _ _ _ _ _ dX12_see_22 rfl (Nat.le_of_ble_eq_true rfl) (Nat.le_of_ble_eq_true rfl) ⟨rfl, rfl, (sv_out (by rw [fe_42]; omega))⟩
  · simp only [Int32.lt_iff_toInt_lt, Int32.le_iff_toInt_le, Int32.reduceToInt, ← Int32.toInt_inj] at h_41
    refine v_aload_n hC dX12_see_8 rfl ?_
    refine v_get hC fl_X12_24 m_1 e_22 rfl dX12_see_9 ?_
    refine v_iload_n hC dX12_see_12 rfl ?_
    obtain ⟨m_43, t_44⟩ := id k_6
    obtain ⟨g_46, e_45, fit_47⟩ := hW.at m_43 t_44
    obtain ⟨v_48, h_49⟩ : ∃ v9 : Int32, g_46 (a_1 : Int32).toNatClampNeg = v9 := ⟨_, rfl⟩
    refine v_bald hC m_43 e_45 (vp_in_iff.mpr (by first | omega | (simp only [Int32.lt_iff_toInt_lt, Int32.le_iff_toInt_le, Int32.reduceToInt, ← Int32.toInt_inj, true_and, and_true, or_true, true_or, false_or, or_false, false_and, and_false, not_true_eq_false, not_false_eq_true] <;> omega))) h_49 dX12_see_13 ?_
    refine v_sipush hC dX12_see_14 (v := 255) (by decide) ?_
    obtain ⟨v_50, h_51⟩ : ∃ v9 : Int32, v_48 &&& 255 = v9 := ⟨_, rfl⟩
    refine v_iand hC dX12_see_17 h_51 ?_
    have h_52 := and_v h_51 (by decide)
    try simp only [Int32.reduceToInt] at h_52
    refine v_goto hC dX12_see_18 (tgt := 22) (by decide) ?_
    have fe_53 : fld (f a_0) 7 = (v_26 : Int32).toInt := by rw [e_22]; rfl
    exact hR _ _ _ _ _ _ _ dX12_see_22 rfl (Nat.le_of_ble_eq_true rfl) (Nat.le_of_ble_eq_true rfl) ⟨rfl, rfl, (sv_in (by rw [fe_53]; omega) e_45 h_49 h_51)⟩
set_option maxRecDepth 100000 in
set_option maxHeartbeats 1500000 in
theorem p_X12_in {l : Launch} {E : Ez} {L : List Nat} {f : Nat → va_E} {T : Nat → va_E → Prop} {a_0 : Int64} {a_1 : Int64} {a_2 : Int64} (hW : WT T L f) : CI l yX12_in cX12_in 6 .boolean 0 0 0 E [.long a_0, .long a_1, .long a_2] L f (fun r L1 f1 => L = L1 ∧ f = f1 ∧ (0 ≤ r.toInt ∧ r.toInt ≤ 1) ∧ ((r.toInt = 1 ∧ a_1.toInt ≤ a_0.toInt ∧ a_0.toInt ≤ a_2.toInt) ∨ (r.toInt = 0 ∧ (a_0.toInt < a_1.toInt ∨ a_2.toInt < a_0.toInt)))) := by
  refine ci_of (by decide) (Nat.le_of_ble_eq_true rfl) (fun z hz hnm hC hR => ?_)
  have hC : Cx z E cX12_in RX12 6 0 0 0 := hC
  subst hz
  show V z E 6 0 0 L f 0 [(0, .long a_0), (2, .long a_1), (4, .long a_2)] []
  refine v_lload_n hC dX12_in_0 rfl ?_
  refine v_lload_n hC dX12_in_1 rfl ?_
  obtain ⟨v_1, h_2⟩ : ∃ v9 : Int32, lg_cmp (a_0 : Int64) a_1 = v9 := ⟨_, rfl⟩
  refine v_lcmp hC dX12_in_2 h_2 ?_
  refine v_if_lt hC dX12_in_3 (tgt := 17) (by decide) (fun h_3 => ?_) (fun h_3 => ?_)
  · rw [← h_2] at h_3
    have h_4 := (lgc_lt.mp h_3)
    simp only [Int64.lt_iff_toInt_lt, Int64.le_iff_toInt_le] at h_4
    refine v_iconst hC dX12_in_17 (v := 0) (by decide) ?_
    exact hR _ _ _ _ _ _ _ dX12_in_18 rfl (Nat.le_of_ble_eq_true rfl) (Nat.le_of_ble_eq_true rfl) ⟨rfl, rfl, (by decide), (by first | omega | (simp only [Int32.lt_iff_toInt_lt, Int32.le_iff_toInt_le, Int32.reduceToInt, ← Int32.toInt_inj, true_and, and_true, or_true, true_or, false_or, or_false, false_and, and_false, not_true_eq_false, not_false_eq_true] <;> omega))⟩
  · rw [← h_2] at h_3
    have h_5 := (mt lgc_lt.mpr h_3)
    simp only [Int64.lt_iff_toInt_lt, Int64.le_iff_toInt_le] at h_5
    refine v_lload_n hC dX12_in_6 rfl ?_
    refine v_lload hC dX12_in_7 rfl ?_
    obtain ⟨v_6, h_7⟩ : ∃ v9 : Int32, lg_cmp (a_0 : Int64) a_2 = v9 := ⟨_, rfl⟩
    refine v_lcmp hC dX12_in_9 h_7 ?_
    refine v_if_gt hC dX12_in_10 (tgt := 17) (by decide) (fun h_8 => ?_) (fun h_8 => ?_)
    · rw [← h_7] at h_8
      have h_9 := (lgc_gt.mp h_8)
      simp only [Int64.lt_iff_toInt_lt, Int64.le_iff_toInt_le] at h_9
      refine v_iconst hC dX12_in_17 (v := 0) (by decide) ?_
      exact hR _ _ _ _ _ _ _ dX12_in_18 rfl (Nat.le_of_ble_eq_true rfl) (Nat.le_of_ble_eq_true rfl) ⟨rfl, rfl, (by decide), (by first | omega | (simp only [Int32.lt_iff_toInt_lt, Int32.le_iff_toInt_le, Int32.reduceToInt, ← Int32.toInt_inj, true_and, and_true, or_true, true_or, false_or, or_false, false_and, and_false, not_true_eq_false, not_false_eq_true] <;> omega))⟩
    · rw [← h_7] at h_8
      have h_10 := (mt lgc_gt.mpr h_8)
      simp only [Int64.lt_iff_toInt_lt, Int64.le_iff_toInt_le] at h_10
      refine v_iconst hC dX12_in_13 (v := 1) (by decide) ?_
      refine v_goto hC dX12_in_14 (tgt := 18) (by decide) ?_
      exact hR _ _ _ _ _ _ _ dX12_in_18 rfl (Nat.le_of_ble_eq_true rfl) (Nat.le_of_ble_eq_true rfl) ⟨rfl, rfl, (by decide), (by first | omega | (simp only [Int32.lt_iff_toInt_lt, Int32.le_iff_toInt_le, Int32.reduceToInt, ← Int32.toInt_inj, true_and, and_true, or_true, true_or, false_or, or_false, false_and, and_false, not_true_eq_false, not_false_eq_true] <;> omega))⟩
set_option maxRecDepth 100000 in
set_option maxHeartbeats 1500000 in
theorem p_X12_advance {l : Launch} {E : Ez} {L : List Nat} {f : Nat → va_E} {T : Nat → va_E → Prop} {a_0 : Nat} {q : Nat → Nat} (hW : WT T L f) (k_0 : isM T L E a_0 q) : CV l yX12_advance cX12_advance 2 1 0 0 E [.ref a_0] L f (fun L1 f1 => L = L1 ∧ WT T L f1 ∧ FR [12] f f1 ∧ (fld (f a_0) 8 ≤ fld (f1 a_0) 9 ∧ fld (f1 a_0) 9 ≤ fld (f1 a_0) 8) ∧ (fld (f1 a_0) 10 = 0 ∨ fld (f1 a_0) 9 < fld (f1 a_0) 8) ∧ fld (f1 a_0) 12 = fld (f a_0) 12 ∧ fld (f1 a_0) 20 = fld (f a_0) 20) := by
  refine cv_of (by decide) (Nat.le_of_ble_eq_true rfl) (fun z hz hnm hC hR => ?_)
  have hC : Cx z E cX12_advance RX12 2 1 0 0 := hC
  subst hz
  show V z E 2 0 0 L f 0 [(0, .ref a_0)] []
  obtain ⟨m_1, t_2, nq_21, k_3, k_4, k_5, k_6, k_7, k_8, k_9, k_10, k_11, k_12, k_13, k_14, k_15, k_16, k_17, k_18, k_19, k_20⟩ := id k_0
  obtain ⟨v_23, v_24, v_26, v_28, v_30, v_32, v_34, v_35, v_36, v_37, v_39, e_22, b_25, b_27, b_29, b_31, b_33, b_38, b_40⟩ := hW.at m_1 t_2
  have mz_41 : fld (f a_0) 8 = v_28.toInt := by rw [e_22]; rfl
  have mz_42 : fld (f a_0) 12 = v_35.toInt := by rw [e_22]; rfl
  have mz_43 : fld (f a_0) 20 = v_39.toInt := by rw [e_22]; rfl
  have lp_2816 : ∀ (n_2817 : Nat) (f_2810 : Nat → va_E) (hW_2811 : WT T L f_2810) (hF_2812 : FR [12] f f_2810)  (nv_2813 : v_28.toInt ≤ fld (f_2810 a_0) 8) (nv_2814 : fld (f_2810 a_0) 12 = v_35.toInt) (nv_2815 : fld (f_2810 a_0) 20 = v_39.toInt) (hm_2819 : 600 - fld (f_2810 a_0) 8 < (n_2817 : Int)), V z E 2 0 0 L f_2810 0 [(0, .ref a_0)] [] := by
    intro n_2817
    induction n_2817 with
    | zero =>
      intro f_2810 hW_2811 hF_2812 nv_2813 nv_2814 nv_2815 hm_2819
      obtain ⟨v_2821, v_2822, v_2824, v_2826, v_2828, v_2830, v_2832, v_2833, v_2834, v_2835, v_2837, e_2820, b_2823, b_2825, b_2827, b_2829, b_2831, b_2836, b_2838⟩ := hW_2811.at m_1 t_2
      have fe_2839 : fld (f_2810 a_0) 8 = (v_2826 : Int32).toInt := by rw [e_2820]; rfl
      rw [fe_2839] at nv_2813
      have fe_2840 : fld (f_2810 a_0) 12 = (v_2833 : Int32).toInt := by rw [e_2820]; rfl
      rw [fe_2840] at nv_2814
      have fe_2841 : fld (f_2810 a_0) 20 = (v_2837 : Int32).toInt := by rw [e_2820]; rfl
      rw [fe_2841] at nv_2815
      have h_2842 : fld (f_2810 a_0) 8 = (v_2826 : Int32).toInt := by rw [e_2820]; rfl
      rw [h_2842] at hm_2819
      exfalso; omega
    | succ n_2817 ih_2818 =>
      intro f_2810 hW_2811 hF_2812 nv_2813 nv_2814 nv_2815 hm_2819
      obtain ⟨v_2821, v_2822, v_2824, v_2826, v_2828, v_2830, v_2832, v_2833, v_2834, v_2835, v_2837, e_2820, b_2823, b_2825, b_2827, b_2829, b_2831, b_2836, b_2838⟩ := hW_2811.at m_1 t_2
      have fe_2839 : fld (f_2810 a_0) 8 = (v_2826 : Int32).toInt := by rw [e_2820]; rfl
      rw [fe_2839] at nv_2813
      have fe_2840 : fld (f_2810 a_0) 12 = (v_2833 : Int32).toInt := by rw [e_2820]; rfl
      rw [fe_2840] at nv_2814
      have fe_2841 : fld (f_2810 a_0) 20 = (v_2837 : Int32).toInt := by rw [e_2820]; rfl
      rw [fe_2841] at nv_2815
      have h_2842 : fld (f_2810 a_0) 8 = (v_2826 : Int32).toInt := by rw [e_2820]; rfl
      rw [h_2842] at hm_2819
      refine v_aload_n hC dX12_advance_0 rfl ?_
      refine v_aload_n hC dX12_advance_1 rfl ?_
      refine v_get hC fl_X12_108 m_1 e_2820 rfl dX12_advance_2 ?_
      refine v_vi hC (rest := []) m_1 e_2820 rfl mi_X12_see ms_X12_see (p_X12_see hW_2811 k_0 (by first | omega | (simp only [Int32.lt_iff_toInt_lt, Int32.le_iff_toInt_le, Int32.reduceToInt, ← Int32.toInt_inj, true_and, and_true, or_true, true_or, false_or, or_false, false_and, and_false, not_true_eq_false, not_false_eq_true] <;> omega))) mx_X12_see ml_X12_114 (by decide) rfl (cells1 := 0) (slots1 := 0) (by decide) (by decide) (Nat.le_of_ble_eq_true rfl) (Nat.le_of_ble_eq_true rfl) rfl (Nat.le_of_ble_eq_true rfl) dX12_advance_5 (fun r_2843 L_2844 f_2845 h_2846 => ?_)
      obtain ⟨rfl, rfl, rfl⟩ := h_2846
      have sb_2849 := sv_b (f_2810 a_0) (f_2810 (q 4)) v_2826
      have fe_2850 : fld (f_2810 a_0) 7 = (v_2824 : Int32).toInt := by rw [e_2820]; rfl
      rw [fe_2850] at sb_2849
      refine v_bipush hC dX12_advance_8 (v := 32) (by decide) ?_
      refine v_icmp_eq hC dX12_advance_10 (tgt := 26) (by decide) (fun h_2851 => ?_) (fun h_2851 => ?_)
      · simp only [Int32.lt_iff_toInt_lt, Int32.le_iff_toInt_le, Int32.reduceToInt, ← Int32.toInt_inj] at h_2851
        refine v_aload_n hC dX12_advance_26 rfl ?_
        refine v_dup hC dX12_advance_27 rfl ?_
        refine v_get hC fl_X12_108 m_1 e_2820 rfl dX12_advance_28 ?_
        refine v_iconst hC dX12_advance_31 (v := 1) (by decide) ?_
        obtain ⟨v_2864, h_2865⟩ : ∃ v9 : Int32, v_2826 + 1 = v9 := ⟨_, rfl⟩
        refine v_iadd hC dX12_advance_32 h_2865 ?_
        have h_2866 := add_v h_2865 (by first | omega | (simp only [Int32.lt_iff_toInt_lt, Int32.le_iff_toInt_le, Int32.reduceToInt, ← Int32.toInt_inj, true_and, and_true, or_true, true_or, false_or, or_false, false_and, and_false, not_true_eq_false, not_false_eq_true] <;> omega)) (by first | omega | (simp only [Int32.lt_iff_toInt_lt, Int32.le_iff_toInt_le, Int32.reduceToInt, ← Int32.toInt_inj, true_and, and_true, or_true, true_or, false_or, or_false, false_and, and_false, not_true_eq_false, not_false_eq_true] <;> omega))
        try simp only [Int32.reduceToInt] at h_2866
        refine v_put hC fl_X12_108 m_1 e_2820 rfl rfl (Nat.le_of_ble_eq_true rfl) (fs' := [.int v_2821, .ref (q 1), .ref (q 2), .ref (q 3), .ref (q 4), .int v_2822, .ref (q 6), .int v_2824, .int v_2864, .int v_2828, .int v_2830, .int v_2832, .int v_2833, .int v_2834, .ref (q 14), .ref (q 15), .ref (q 16), .int v_2835, .ref (q 18), .ref (q 19), .int v_2837, .ref (q 21), .ref (q 22), .ref (q 23), .ref (q 24), .ref (q 25), .ref (q 26), .ref (q 27), .ref (q 28)]) rfl dX12_advance_33 (fun f_2867 hf_2868 hk_2869 => ?_)
        have hW_2870 := hW_2811.up hf_2868 hk_2869 t_2 ⟨v_2821, v_2822, v_2824, v_2864, v_2828, v_2830, v_2832, v_2833, v_2834, v_2835, v_2837, rfl, (by first | omega | (simp only [Int32.lt_iff_toInt_lt, Int32.le_iff_toInt_le, Int32.reduceToInt, ← Int32.toInt_inj, true_and, and_true, or_true, true_or, false_or, or_false, false_and, and_false, not_true_eq_false, not_false_eq_true] <;> omega)), (by first | omega | (simp only [Int32.lt_iff_toInt_lt, Int32.le_iff_toInt_le, Int32.reduceToInt, ← Int32.toInt_inj, true_and, and_true, or_true, true_or, false_or, or_false, false_and, and_false, not_true_eq_false, not_false_eq_true] <;> omega)), (by first | omega | (simp only [Int32.lt_iff_toInt_lt, Int32.le_iff_toInt_le, Int32.reduceToInt, ← Int32.toInt_inj, true_and, and_true, or_true, true_or, false_or, or_false, false_and, and_false, not_true_eq_false, not_false_eq_true] <;> omega)), (by first | omega | (simp only [Int32.lt_iff_toInt_lt, Int32.le_iff_toInt_le, Int32.reduceToInt, ← Int32.toInt_inj, true_and, and_true, or_true, true_or, false_or, or_false, false_and, and_false, not_true_eq_false, not_false_eq_true] <;> omega)), (by first | omega | (simp only [Int32.lt_iff_toInt_lt, Int32.le_iff_toInt_le, Int32.reduceToInt, ← Int32.toInt_inj, true_and, and_true, or_true, true_or, false_or, or_false, false_and, and_false, not_true_eq_false, not_false_eq_true] <;> omega)), (by first | omega | (simp only [Int32.lt_iff_toInt_lt, Int32.le_iff_toInt_le, Int32.reduceToInt, ← Int32.toInt_inj, true_and, and_true, or_true, true_or, false_or, or_false, false_and, and_false, not_true_eq_false, not_false_eq_true] <;> omega)), (by first | omega | (simp only [Int32.lt_iff_toInt_lt, Int32.le_iff_toInt_le, Int32.reduceToInt, ← Int32.toInt_inj, true_and, and_true, or_true, true_or, false_or, or_false, false_and, and_false, not_true_eq_false, not_false_eq_true] <;> omega))⟩
        have fr_2871 := FR.w hk_2869 e_2820 (k := 12) rfl
        refine v_goto hC dX12_advance_36 (tgt := 0) (by decide) ?_
        refine v_pick [0] rfl ?_
        have fe_2872 : fld (f_2867 a_0) 8 = (v_2864 : Int32).toInt := by rw [hf_2868]; rfl
        have fe_2873 : fld (f_2867 a_0) 12 = (v_2833 : Int32).toInt := by rw [hf_2868]; rfl
        have fe_2874 : fld (f_2867 a_0) 20 = (v_2837 : Int32).toInt := by rw [hf_2868]; rfl
        have h_2875 : fld (f_2867 a_0) 8 = (v_2864 : Int32).toInt := by rw [hf_2868]; rfl
        exact ih_2818 f_2867 hW_2870 ((hF_2812.tr fr_2871).mono rfl) (by rw [fe_2872] <;> first | omega | (simp only [Int32.lt_iff_toInt_lt, Int32.le_iff_toInt_le, Int32.reduceToInt, ← Int32.toInt_inj, true_and, and_true, or_true, true_or, false_or, or_false, false_and, and_false, not_true_eq_false, not_false_eq_true] <;> omega)) (by rw [fe_2873] <;> first | omega | (simp only [Int32.lt_iff_toInt_lt, Int32.le_iff_toInt_le, Int32.reduceToInt, ← Int32.toInt_inj, true_and, and_true, or_true, true_or, false_or, or_false, false_and, and_false, not_true_eq_false, not_false_eq_true] <;> omega)) (by rw [fe_2874] <;> first | omega | (simp only [Int32.lt_iff_toInt_lt, Int32.le_iff_toInt_le, Int32.reduceToInt, ← Int32.toInt_inj, true_and, and_true, or_true, true_or, false_or, or_false, false_and, and_false, not_true_eq_false, not_false_eq_true] <;> omega)) (by rw [h_2875]; omega)
      · simp only [Int32.lt_iff_toInt_lt, Int32.le_iff_toInt_le, Int32.reduceToInt, ← Int32.toInt_inj] at h_2851
        refine v_aload_n hC dX12_advance_13 rfl ?_
        refine v_aload_n hC dX12_advance_14 rfl ?_
        refine v_get hC fl_X12_108 m_1 e_2820 rfl dX12_advance_15 ?_
        refine v_vi hC (rest := []) m_1 e_2820 rfl mi_X12_see ms_X12_see (p_X12_see hW_2811 k_0 (by first | omega | (simp only [Int32.lt_iff_toInt_lt, Int32.le_iff_toInt_le, Int32.reduceToInt, ← Int32.toInt_inj, true_and, and_true, or_true, true_or, false_or, or_false, false_and, and_false, not_true_eq_false, not_false_eq_true] <;> omega))) mx_X12_see ml_X12_114 (by decide) rfl (cells1 := 0) (slots1 := 0) (by decide) (by decide) (Nat.le_of_ble_eq_true rfl) (Nat.le_of_ble_eq_true rfl) rfl (Nat.le_of_ble_eq_true rfl) dX12_advance_18 (fun r_2876 L_2877 f_2878 h_2879 => ?_)
        obtain ⟨rfl, rfl, rfl⟩ := h_2879
        have sb_2882 := sv_b (f_2810 a_0) (f_2810 (q 4)) v_2826
        have fe_2883 : fld (f_2810 a_0) 7 = (v_2824 : Int32).toInt := by rw [e_2820]; rfl
        rw [fe_2883] at sb_2882
        refine v_bipush hC dX12_advance_21 (v := 10) (by decide) ?_
        refine v_icmp_ne hC dX12_advance_23 (tgt := 39) (by decide) (fun h_2884 => ?_) (fun h_2884 => ?_)
        · simp only [Int32.lt_iff_toInt_lt, Int32.le_iff_toInt_le, Int32.reduceToInt, ← Int32.toInt_inj] at h_2884
          refine v_aload_n hC dX12_advance_39 rfl ?_
          refine v_aload_n hC dX12_advance_40 rfl ?_
          refine v_get hC fl_X12_108 m_1 e_2820 rfl dX12_advance_41 ?_
          refine v_put hC fl_X12_117 m_1 e_2820 rfl rfl (Nat.le_of_ble_eq_true rfl) (fs' := [.int v_2821, .ref (q 1), .ref (q 2), .ref (q 3), .ref (q 4), .int v_2822, .ref (q 6), .int v_2824, .int v_2826, .int v_2826, .int v_2830, .int v_2832, .int v_2833, .int v_2834, .ref (q 14), .ref (q 15), .ref (q 16), .int v_2835, .ref (q 18), .ref (q 19), .int v_2837, .ref (q 21), .ref (q 22), .ref (q 23), .ref (q 24), .ref (q 25), .ref (q 26), .ref (q 27), .ref (q 28)]) rfl dX12_advance_44 (fun f_2897 hf_2898 hk_2899 => ?_)
          have hW_2900 := hW_2811.up hf_2898 hk_2899 t_2 ⟨v_2821, v_2822, v_2824, v_2826, v_2826, v_2830, v_2832, v_2833, v_2834, v_2835, v_2837, rfl, (by first | omega | (simp only [Int32.lt_iff_toInt_lt, Int32.le_iff_toInt_le, Int32.reduceToInt, ← Int32.toInt_inj, true_and, and_true, or_true, true_or, false_or, or_false, false_and, and_false, not_true_eq_false, not_false_eq_true] <;> omega)), (by first | omega | (simp only [Int32.lt_iff_toInt_lt, Int32.le_iff_toInt_le, Int32.reduceToInt, ← Int32.toInt_inj, true_and, and_true, or_true, true_or, false_or, or_false, false_and, and_false, not_true_eq_false, not_false_eq_true] <;> omega)), (by first | omega | (simp only [Int32.lt_iff_toInt_lt, Int32.le_iff_toInt_le, Int32.reduceToInt, ← Int32.toInt_inj, true_and, and_true, or_true, true_or, false_or, or_false, false_and, and_false, not_true_eq_false, not_false_eq_true] <;> omega)), (by first | omega | (simp only [Int32.lt_iff_toInt_lt, Int32.le_iff_toInt_le, Int32.reduceToInt, ← Int32.toInt_inj, true_and, and_true, or_true, true_or, false_or, or_false, false_and, and_false, not_true_eq_false, not_false_eq_true] <;> omega)), (by first | omega | (simp only [Int32.lt_iff_toInt_lt, Int32.le_iff_toInt_le, Int32.reduceToInt, ← Int32.toInt_inj, true_and, and_true, or_true, true_or, false_or, or_false, false_and, and_false, not_true_eq_false, not_false_eq_true] <;> omega)), (by first | omega | (simp only [Int32.lt_iff_toInt_lt, Int32.le_iff_toInt_le, Int32.reduceToInt, ← Int32.toInt_inj, true_and, and_true, or_true, true_or, false_or, or_false, false_and, and_false, not_true_eq_false, not_false_eq_true] <;> omega)), (by first | omega | (simp only [Int32.lt_iff_toInt_lt, Int32.le_iff_toInt_le, Int32.reduceToInt, ← Int32.toInt_inj, true_and, and_true, or_true, true_or, false_or, or_false, false_and, and_false, not_true_eq_false, not_false_eq_true] <;> omega))⟩
          have fr_2901 := FR.w hk_2899 e_2820 (k := 12) rfl
          refine v_aload_n hC dX12_advance_47 rfl ?_
          refine v_aload_n hC dX12_advance_48 rfl ?_
          refine v_get hC fl_X12_108 m_1 hf_2898 rfl dX12_advance_49 ?_
          refine v_vi hC (rest := []) m_1 hf_2898 rfl mi_X12_see ms_X12_see (p_X12_see hW_2900 k_0 (by first | omega | (simp only [Int32.lt_iff_toInt_lt, Int32.le_iff_toInt_le, Int32.reduceToInt, ← Int32.toInt_inj, true_and, and_true, or_true, true_or, false_or, or_false, false_and, and_false, not_true_eq_false, not_false_eq_true] <;> omega))) mx_X12_see ml_X12_114 (by decide) rfl (cells1 := 0) (slots1 := 0) (by decide) (by decide) (Nat.le_of_ble_eq_true rfl) (Nat.le_of_ble_eq_true rfl) rfl (Nat.le_of_ble_eq_true rfl) dX12_advance_52 (fun r_2902 L_2903 f_2904 h_2905 => ?_)
          obtain ⟨rfl, rfl, rfl⟩ := h_2905
          have sb_2908 := sv_b (f_2897 a_0) (f_2897 (q 4)) v_2826
          have fe_2909 : fld (f_2897 a_0) 7 = (v_2824 : Int32).toInt := by rw [hf_2898]; rfl
          rw [fe_2909] at sb_2908
          obtain ⟨m_2910, t_2911⟩ := id k_6
          obtain ⟨g_2913, e_2912, fit_2914⟩ := hW_2900.at m_2910 t_2911
          have fe_2915 : fld (f_2897 a_0) 7 = (v_2824 : Int32).toInt := by rw [hf_2898]; rfl
          refine v_istore_n hC dX12_advance_55 (by decide) (lv' := [(1, .int (sv (f_2897 a_0) (f_2897 (q 4)) v_2826)), (0, .ref a_0)]) rfl ?_
          refine v_iload_n hC dX12_advance_56 rfl ?_
          refine v_iconst hC dX12_advance_57 (v := (-1)) (by decide) ?_
          refine v_icmp_ne hC dX12_advance_58 (tgt := 69) (by decide) (fun h_2916 => ?_) (fun h_2916 => ?_)
          · simp only [Int32.lt_iff_toInt_lt, Int32.le_iff_toInt_le, Int32.reduceToInt, ← Int32.toInt_inj] at h_2916
            refine v_iload_n hC dX12_advance_69 rfl ?_
            obtain ⟨v_2917, h_2918⟩ : ∃ v9 : Int64, (sv (f_2897 a_0) (f_2897 (q 4)) v_2826).toInt64 = v9 := ⟨_, rfl⟩
            refine v_i2l hC dX12_advance_70 h_2918 ?_
            have h_2919 : v_2917.toInt = (sv (f_2897 a_0) (f_2897 (q 4)) v_2826).toInt := by rw [← h_2918]; exact Int32.toInt_toInt64 _
            refine v_ldc2 hC kl_X12_123 dX12_advance_71 ?_
            refine v_ldc2 hC kl_X12_125 dX12_advance_74 ?_
            refine v_si hC (rest := []) mt_X12_in (p_X12_in hW_2900) mx_X12_in ml_X12_79 (by decide) rfl (cells1 := 0) (slots1 := 0) (by decide) (by decide) (Nat.le_of_ble_eq_true rfl) (Nat.le_of_ble_eq_true rfl) rfl (Nat.le_of_ble_eq_true rfl) dX12_advance_77 (fun r_2920 L_2921 f_2922 h_2923 => ?_)
            obtain ⟨rfl, rfl, b_2924, x_2925⟩ := h_2923
            try simp only [Int32.reduceToInt, Int64.reduceToInt] at x_2925
            refine v_if_eq hC dX12_advance_80 (tgt := 125) (by decide) (fun h_2928 => ?_) (fun h_2928 => ?_)
            · simp only [Int32.lt_iff_toInt_lt, Int32.le_iff_toInt_le, Int32.reduceToInt, ← Int32.toInt_inj] at h_2928
              refine v_iload_n hC dX12_advance_125 rfl ?_
              obtain ⟨v_2929, h_2930⟩ : ∃ v9 : Int64, (sv (f_2897 a_0) (f_2897 (q 4)) v_2826).toInt64 = v9 := ⟨_, rfl⟩
              refine v_i2l hC dX12_advance_126 h_2930 ?_
              have h_2931 : v_2929.toInt = (sv (f_2897 a_0) (f_2897 (q 4)) v_2826).toInt := by rw [← h_2930]; exact Int32.toInt_toInt64 _
              refine v_ldc2 hC kl_X12_127 dX12_advance_127 ?_
              refine v_ldc2 hC kl_X12_129 dX12_advance_130 ?_
              refine v_si hC (rest := []) mt_X12_in (p_X12_in hW_2900) mx_X12_in ml_X12_79 (by decide) rfl (cells1 := 0) (slots1 := 0) (by decide) (by decide) (Nat.le_of_ble_eq_true rfl) (Nat.le_of_ble_eq_true rfl) rfl (Nat.le_of_ble_eq_true rfl) dX12_advance_133 (fun r_2932 L_2933 f_2934 h_2935 => ?_)
              obtain ⟨rfl, rfl, b_2936, x_2937⟩ := h_2935
              try simp only [Int32.reduceToInt, Int64.reduceToInt] at x_2937
              refine v_if_eq hC dX12_advance_136 (tgt := 215) (by decide) (fun h_2940 => ?_) (fun h_2940 => ?_)
              · simp only [Int32.lt_iff_toInt_lt, Int32.le_iff_toInt_le, Int32.reduceToInt, ← Int32.toInt_inj] at h_2940
                refine v_aload_n hC dX12_advance_215 rfl ?_
                refine v_iload_n hC dX12_advance_216 rfl ?_
                refine v_bipush hC dX12_advance_217 (v := 59) (by decide) ?_
                refine v_icmp_ne hC dX12_advance_219 (tgt := 226) (by decide) (fun h_2941 => ?_) (fun h_2941 => ?_)
                · simp only [Int32.lt_iff_toInt_lt, Int32.le_iff_toInt_le, Int32.reduceToInt, ← Int32.toInt_inj] at h_2941
                  refine v_iconst hC dX12_advance_226 (v := 4) (by decide) ?_
                  refine v_put hC fl_X12_120 m_1 hf_2898 rfl rfl (Nat.le_of_ble_eq_true rfl) (fs' := [.int v_2821, .ref (q 1), .ref (q 2), .ref (q 3), .ref (q 4), .int v_2822, .ref (q 6), .int v_2824, .int v_2826, .int v_2826, .int 4, .int v_2832, .int v_2833, .int v_2834, .ref (q 14), .ref (q 15), .ref (q 16), .int v_2835, .ref (q 18), .ref (q 19), .int v_2837, .ref (q 21), .ref (q 22), .ref (q 23), .ref (q 24), .ref (q 25), .ref (q 26), .ref (q 27), .ref (q 28)]) rfl dX12_advance_227 (fun f_2942 hf_2943 hk_2944 => ?_)
                  have hW_2945 := hW_2900.up hf_2943 hk_2944 t_2 ⟨v_2821, v_2822, v_2824, v_2826, v_2826, 4, v_2832, v_2833, v_2834, v_2835, v_2837, rfl, (by first | omega | (simp only [Int32.lt_iff_toInt_lt, Int32.le_iff_toInt_le, Int32.reduceToInt, ← Int32.toInt_inj, true_and, and_true, or_true, true_or, false_or, or_false, false_and, and_false, not_true_eq_false, not_false_eq_true] <;> omega)), (by first | omega | (simp only [Int32.lt_iff_toInt_lt, Int32.le_iff_toInt_le, Int32.reduceToInt, ← Int32.toInt_inj, true_and, and_true, or_true, true_or, false_or, or_false, false_and, and_false, not_true_eq_false, not_false_eq_true] <;> omega)), (by first | omega | (simp only [Int32.lt_iff_toInt_lt, Int32.le_iff_toInt_le, Int32.reduceToInt, ← Int32.toInt_inj, true_and, and_true, or_true, true_or, false_or, or_false, false_and, and_false, not_true_eq_false, not_false_eq_true] <;> omega)), (by first | omega | (simp only [Int32.lt_iff_toInt_lt, Int32.le_iff_toInt_le, Int32.reduceToInt, ← Int32.toInt_inj, true_and, and_true, or_true, true_or, false_or, or_false, false_and, and_false, not_true_eq_false, not_false_eq_true] <;> omega)), (by decide), (by first | omega | (simp only [Int32.lt_iff_toInt_lt, Int32.le_iff_toInt_le, Int32.reduceToInt, ← Int32.toInt_inj, true_and, and_true, or_true, true_or, false_or, or_false, false_and, and_false, not_true_eq_false, not_false_eq_true] <;> omega)), (by first | omega | (simp only [Int32.lt_iff_toInt_lt, Int32.le_iff_toInt_le, Int32.reduceToInt, ← Int32.toInt_inj, true_and, and_true, or_true, true_or, false_or, or_false, false_and, and_false, not_true_eq_false, not_false_eq_true] <;> omega))⟩
                  have hf_2946 := (hk_2944 (q 4) (ne_kd e_2912 hf_2898 rfl)).trans e_2912
                  have fr_2947 := FR.w hk_2944 hf_2898 (k := 12) rfl
                  refine v_aload_n hC dX12_advance_230 rfl ?_
                  refine v_dup hC dX12_advance_231 rfl ?_
                  refine v_get hC fl_X12_108 m_1 hf_2943 rfl dX12_advance_232 ?_
                  refine v_iconst hC dX12_advance_235 (v := 1) (by decide) ?_
                  obtain ⟨v_2948, h_2949⟩ : ∃ v9 : Int32, v_2826 + 1 = v9 := ⟨_, rfl⟩
                  refine v_iadd hC dX12_advance_236 h_2949 ?_
                  have h_2950 := add_v h_2949 (by first | omega | (simp only [Int32.lt_iff_toInt_lt, Int32.le_iff_toInt_le, Int32.reduceToInt, ← Int32.toInt_inj, true_and, and_true, or_true, true_or, false_or, or_false, false_and, and_false, not_true_eq_false, not_false_eq_true] <;> omega)) (by first | omega | (simp only [Int32.lt_iff_toInt_lt, Int32.le_iff_toInt_le, Int32.reduceToInt, ← Int32.toInt_inj, true_and, and_true, or_true, true_or, false_or, or_false, false_and, and_false, not_true_eq_false, not_false_eq_true] <;> omega))
                  try simp only [Int32.reduceToInt] at h_2950
                  refine v_put hC fl_X12_108 m_1 hf_2943 rfl rfl (Nat.le_of_ble_eq_true rfl) (fs' := [.int v_2821, .ref (q 1), .ref (q 2), .ref (q 3), .ref (q 4), .int v_2822, .ref (q 6), .int v_2824, .int v_2948, .int v_2826, .int 4, .int v_2832, .int v_2833, .int v_2834, .ref (q 14), .ref (q 15), .ref (q 16), .int v_2835, .ref (q 18), .ref (q 19), .int v_2837, .ref (q 21), .ref (q 22), .ref (q 23), .ref (q 24), .ref (q 25), .ref (q 26), .ref (q 27), .ref (q 28)]) rfl dX12_advance_237 (fun f_2951 hf_2952 hk_2953 => ?_)
                  have hW_2954 := hW_2945.up hf_2952 hk_2953 t_2 ⟨v_2821, v_2822, v_2824, v_2948, v_2826, 4, v_2832, v_2833, v_2834, v_2835, v_2837, rfl, (by first | omega | (simp only [Int32.lt_iff_toInt_lt, Int32.le_iff_toInt_le, Int32.reduceToInt, ← Int32.toInt_inj, true_and, and_true, or_true, true_or, false_or, or_false, false_and, and_false, not_true_eq_false, not_false_eq_true] <;> omega)), (by first | omega | (simp only [Int32.lt_iff_toInt_lt, Int32.le_iff_toInt_le, Int32.reduceToInt, ← Int32.toInt_inj, true_and, and_true, or_true, true_or, false_or, or_false, false_and, and_false, not_true_eq_false, not_false_eq_true] <;> omega)), (by first | omega | (simp only [Int32.lt_iff_toInt_lt, Int32.le_iff_toInt_le, Int32.reduceToInt, ← Int32.toInt_inj, true_and, and_true, or_true, true_or, false_or, or_false, false_and, and_false, not_true_eq_false, not_false_eq_true] <;> omega)), (by first | omega | (simp only [Int32.lt_iff_toInt_lt, Int32.le_iff_toInt_le, Int32.reduceToInt, ← Int32.toInt_inj, true_and, and_true, or_true, true_or, false_or, or_false, false_and, and_false, not_true_eq_false, not_false_eq_true] <;> omega)), (by decide), (by first | omega | (simp only [Int32.lt_iff_toInt_lt, Int32.le_iff_toInt_le, Int32.reduceToInt, ← Int32.toInt_inj, true_and, and_true, or_true, true_or, false_or, or_false, false_and, and_false, not_true_eq_false, not_false_eq_true] <;> omega)), (by first | omega | (simp only [Int32.lt_iff_toInt_lt, Int32.le_iff_toInt_le, Int32.reduceToInt, ← Int32.toInt_inj, true_and, and_true, or_true, true_or, false_or, or_false, false_and, and_false, not_true_eq_false, not_false_eq_true] <;> omega))⟩
                  have hf_2955 := (hk_2953 (q 4) (ne_kd hf_2946 hf_2943 rfl)).trans hf_2946
                  have fr_2956 := FR.w hk_2953 hf_2943 (k := 12) rfl
                  have fe_2957 : fld (f_2951 a_0) 8 = (v_2948 : Int32).toInt := by rw [hf_2952]; rfl
                  have fe_2958 : fld (f_2951 a_0) 9 = (v_2826 : Int32).toInt := by rw [hf_2952]; rfl
                  have fe_2959 : fld (f_2951 a_0) 8 = (v_2948 : Int32).toInt := by rw [hf_2952]; rfl
                  have fe_2960 : fld (f_2951 a_0) 9 = (v_2826 : Int32).toInt := by rw [hf_2952]; rfl
                  have fe_2961 : fld (f_2951 a_0) 10 = (4 : Int32).toInt := by rw [hf_2952]; rfl
                  simp only [Int32.reduceToInt] at fe_2961
                  have fe_2962 : fld (f_2951 a_0) 12 = (v_2833 : Int32).toInt := by rw [hf_2952]; rfl
                  have fe_2963 : fld (f_2951 a_0) 20 = (v_2837 : Int32).toInt := by rw [hf_2952]; rfl
                  exact hR _ _ _ _ _ _ dX12_advance_240 (Nat.le_of_ble_eq_true rfl) (Nat.le_of_ble_eq_true rfl) ⟨rfl, hW_2954, ((((hF_2812.tr fr_2901).tr fr_2947).tr fr_2956).mono rfl), (by simp only [fe_2957, fe_2958, mz_41, true_and, and_true, or_true, true_or, false_or, or_false, false_and, and_false, not_true_eq_false, not_false_eq_true] <;> first | omega | (simp only [Int32.lt_iff_toInt_lt, Int32.le_iff_toInt_le, Int32.reduceToInt, ← Int32.toInt_inj, true_and, and_true, or_true, true_or, false_or, or_false, false_and, and_false, not_true_eq_false, not_false_eq_true] <;> omega)), (by simp only [fe_2959, fe_2960, fe_2961, true_and, and_true, or_true, true_or, false_or, or_false, false_and, and_false, not_true_eq_false, not_false_eq_true] <;> first | omega | (simp only [Int32.lt_iff_toInt_lt, Int32.le_iff_toInt_le, Int32.reduceToInt, ← Int32.toInt_inj, true_and, and_true, or_true, true_or, false_or, or_false, false_and, and_false, not_true_eq_false, not_false_eq_true] <;> omega)), (by simp only [fe_2962, mz_42, true_and, and_true, or_true, true_or, false_or, or_false, false_and, and_false, not_true_eq_false, not_false_eq_true] <;> first | omega | (simp only [Int32.lt_iff_toInt_lt, Int32.le_iff_toInt_le, Int32.reduceToInt, ← Int32.toInt_inj, true_and, and_true, or_true, true_or, false_or, or_false, false_and, and_false, not_true_eq_false, not_false_eq_true] <;> omega)), (by simp only [fe_2963, mz_43, true_and, and_true, or_true, true_or, false_or, or_false, false_and, and_false, not_true_eq_false, not_false_eq_true] <;> first | omega | (simp only [Int32.lt_iff_toInt_lt, Int32.le_iff_toInt_le, Int32.reduceToInt, ← Int32.toInt_inj, true_and, and_true, or_true, true_or, false_or, or_false, false_and, and_false, not_true_eq_false, not_false_eq_true] <;> omega))⟩
                · simp only [Int32.lt_iff_toInt_lt, Int32.le_iff_toInt_le, Int32.reduceToInt, ← Int32.toInt_inj] at h_2941
                  refine v_iconst hC dX12_advance_222 (v := 3) (by decide) ?_
                  refine v_goto hC dX12_advance_223 (tgt := 227) (by decide) ?_
                  refine v_put hC fl_X12_120 m_1 hf_2898 rfl rfl (Nat.le_of_ble_eq_true rfl) (fs' := [.int v_2821, .ref (q 1), .ref (q 2), .ref (q 3), .ref (q 4), .int v_2822, .ref (q 6), .int v_2824, .int v_2826, .int v_2826, .int 3, .int v_2832, .int v_2833, .int v_2834, .ref (q 14), .ref (q 15), .ref (q 16), .int v_2835, .ref (q 18), .ref (q 19), .int v_2837, .ref (q 21), .ref (q 22), .ref (q 23), .ref (q 24), .ref (q 25), .ref (q 26), .ref (q 27), .ref (q 28)]) rfl dX12_advance_227 (fun f_2964 hf_2965 hk_2966 => ?_)
                  have hW_2967 := hW_2900.up hf_2965 hk_2966 t_2 ⟨v_2821, v_2822, v_2824, v_2826, v_2826, 3, v_2832, v_2833, v_2834, v_2835, v_2837, rfl, (by first | omega | (simp only [Int32.lt_iff_toInt_lt, Int32.le_iff_toInt_le, Int32.reduceToInt, ← Int32.toInt_inj, true_and, and_true, or_true, true_or, false_or, or_false, false_and, and_false, not_true_eq_false, not_false_eq_true] <;> omega)), (by first | omega | (simp only [Int32.lt_iff_toInt_lt, Int32.le_iff_toInt_le, Int32.reduceToInt, ← Int32.toInt_inj, true_and, and_true, or_true, true_or, false_or, or_false, false_and, and_false, not_true_eq_false, not_false_eq_true] <;> omega)), (by first | omega | (simp only [Int32.lt_iff_toInt_lt, Int32.le_iff_toInt_le, Int32.reduceToInt, ← Int32.toInt_inj, true_and, and_true, or_true, true_or, false_or, or_false, false_and, and_false, not_true_eq_false, not_false_eq_true] <;> omega)), (by first | omega | (simp only [Int32.lt_iff_toInt_lt, Int32.le_iff_toInt_le, Int32.reduceToInt, ← Int32.toInt_inj, true_and, and_true, or_true, true_or, false_or, or_false, false_and, and_false, not_true_eq_false, not_false_eq_true] <;> omega)), (by decide), (by first | omega | (simp only [Int32.lt_iff_toInt_lt, Int32.le_iff_toInt_le, Int32.reduceToInt, ← Int32.toInt_inj, true_and, and_true, or_true, true_or, false_or, or_false, false_and, and_false, not_true_eq_false, not_false_eq_true] <;> omega)), (by first | omega | (simp only [Int32.lt_iff_toInt_lt, Int32.le_iff_toInt_le, Int32.reduceToInt, ← Int32.toInt_inj, true_and, and_true, or_true, true_or, false_or, or_false, false_and, and_false, not_true_eq_false, not_false_eq_true] <;> omega))⟩
                  have hf_2968 := (hk_2966 (q 4) (ne_kd e_2912 hf_2898 rfl)).trans e_2912
                  have fr_2969 := FR.w hk_2966 hf_2898 (k := 12) rfl
                  refine v_aload_n hC dX12_advance_230 rfl ?_
                  refine v_dup hC dX12_advance_231 rfl ?_
                  refine v_get hC fl_X12_108 m_1 hf_2965 rfl dX12_advance_232 ?_
                  refine v_iconst hC dX12_advance_235 (v := 1) (by decide) ?_
                  obtain ⟨v_2970, h_2971⟩ : ∃ v9 : Int32, v_2826 + 1 = v9 := ⟨_, rfl⟩
                  refine v_iadd hC dX12_advance_236 h_2971 ?_
                  have h_2972 := add_v h_2971 (by first | omega | (simp only [Int32.lt_iff_toInt_lt, Int32.le_iff_toInt_le, Int32.reduceToInt, ← Int32.toInt_inj, true_and, and_true, or_true, true_or, false_or, or_false, false_and, and_false, not_true_eq_false, not_false_eq_true] <;> omega)) (by first | omega | (simp only [Int32.lt_iff_toInt_lt, Int32.le_iff_toInt_le, Int32.reduceToInt, ← Int32.toInt_inj, true_and, and_true, or_true, true_or, false_or, or_false, false_and, and_false, not_true_eq_false, not_false_eq_true] <;> omega))
                  try simp only [Int32.reduceToInt] at h_2972
                  refine v_put hC fl_X12_108 m_1 hf_2965 rfl rfl (Nat.le_of_ble_eq_true rfl) (fs' := [.int v_2821, .ref (q 1), .ref (q 2), .ref (q 3), .ref (q 4), .int v_2822, .ref (q 6), .int v_2824, .int v_2970, .int v_2826, .int 3, .int v_2832, .int v_2833, .int v_2834, .ref (q 14), .ref (q 15), .ref (q 16), .int v_2835, .ref (q 18), .ref (q 19), .int v_2837, .ref (q 21), .ref (q 22), .ref (q 23), .ref (q 24), .ref (q 25), .ref (q 26), .ref (q 27), .ref (q 28)]) rfl dX12_advance_237 (fun f_2973 hf_2974 hk_2975 => ?_)
                  have hW_2976 := hW_2967.up hf_2974 hk_2975 t_2 ⟨v_2821, v_2822, v_2824, v_2970, v_2826, 3, v_2832, v_2833, v_2834, v_2835, v_2837, rfl, (by first | omega | (simp only [Int32.lt_iff_toInt_lt, Int32.le_iff_toInt_le, Int32.reduceToInt, ← Int32.toInt_inj, true_and, and_true, or_true, true_or, false_or, or_false, false_and, and_false, not_true_eq_false, not_false_eq_true] <;> omega)), (by first | omega | (simp only [Int32.lt_iff_toInt_lt, Int32.le_iff_toInt_le, Int32.reduceToInt, ← Int32.toInt_inj, true_and, and_true, or_true, true_or, false_or, or_false, false_and, and_false, not_true_eq_false, not_false_eq_true] <;> omega)), (by first | omega | (simp only [Int32.lt_iff_toInt_lt, Int32.le_iff_toInt_le, Int32.reduceToInt, ← Int32.toInt_inj, true_and, and_true, or_true, true_or, false_or, or_false, false_and, and_false, not_true_eq_false, not_false_eq_true] <;> omega)), (by first | omega | (simp only [Int32.lt_iff_toInt_lt, Int32.le_iff_toInt_le, Int32.reduceToInt, ← Int32.toInt_inj, true_and, and_true, or_true, true_or, false_or, or_false, false_and, and_false, not_true_eq_false, not_false_eq_true] <;> omega)), (by decide), (by first | omega | (simp only [Int32.lt_iff_toInt_lt, Int32.le_iff_toInt_le, Int32.reduceToInt, ← Int32.toInt_inj, true_and, and_true, or_true, true_or, false_or, or_false, false_and, and_false, not_true_eq_false, not_false_eq_true] <;> omega)), (by first | omega | (simp only [Int32.lt_iff_toInt_lt, Int32.le_iff_toInt_le, Int32.reduceToInt, ← Int32.toInt_inj, true_and, and_true, or_true, true_or, false_or, or_false, false_and, and_false, not_true_eq_false, not_false_eq_true] <;> omega))⟩
                  have hf_2977 := (hk_2975 (q 4) (ne_kd hf_2968 hf_2965 rfl)).trans hf_2968
                  have fr_2978 := FR.w hk_2975 hf_2965 (k := 12) rfl
                  have fe_2979 : fld (f_2973 a_0) 8 = (v_2970 : Int32).toInt := by rw [hf_2974]; rfl
                  have fe_2980 : fld (f_2973 a_0) 9 = (v_2826 : Int32).toInt := by rw [hf_2974]; rfl
                  have fe_2981 : fld (f_2973 a_0) 8 = (v_2970 : Int32).toInt := by rw [hf_2974]; rfl
                  have fe_2982 : fld (f_2973 a_0) 9 = (v_2826 : Int32).toInt := by rw [hf_2974]; rfl
                  have fe_2983 : fld (f_2973 a_0) 10 = (3 : Int32).toInt := by rw [hf_2974]; rfl
                  simp only [Int32.reduceToInt] at fe_2983
                  have fe_2984 : fld (f_2973 a_0) 12 = (v_2833 : Int32).toInt := by rw [hf_2974]; rfl
                  have fe_2985 : fld (f_2973 a_0) 20 = (v_2837 : Int32).toInt := by rw [hf_2974]; rfl
                  exact hR _ _ _ _ _ _ dX12_advance_240 (Nat.le_of_ble_eq_true rfl) (Nat.le_of_ble_eq_true rfl) ⟨rfl, hW_2976, ((((hF_2812.tr fr_2901).tr fr_2969).tr fr_2978).mono rfl), (by simp only [fe_2979, fe_2980, mz_41, true_and, and_true, or_true, true_or, false_or, or_false, false_and, and_false, not_true_eq_false, not_false_eq_true] <;> first | omega | (simp only [Int32.lt_iff_toInt_lt, Int32.le_iff_toInt_le, Int32.reduceToInt, ← Int32.toInt_inj, true_and, and_true, or_true, true_or, false_or, or_false, false_and, and_false, not_true_eq_false, not_false_eq_true] <;> omega)), (by simp only [fe_2981, fe_2982, fe_2983, true_and, and_true, or_true, true_or, false_or, or_false, false_and, and_false, not_true_eq_false, not_false_eq_true] <;> first | omega | (simp only [Int32.lt_iff_toInt_lt, Int32.le_iff_toInt_le, Int32.reduceToInt, ← Int32.toInt_inj, true_and, and_true, or_true, true_or, false_or, or_false, false_and, and_false, not_true_eq_false, not_false_eq_true] <;> omega)), (by simp only [fe_2984, mz_42, true_and, and_true, or_true, true_or, false_or, or_false, false_and, and_false, not_true_eq_false, not_false_eq_true] <;> first | omega | (simp only [Int32.lt_iff_toInt_lt, Int32.le_iff_toInt_le, Int32.reduceToInt, ← Int32.toInt_inj, true_and, and_true, or_true, true_or, false_or, or_false, false_and, and_false, not_true_eq_false, not_false_eq_true] <;> omega)), (by simp only [fe_2985, mz_43, true_and, and_true, or_true, true_or, false_or, or_false, false_and, and_false, not_true_eq_false, not_false_eq_true] <;> first | omega | (simp only [Int32.lt_iff_toInt_lt, Int32.le_iff_toInt_le, Int32.reduceToInt, ← Int32.toInt_inj, true_and, and_true, or_true, true_or, false_or, or_false, false_and, and_false, not_true_eq_false, not_false_eq_true] <;> omega))⟩
              · simp only [Int32.lt_iff_toInt_lt, Int32.le_iff_toInt_le, Int32.reduceToInt, ← Int32.toInt_inj] at h_2940
                refine v_aload_n hC dX12_advance_139 rfl ?_
                refine v_iconst hC dX12_advance_140 (v := 0) (by decide) ?_
                refine v_put hC fl_X12_131 m_1 hf_2898 rfl rfl (Nat.le_of_ble_eq_true rfl) (fs' := [.int v_2821, .ref (q 1), .ref (q 2), .ref (q 3), .ref (q 4), .int v_2822, .ref (q 6), .int v_2824, .int v_2826, .int v_2826, .int v_2830, .int 0, .int v_2833, .int v_2834, .ref (q 14), .ref (q 15), .ref (q 16), .int v_2835, .ref (q 18), .ref (q 19), .int v_2837, .ref (q 21), .ref (q 22), .ref (q 23), .ref (q 24), .ref (q 25), .ref (q 26), .ref (q 27), .ref (q 28)]) rfl dX12_advance_141 (fun f_2986 hf_2987 hk_2988 => ?_)
                have hW_2989 := hW_2900.up hf_2987 hk_2988 t_2 ⟨v_2821, v_2822, v_2824, v_2826, v_2826, v_2830, 0, v_2833, v_2834, v_2835, v_2837, rfl, (by first | omega | (simp only [Int32.lt_iff_toInt_lt, Int32.le_iff_toInt_le, Int32.reduceToInt, ← Int32.toInt_inj, true_and, and_true, or_true, true_or, false_or, or_false, false_and, and_false, not_true_eq_false, not_false_eq_true] <;> omega)), (by first | omega | (simp only [Int32.lt_iff_toInt_lt, Int32.le_iff_toInt_le, Int32.reduceToInt, ← Int32.toInt_inj, true_and, and_true, or_true, true_or, false_or, or_false, false_and, and_false, not_true_eq_false, not_false_eq_true] <;> omega)), (by first | omega | (simp only [Int32.lt_iff_toInt_lt, Int32.le_iff_toInt_le, Int32.reduceToInt, ← Int32.toInt_inj, true_and, and_true, or_true, true_or, false_or, or_false, false_and, and_false, not_true_eq_false, not_false_eq_true] <;> omega)), (by first | omega | (simp only [Int32.lt_iff_toInt_lt, Int32.le_iff_toInt_le, Int32.reduceToInt, ← Int32.toInt_inj, true_and, and_true, or_true, true_or, false_or, or_false, false_and, and_false, not_true_eq_false, not_false_eq_true] <;> omega)), (by first | omega | (simp only [Int32.lt_iff_toInt_lt, Int32.le_iff_toInt_le, Int32.reduceToInt, ← Int32.toInt_inj, true_and, and_true, or_true, true_or, false_or, or_false, false_and, and_false, not_true_eq_false, not_false_eq_true] <;> omega)), (by first | omega | (simp only [Int32.lt_iff_toInt_lt, Int32.le_iff_toInt_le, Int32.reduceToInt, ← Int32.toInt_inj, true_and, and_true, or_true, true_or, false_or, or_false, false_and, and_false, not_true_eq_false, not_false_eq_true] <;> omega)), (by first | omega | (simp only [Int32.lt_iff_toInt_lt, Int32.le_iff_toInt_le, Int32.reduceToInt, ← Int32.toInt_inj, true_and, and_true, or_true, true_or, false_or, or_false, false_and, and_false, not_true_eq_false, not_false_eq_true] <;> omega))⟩
                have hf_2990 := (hk_2988 (q 4) (ne_kd e_2912 hf_2898 rfl)).trans e_2912
                have fr_2991 := FR.w hk_2988 hf_2898 (k := 12) rfl
                refine v_aload_n hC dX12_advance_144 rfl ?_
                refine v_aload_n hC dX12_advance_145 rfl ?_
                refine v_get hC fl_X12_108 m_1 hf_2987 rfl dX12_advance_146 ?_
                refine v_vi hC (rest := []) m_1 hf_2987 rfl mi_X12_see ms_X12_see (p_X12_see hW_2989 k_0 (by first | omega | (simp only [Int32.lt_iff_toInt_lt, Int32.le_iff_toInt_le, Int32.reduceToInt, ← Int32.toInt_inj, true_and, and_true, or_true, true_or, false_or, or_false, false_and, and_false, not_true_eq_false, not_false_eq_true] <;> omega))) mx_X12_see ml_X12_114 (by decide) rfl (cells1 := 0) (slots1 := 0) (by decide) (by decide) (Nat.le_of_ble_eq_true rfl) (Nat.le_of_ble_eq_true rfl) rfl (Nat.le_of_ble_eq_true rfl) dX12_advance_149 (fun r_2992 L_2993 f_2994 h_2995 => ?_)
                obtain ⟨rfl, rfl, rfl⟩ := h_2995
                have sb_2998 := sv_b (f_2986 a_0) (f_2986 (q 4)) v_2826
                have fe_2999 : fld (f_2986 a_0) 7 = (v_2824 : Int32).toInt := by rw [hf_2987]; rfl
                rw [fe_2999] at sb_2998
                have fe_3000 : fld (f_2986 a_0) 7 = (v_2824 : Int32).toInt := by rw [hf_2987]; rfl
                have sc_3001 : ((sv (f_2986 a_0) (f_2986 (q 4)) v_2826)).toInt = ((sv (f_2897 a_0) (f_2897 (q 4)) v_2826)).toInt := congrArg Int32.toInt (sv_congr (fe_3000.trans fe_2915.symm) (hf_2990.trans e_2912.symm))
                obtain ⟨v_3002, h_3003⟩ : ∃ v9 : Int64, (sv (f_2986 a_0) (f_2986 (q 4)) v_2826).toInt64 = v9 := ⟨_, rfl⟩
                refine v_i2l hC dX12_advance_152 h_3003 ?_
                have h_3004 : v_3002.toInt = (sv (f_2986 a_0) (f_2986 (q 4)) v_2826).toInt := by rw [← h_3003]; exact Int32.toInt_toInt64 _
                refine v_ldc2 hC kl_X12_127 dX12_advance_153 ?_
                refine v_ldc2 hC kl_X12_129 dX12_advance_156 ?_
                refine v_si hC (rest := []) mt_X12_in (p_X12_in hW_2989) mx_X12_in ml_X12_79 (by decide) rfl (cells1 := 0) (slots1 := 0) (by decide) (by decide) (Nat.le_of_ble_eq_true rfl) (Nat.le_of_ble_eq_true rfl) rfl (Nat.le_of_ble_eq_true rfl) dX12_advance_159 (fun r_3005 L_3006 f_3007 h_3008 => ?_)
                obtain ⟨rfl, rfl, b_3009, x_3010⟩ := h_3008
                try simp only [Int32.reduceToInt, Int64.reduceToInt] at x_3010
                refine v_if_eq_f hC dX12_advance_162 (tgt := 207) (by decide) (by first | omega | (simp only [Int32.lt_iff_toInt_lt, Int32.le_iff_toInt_le, Int32.reduceToInt, ← Int32.toInt_inj, true_and, and_true, or_true, true_or, false_or, or_false, false_and, and_false, not_true_eq_false, not_false_eq_true] <;> omega)) ?_
                refine v_aload_n hC dX12_advance_165 rfl ?_
                refine v_sipush hC dX12_advance_166 (v := 9999) (by decide) ?_
                refine v_bipush hC dX12_advance_169 (v := 10) (by decide) ?_
                refine v_aload_n hC dX12_advance_171 rfl ?_
                refine v_get hC fl_X12_131 m_1 hf_2987 rfl dX12_advance_172 ?_
                refine v_imul hC dX12_advance_175 (v := 0) (by decide) ?_
                refine v_aload_n hC dX12_advance_176 rfl ?_
                refine v_aload_n hC dX12_advance_177 rfl ?_
                refine v_get hC fl_X12_108 m_1 hf_2987 rfl dX12_advance_178 ?_
                refine v_vi hC (rest := [.int 0, .int 9999, .ref a_0]) m_1 hf_2987 rfl mi_X12_see ms_X12_see (p_X12_see hW_2989 k_0 (by first | omega | (simp only [Int32.lt_iff_toInt_lt, Int32.le_iff_toInt_le, Int32.reduceToInt, ← Int32.toInt_inj, true_and, and_true, or_true, true_or, false_or, or_false, false_and, and_false, not_true_eq_false, not_false_eq_true] <;> omega))) mx_X12_see ml_X12_114 (by decide) rfl (cells1 := 0) (slots1 := 0) (by decide) (by decide) (Nat.le_of_ble_eq_true rfl) (Nat.le_of_ble_eq_true rfl) rfl (Nat.le_of_ble_eq_true rfl) dX12_advance_181 (fun r_3013 L_3014 f_3015 h_3016 => ?_)
                obtain ⟨rfl, rfl, rfl⟩ := h_3016
                have sb_3019 := sv_b (f_2986 a_0) (f_2986 (q 4)) v_2826
                have fe_3020 : fld (f_2986 a_0) 7 = (v_2824 : Int32).toInt := by rw [hf_2987]; rfl
                rw [fe_3020] at sb_3019
                obtain ⟨v_3021, h_3022⟩ : ∃ v9 : Int32, (0 : Int32) + (sv (f_2986 a_0) (f_2986 (q 4)) v_2826) = v9 := ⟨_, rfl⟩
                refine v_iadd hC dX12_advance_184 h_3022 ?_
                have h_3023 := add_v h_3022 (by first | omega | (simp only [Int32.lt_iff_toInt_lt, Int32.le_iff_toInt_le, Int32.reduceToInt, ← Int32.toInt_inj, true_and, and_true, or_true, true_or, false_or, or_false, false_and, and_false, not_true_eq_false, not_false_eq_true] <;> omega)) (by first | omega | (simp only [Int32.lt_iff_toInt_lt, Int32.le_iff_toInt_le, Int32.reduceToInt, ← Int32.toInt_inj, true_and, and_true, or_true, true_or, false_or, or_false, false_and, and_false, not_true_eq_false, not_false_eq_true] <;> omega))
                try simp only [Int32.reduceToInt] at h_3023
                refine v_bipush hC dX12_advance_185 (v := 48) (by decide) ?_
                obtain ⟨v_3024, h_3025⟩ : ∃ v9 : Int32, v_3021 - 48 = v9 := ⟨_, rfl⟩
                refine v_isub hC dX12_advance_187 h_3025 ?_
                have h_3026 := sub_v h_3025 (by first | omega | (simp only [Int32.lt_iff_toInt_lt, Int32.le_iff_toInt_le, Int32.reduceToInt, ← Int32.toInt_inj, true_and, and_true, or_true, true_or, false_or, or_false, false_and, and_false, not_true_eq_false, not_false_eq_true] <;> omega)) (by first | omega | (simp only [Int32.lt_iff_toInt_lt, Int32.le_iff_toInt_le, Int32.reduceToInt, ← Int32.toInt_inj, true_and, and_true, or_true, true_or, false_or, or_false, false_and, and_false, not_true_eq_false, not_false_eq_true] <;> omega))
                try simp only [Int32.reduceToInt] at h_3026
                obtain ⟨v_3027, h_3028⟩ : ∃ v9 : Int32, (if v_3024 < (9999 : Int32) then v_3024 else (9999 : Int32)) = v9 := ⟨_, rfl⟩
                refine v_mmin hC mm_X12_134 mm_smin mm_i mm_cmin (by decide) (Nat.le_of_ble_eq_true rfl) (Nat.le_of_ble_eq_true rfl) (Nat.le_of_ble_eq_true rfl) h_3028 dX12_advance_188 ?_
                have b_3029 := min_v h_3028
                try simp only [Int32.reduceToInt] at b_3029
                refine v_put hC fl_X12_131 m_1 hf_2987 rfl rfl (Nat.le_of_ble_eq_true rfl) (fs' := [.int v_2821, .ref (q 1), .ref (q 2), .ref (q 3), .ref (q 4), .int v_2822, .ref (q 6), .int v_2824, .int v_2826, .int v_2826, .int v_2830, .int v_3027, .int v_2833, .int v_2834, .ref (q 14), .ref (q 15), .ref (q 16), .int v_2835, .ref (q 18), .ref (q 19), .int v_2837, .ref (q 21), .ref (q 22), .ref (q 23), .ref (q 24), .ref (q 25), .ref (q 26), .ref (q 27), .ref (q 28)]) rfl dX12_advance_191 (fun f_3030 hf_3031 hk_3032 => ?_)
                have hW_3033 := hW_2989.up hf_3031 hk_3032 t_2 ⟨v_2821, v_2822, v_2824, v_2826, v_2826, v_2830, v_3027, v_2833, v_2834, v_2835, v_2837, rfl, (by first | omega | (simp only [Int32.lt_iff_toInt_lt, Int32.le_iff_toInt_le, Int32.reduceToInt, ← Int32.toInt_inj, true_and, and_true, or_true, true_or, false_or, or_false, false_and, and_false, not_true_eq_false, not_false_eq_true] <;> omega)), (by first | omega | (simp only [Int32.lt_iff_toInt_lt, Int32.le_iff_toInt_le, Int32.reduceToInt, ← Int32.toInt_inj, true_and, and_true, or_true, true_or, false_or, or_false, false_and, and_false, not_true_eq_false, not_false_eq_true] <;> omega)), (by first | omega | (simp only [Int32.lt_iff_toInt_lt, Int32.le_iff_toInt_le, Int32.reduceToInt, ← Int32.toInt_inj, true_and, and_true, or_true, true_or, false_or, or_false, false_and, and_false, not_true_eq_false, not_false_eq_true] <;> omega)), (by first | omega | (simp only [Int32.lt_iff_toInt_lt, Int32.le_iff_toInt_le, Int32.reduceToInt, ← Int32.toInt_inj, true_and, and_true, or_true, true_or, false_or, or_false, false_and, and_false, not_true_eq_false, not_false_eq_true] <;> omega)), (by first | omega | (simp only [Int32.lt_iff_toInt_lt, Int32.le_iff_toInt_le, Int32.reduceToInt, ← Int32.toInt_inj, true_and, and_true, or_true, true_or, false_or, or_false, false_and, and_false, not_true_eq_false, not_false_eq_true] <;> omega)), (by first | omega | (simp only [Int32.lt_iff_toInt_lt, Int32.le_iff_toInt_le, Int32.reduceToInt, ← Int32.toInt_inj, true_and, and_true, or_true, true_or, false_or, or_false, false_and, and_false, not_true_eq_false, not_false_eq_true] <;> omega)), (by first | omega | (simp only [Int32.lt_iff_toInt_lt, Int32.le_iff_toInt_le, Int32.reduceToInt, ← Int32.toInt_inj, true_and, and_true, or_true, true_or, false_or, or_false, false_and, and_false, not_true_eq_false, not_false_eq_true] <;> omega))⟩
                have hf_3034 := (hk_3032 (q 4) (ne_kd hf_2990 hf_2987 rfl)).trans hf_2990
                have fr_3035 := FR.w hk_3032 hf_2987 (k := 12) rfl
                refine v_aload_n hC dX12_advance_194 rfl ?_
                refine v_dup hC dX12_advance_195 rfl ?_
                refine v_get hC fl_X12_108 m_1 hf_3031 rfl dX12_advance_196 ?_
                refine v_iconst hC dX12_advance_199 (v := 1) (by decide) ?_
                obtain ⟨v_3036, h_3037⟩ : ∃ v9 : Int32, v_2826 + 1 = v9 := ⟨_, rfl⟩
                refine v_iadd hC dX12_advance_200 h_3037 ?_
                have h_3038 := add_v h_3037 (by first | omega | (simp only [Int32.lt_iff_toInt_lt, Int32.le_iff_toInt_le, Int32.reduceToInt, ← Int32.toInt_inj, true_and, and_true, or_true, true_or, false_or, or_false, false_and, and_false, not_true_eq_false, not_false_eq_true] <;> omega)) (by first | omega | (simp only [Int32.lt_iff_toInt_lt, Int32.le_iff_toInt_le, Int32.reduceToInt, ← Int32.toInt_inj, true_and, and_true, or_true, true_or, false_or, or_false, false_and, and_false, not_true_eq_false, not_false_eq_true] <;> omega))
                try simp only [Int32.reduceToInt] at h_3038
                refine v_put hC fl_X12_108 m_1 hf_3031 rfl rfl (Nat.le_of_ble_eq_true rfl) (fs' := [.int v_2821, .ref (q 1), .ref (q 2), .ref (q 3), .ref (q 4), .int v_2822, .ref (q 6), .int v_2824, .int v_3036, .int v_2826, .int v_2830, .int v_3027, .int v_2833, .int v_2834, .ref (q 14), .ref (q 15), .ref (q 16), .int v_2835, .ref (q 18), .ref (q 19), .int v_2837, .ref (q 21), .ref (q 22), .ref (q 23), .ref (q 24), .ref (q 25), .ref (q 26), .ref (q 27), .ref (q 28)]) rfl dX12_advance_201 (fun f_3039 hf_3040 hk_3041 => ?_)
                have hW_3042 := hW_3033.up hf_3040 hk_3041 t_2 ⟨v_2821, v_2822, v_2824, v_3036, v_2826, v_2830, v_3027, v_2833, v_2834, v_2835, v_2837, rfl, (by first | omega | (simp only [Int32.lt_iff_toInt_lt, Int32.le_iff_toInt_le, Int32.reduceToInt, ← Int32.toInt_inj, true_and, and_true, or_true, true_or, false_or, or_false, false_and, and_false, not_true_eq_false, not_false_eq_true] <;> omega)), (by first | omega | (simp only [Int32.lt_iff_toInt_lt, Int32.le_iff_toInt_le, Int32.reduceToInt, ← Int32.toInt_inj, true_and, and_true, or_true, true_or, false_or, or_false, false_and, and_false, not_true_eq_false, not_false_eq_true] <;> omega)), (by first | omega | (simp only [Int32.lt_iff_toInt_lt, Int32.le_iff_toInt_le, Int32.reduceToInt, ← Int32.toInt_inj, true_and, and_true, or_true, true_or, false_or, or_false, false_and, and_false, not_true_eq_false, not_false_eq_true] <;> omega)), (by first | omega | (simp only [Int32.lt_iff_toInt_lt, Int32.le_iff_toInt_le, Int32.reduceToInt, ← Int32.toInt_inj, true_and, and_true, or_true, true_or, false_or, or_false, false_and, and_false, not_true_eq_false, not_false_eq_true] <;> omega)), (by first | omega | (simp only [Int32.lt_iff_toInt_lt, Int32.le_iff_toInt_le, Int32.reduceToInt, ← Int32.toInt_inj, true_and, and_true, or_true, true_or, false_or, or_false, false_and, and_false, not_true_eq_false, not_false_eq_true] <;> omega)), (by first | omega | (simp only [Int32.lt_iff_toInt_lt, Int32.le_iff_toInt_le, Int32.reduceToInt, ← Int32.toInt_inj, true_and, and_true, or_true, true_or, false_or, or_false, false_and, and_false, not_true_eq_false, not_false_eq_true] <;> omega)), (by first | omega | (simp only [Int32.lt_iff_toInt_lt, Int32.le_iff_toInt_le, Int32.reduceToInt, ← Int32.toInt_inj, true_and, and_true, or_true, true_or, false_or, or_false, false_and, and_false, not_true_eq_false, not_false_eq_true] <;> omega))⟩
                have hf_3043 := (hk_3041 (q 4) (ne_kd hf_3034 hf_3031 rfl)).trans hf_3034
                have fr_3044 := FR.w hk_3041 hf_3031 (k := 12) rfl
                refine v_goto hC dX12_advance_204 (tgt := 144) (by decide) ?_
                have lp_3320 : ∀ (n_3321 : Nat) (f_3312 : Nat → va_E) (hW_3313 : WT T L f_3312) (hF_3314 : FR [12] f_3039 f_3312)  (nv_3316 : v_28.toInt ≤ fld (f_3312 a_0) 9) (nv_3317 : fld (f_3312 a_0) 9 < fld (f_3312 a_0) 8) (nv_3318 : fld (f_3312 a_0) 12 = v_35.toInt) (nv_3319 : fld (f_3312 a_0) 20 = v_39.toInt) (hm_3323 : 600 - fld (f_3312 a_0) 8 < (n_3321 : Int)), V z E 2 0 0 L f_3312 144 [(0, .ref a_0)] [] := by
                  intro n_3321
                  induction n_3321 with
                  | zero =>
                    intro f_3312 hW_3313 hF_3314 nv_3316 nv_3317 nv_3318 nv_3319 hm_3323
                    have hf_3315 := hF_3314.at hf_3043 rfl
                    obtain ⟨v_3325, v_3326, v_3328, v_3330, v_3332, v_3334, v_3336, v_3337, v_3338, v_3339, v_3341, e_3324, b_3327, b_3329, b_3331, b_3333, b_3335, b_3340, b_3342⟩ := hW_3313.at m_1 t_2
                    have fe_3343 : fld (f_3312 a_0) 9 = (v_3332 : Int32).toInt := by rw [e_3324]; rfl
                    rw [fe_3343] at nv_3316
                    have fe_3344 : fld (f_3312 a_0) 8 = (v_3330 : Int32).toInt := by rw [e_3324]; rfl
                    have fe_3345 : fld (f_3312 a_0) 9 = (v_3332 : Int32).toInt := by rw [e_3324]; rfl
                    rw [fe_3344, fe_3345] at nv_3317
                    have fe_3346 : fld (f_3312 a_0) 12 = (v_3337 : Int32).toInt := by rw [e_3324]; rfl
                    rw [fe_3346] at nv_3318
                    have fe_3347 : fld (f_3312 a_0) 20 = (v_3341 : Int32).toInt := by rw [e_3324]; rfl
                    rw [fe_3347] at nv_3319
                    have h_3348 : fld (f_3312 a_0) 8 = (v_3330 : Int32).toInt := by rw [e_3324]; rfl
                    rw [h_3348] at hm_3323
                    exfalso; omega
                  | succ n_3321 ih_3322 =>
                    intro f_3312 hW_3313 hF_3314 nv_3316 nv_3317 nv_3318 nv_3319 hm_3323
                    have hf_3315 := hF_3314.at hf_3043 rfl
                    obtain ⟨v_3325, v_3326, v_3328, v_3330, v_3332, v_3334, v_3336, v_3337, v_3338, v_3339, v_3341, e_3324, b_3327, b_3329, b_3331, b_3333, b_3335, b_3340, b_3342⟩ := hW_3313.at m_1 t_2
                    have fe_3343 : fld (f_3312 a_0) 9 = (v_3332 : Int32).toInt := by rw [e_3324]; rfl
                    rw [fe_3343] at nv_3316
                    have fe_3344 : fld (f_3312 a_0) 8 = (v_3330 : Int32).toInt := by rw [e_3324]; rfl
                    have fe_3345 : fld (f_3312 a_0) 9 = (v_3332 : Int32).toInt := by rw [e_3324]; rfl
                    rw [fe_3344, fe_3345] at nv_3317
                    have fe_3346 : fld (f_3312 a_0) 12 = (v_3337 : Int32).toInt := by rw [e_3324]; rfl
                    rw [fe_3346] at nv_3318
                    have fe_3347 : fld (f_3312 a_0) 20 = (v_3341 : Int32).toInt := by rw [e_3324]; rfl
                    rw [fe_3347] at nv_3319
                    have h_3348 : fld (f_3312 a_0) 8 = (v_3330 : Int32).toInt := by rw [e_3324]; rfl
                    rw [h_3348] at hm_3323
                    refine v_aload_n hC dX12_advance_144 rfl ?_
                    refine v_aload_n hC dX12_advance_145 rfl ?_
                    refine v_get hC fl_X12_108 m_1 e_3324 rfl dX12_advance_146 ?_
                    refine v_vi hC (rest := []) m_1 e_3324 rfl mi_X12_see ms_X12_see (p_X12_see hW_3313 k_0 (by first | omega | (simp only [Int32.lt_iff_toInt_lt, Int32.le_iff_toInt_le, Int32.reduceToInt, ← Int32.toInt_inj, true_and, and_true, or_true, true_or, false_or, or_false, false_and, and_false, not_true_eq_false, not_false_eq_true] <;> omega))) mx_X12_see ml_X12_114 (by decide) rfl (cells1 := 0) (slots1 := 0) (by decide) (by decide) (Nat.le_of_ble_eq_true rfl) (Nat.le_of_ble_eq_true rfl) rfl (Nat.le_of_ble_eq_true rfl) dX12_advance_149 (fun r_3349 L_3350 f_3351 h_3352 => ?_)
                    obtain ⟨rfl, rfl, rfl⟩ := h_3352
                    have sb_3355 := sv_b (f_3312 a_0) (f_3312 (q 4)) v_3330
                    have fe_3356 : fld (f_3312 a_0) 7 = (v_3328 : Int32).toInt := by rw [e_3324]; rfl
                    rw [fe_3356] at sb_3355
                    obtain ⟨v_3357, h_3358⟩ : ∃ v9 : Int64, (sv (f_3312 a_0) (f_3312 (q 4)) v_3330).toInt64 = v9 := ⟨_, rfl⟩
                    refine v_i2l hC dX12_advance_152 h_3358 ?_
                    have h_3359 : v_3357.toInt = (sv (f_3312 a_0) (f_3312 (q 4)) v_3330).toInt := by rw [← h_3358]; exact Int32.toInt_toInt64 _
                    refine v_ldc2 hC kl_X12_127 dX12_advance_153 ?_
                    refine v_ldc2 hC kl_X12_129 dX12_advance_156 ?_
                    refine v_si hC (rest := []) mt_X12_in (p_X12_in hW_3313) mx_X12_in ml_X12_79 (by decide) rfl (cells1 := 0) (slots1 := 0) (by decide) (by decide) (Nat.le_of_ble_eq_true rfl) (Nat.le_of_ble_eq_true rfl) rfl (Nat.le_of_ble_eq_true rfl) dX12_advance_159 (fun r_3360 L_3361 f_3362 h_3363 => ?_)
                    obtain ⟨rfl, rfl, b_3364, x_3365⟩ := h_3363
                    try simp only [Int32.reduceToInt, Int64.reduceToInt] at x_3365
                    refine v_if_eq hC dX12_advance_162 (tgt := 207) (by decide) (fun h_3368 => ?_) (fun h_3368 => ?_)
                    · simp only [Int32.lt_iff_toInt_lt, Int32.le_iff_toInt_le, Int32.reduceToInt, ← Int32.toInt_inj] at h_3368
                      refine v_aload_n hC dX12_advance_207 rfl ?_
                      refine v_iconst hC dX12_advance_208 (v := 2) (by decide) ?_
                      refine v_put hC fl_X12_120 m_1 e_3324 rfl rfl (Nat.le_of_ble_eq_true rfl) (fs' := [.int v_3325, .ref (q 1), .ref (q 2), .ref (q 3), .ref (q 4), .int v_3326, .ref (q 6), .int v_3328, .int v_3330, .int v_3332, .int 2, .int v_3336, .int v_3337, .int v_3338, .ref (q 14), .ref (q 15), .ref (q 16), .int v_3339, .ref (q 18), .ref (q 19), .int v_3341, .ref (q 21), .ref (q 22), .ref (q 23), .ref (q 24), .ref (q 25), .ref (q 26), .ref (q 27), .ref (q 28)]) rfl dX12_advance_209 (fun f_3369 hf_3370 hk_3371 => ?_)
                      have hW_3372 := hW_3313.up hf_3370 hk_3371 t_2 ⟨v_3325, v_3326, v_3328, v_3330, v_3332, 2, v_3336, v_3337, v_3338, v_3339, v_3341, rfl, (by first | omega | (simp only [Int32.lt_iff_toInt_lt, Int32.le_iff_toInt_le, Int32.reduceToInt, ← Int32.toInt_inj, true_and, and_true, or_true, true_or, false_or, or_false, false_and, and_false, not_true_eq_false, not_false_eq_true] <;> omega)), (by first | omega | (simp only [Int32.lt_iff_toInt_lt, Int32.le_iff_toInt_le, Int32.reduceToInt, ← Int32.toInt_inj, true_and, and_true, or_true, true_or, false_or, or_false, false_and, and_false, not_true_eq_false, not_false_eq_true] <;> omega)), (by first | omega | (simp only [Int32.lt_iff_toInt_lt, Int32.le_iff_toInt_le, Int32.reduceToInt, ← Int32.toInt_inj, true_and, and_true, or_true, true_or, false_or, or_false, false_and, and_false, not_true_eq_false, not_false_eq_true] <;> omega)), (by first | omega | (simp only [Int32.lt_iff_toInt_lt, Int32.le_iff_toInt_le, Int32.reduceToInt, ← Int32.toInt_inj, true_and, and_true, or_true, true_or, false_or, or_false, false_and, and_false, not_true_eq_false, not_false_eq_true] <;> omega)), (by decide), (by first | omega | (simp only [Int32.lt_iff_toInt_lt, Int32.le_iff_toInt_le, Int32.reduceToInt, ← Int32.toInt_inj, true_and, and_true, or_true, true_or, false_or, or_false, false_and, and_false, not_true_eq_false, not_false_eq_true] <;> omega)), (by first | omega | (simp only [Int32.lt_iff_toInt_lt, Int32.le_iff_toInt_le, Int32.reduceToInt, ← Int32.toInt_inj, true_and, and_true, or_true, true_or, false_or, or_false, false_and, and_false, not_true_eq_false, not_false_eq_true] <;> omega))⟩
                      have hf_3373 := (hk_3371 (q 4) (ne_kd hf_3315 e_3324 rfl)).trans hf_3315
                      have fr_3374 := FR.w hk_3371 e_3324 (k := 12) rfl
                      refine v_goto hC dX12_advance_212 (tgt := 240) (by decide) ?_
                      have fe_3375 : fld (f_3369 a_0) 8 = (v_3330 : Int32).toInt := by rw [hf_3370]; rfl
                      have fe_3376 : fld (f_3369 a_0) 9 = (v_3332 : Int32).toInt := by rw [hf_3370]; rfl
                      have fe_3377 : fld (f_3369 a_0) 8 = (v_3330 : Int32).toInt := by rw [hf_3370]; rfl
                      have fe_3378 : fld (f_3369 a_0) 9 = (v_3332 : Int32).toInt := by rw [hf_3370]; rfl
                      have fe_3379 : fld (f_3369 a_0) 10 = (2 : Int32).toInt := by rw [hf_3370]; rfl
                      simp only [Int32.reduceToInt] at fe_3379
                      have fe_3380 : fld (f_3369 a_0) 12 = (v_3337 : Int32).toInt := by rw [hf_3370]; rfl
                      have fe_3381 : fld (f_3369 a_0) 20 = (v_3341 : Int32).toInt := by rw [hf_3370]; rfl
                      exact hR _ _ _ _ _ _ dX12_advance_240 (Nat.le_of_ble_eq_true rfl) (Nat.le_of_ble_eq_true rfl) ⟨rfl, hW_3372, (((((((hF_2812.tr fr_2901).tr fr_2991).tr fr_3035).tr fr_3044).tr hF_3314).tr fr_3374).mono rfl), (by simp only [fe_3375, fe_3376, mz_41, true_and, and_true, or_true, true_or, false_or, or_false, false_and, and_false, not_true_eq_false, not_false_eq_true] <;> first | omega | (simp only [Int32.lt_iff_toInt_lt, Int32.le_iff_toInt_le, Int32.reduceToInt, ← Int32.toInt_inj, true_and, and_true, or_true, true_or, false_or, or_false, false_and, and_false, not_true_eq_false, not_false_eq_true] <;> omega)), (by simp only [fe_3377, fe_3378, fe_3379, true_and, and_true, or_true, true_or, false_or, or_false, false_and, and_false, not_true_eq_false, not_false_eq_true] <;> first | omega | (simp only [Int32.lt_iff_toInt_lt, Int32.le_iff_toInt_le, Int32.reduceToInt, ← Int32.toInt_inj, true_and, and_true, or_true, true_or, false_or, or_false, false_and, and_false, not_true_eq_false, not_false_eq_true] <;> omega)), (by simp only [fe_3380, mz_42, true_and, and_true, or_true, true_or, false_or, or_false, false_and, and_false, not_true_eq_false, not_false_eq_true] <;> first | omega | (simp only [Int32.lt_iff_toInt_lt, Int32.le_iff_toInt_le, Int32.reduceToInt, ← Int32.toInt_inj, true_and, and_true, or_true, true_or, false_or, or_false, false_and, and_false, not_true_eq_false, not_false_eq_true] <;> omega)), (by simp only [fe_3381, mz_43, true_and, and_true, or_true, true_or, false_or, or_false, false_and, and_false, not_true_eq_false, not_false_eq_true] <;> first | omega | (simp only [Int32.lt_iff_toInt_lt, Int32.le_iff_toInt_le, Int32.reduceToInt, ← Int32.toInt_inj, true_and, and_true, or_true, true_or, false_or, or_false, false_and, and_false, not_true_eq_false, not_false_eq_true] <;> omega))⟩
                    · simp only [Int32.lt_iff_toInt_lt, Int32.le_iff_toInt_le, Int32.reduceToInt, ← Int32.toInt_inj] at h_3368
                      refine v_aload_n hC dX12_advance_165 rfl ?_
                      refine v_sipush hC dX12_advance_166 (v := 9999) (by decide) ?_
                      refine v_bipush hC dX12_advance_169 (v := 10) (by decide) ?_
                      refine v_aload_n hC dX12_advance_171 rfl ?_
                      refine v_get hC fl_X12_131 m_1 e_3324 rfl dX12_advance_172 ?_
                      obtain ⟨v_3382, h_3383⟩ : ∃ v9 : Int32, (10 : Int32) * v_3336 = v9 := ⟨_, rfl⟩
                      refine v_imul hC dX12_advance_175 h_3383 ?_
                      refine v_aload_n hC dX12_advance_176 rfl ?_
                      refine v_aload_n hC dX12_advance_177 rfl ?_
                      refine v_get hC fl_X12_108 m_1 e_3324 rfl dX12_advance_178 ?_
                      refine v_vi hC (rest := [.int v_3382, .int 9999, .ref a_0]) m_1 e_3324 rfl mi_X12_see ms_X12_see (p_X12_see hW_3313 k_0 (by first | omega | (simp only [Int32.lt_iff_toInt_lt, Int32.le_iff_toInt_le, Int32.reduceToInt, ← Int32.toInt_inj, true_and, and_true, or_true, true_or, false_or, or_false, false_and, and_false, not_true_eq_false, not_false_eq_true] <;> omega))) mx_X12_see ml_X12_114 (by decide) rfl (cells1 := 0) (slots1 := 0) (by decide) (by decide) (Nat.le_of_ble_eq_true rfl) (Nat.le_of_ble_eq_true rfl) rfl (Nat.le_of_ble_eq_true rfl) dX12_advance_181 (fun r_3385 L_3386 f_3387 h_3388 => ?_)
                      obtain ⟨rfl, rfl, rfl⟩ := h_3388
                      have sb_3391 := sv_b (f_3312 a_0) (f_3312 (q 4)) v_3330
                      have fe_3392 : fld (f_3312 a_0) 7 = (v_3328 : Int32).toInt := by rw [e_3324]; rfl
                      rw [fe_3392] at sb_3391
                      obtain ⟨v_3393, h_3394⟩ : ∃ v9 : Int32, v_3382 + (sv (f_3312 a_0) (f_3312 (q 4)) v_3330) = v9 := ⟨_, rfl⟩
                      refine v_iadd hC dX12_advance_184 h_3394 ?_
                      refine v_bipush hC dX12_advance_185 (v := 48) (by decide) ?_
                      obtain ⟨v_3396, h_3397⟩ : ∃ v9 : Int32, v_3393 - 48 = v9 := ⟨_, rfl⟩
                      refine v_isub hC dX12_advance_187 h_3397 ?_
                      obtain ⟨v_3399, h_3400⟩ : ∃ v9 : Int32, (if v_3396 < (9999 : Int32) then v_3396 else (9999 : Int32)) = v9 := ⟨_, rfl⟩
                      refine v_mmin hC mm_X12_134 mm_smin mm_i mm_cmin (by decide) (Nat.le_of_ble_eq_true rfl) (Nat.le_of_ble_eq_true rfl) (Nat.le_of_ble_eq_true rfl) h_3400 dX12_advance_188 ?_
                      have b_3401 := min_v h_3400
                      try simp only [Int32.reduceToInt] at b_3401
                      refine v_put hC fl_X12_131 m_1 e_3324 rfl rfl (Nat.le_of_ble_eq_true rfl) (fs' := [.int v_3325, .ref (q 1), .ref (q 2), .ref (q 3), .ref (q 4), .int v_3326, .ref (q 6), .int v_3328, .int v_3330, .int v_3332, .int v_3334, .int v_3399, .int v_3337, .int v_3338, .ref (q 14), .ref (q 15), .ref (q 16), .int v_3339, .ref (q 18), .ref (q 19), .int v_3341, .ref (q 21), .ref (q 22), .ref (q 23), .ref (q 24), .ref (q 25), .ref (q 26), .ref (q 27), .ref (q 28)]) rfl dX12_advance_191 (fun f_3402 hf_3403 hk_3404 => ?_)
                      have hW_3405 := hW_3313.up hf_3403 hk_3404 t_2 ⟨v_3325, v_3326, v_3328, v_3330, v_3332, v_3334, v_3399, v_3337, v_3338, v_3339, v_3341, rfl, (by first | omega | (simp only [Int32.lt_iff_toInt_lt, Int32.le_iff_toInt_le, Int32.reduceToInt, ← Int32.toInt_inj, true_and, and_true, or_true, true_or, false_or, or_false, false_and, and_false, not_true_eq_false, not_false_eq_true] <;> omega)), (by first | omega | (simp only [Int32.lt_iff_toInt_lt, Int32.le_iff_toInt_le, Int32.reduceToInt, ← Int32.toInt_inj, true_and, and_true, or_true, true_or, false_or, or_false, false_and, and_false, not_true_eq_false, not_false_eq_true] <;> omega)), (by first | omega | (simp only [Int32.lt_iff_toInt_lt, Int32.le_iff_toInt_le, Int32.reduceToInt, ← Int32.toInt_inj, true_and, and_true, or_true, true_or, false_or, or_false, false_and, and_false, not_true_eq_false, not_false_eq_true] <;> omega)), (by first | omega | (simp only [Int32.lt_iff_toInt_lt, Int32.le_iff_toInt_le, Int32.reduceToInt, ← Int32.toInt_inj, true_and, and_true, or_true, true_or, false_or, or_false, false_and, and_false, not_true_eq_false, not_false_eq_true] <;> omega)), (by first | omega | (simp only [Int32.lt_iff_toInt_lt, Int32.le_iff_toInt_le, Int32.reduceToInt, ← Int32.toInt_inj, true_and, and_true, or_true, true_or, false_or, or_false, false_and, and_false, not_true_eq_false, not_false_eq_true] <;> omega)), (by first | omega | (simp only [Int32.lt_iff_toInt_lt, Int32.le_iff_toInt_le, Int32.reduceToInt, ← Int32.toInt_inj, true_and, and_true, or_true, true_or, false_or, or_false, false_and, and_false, not_true_eq_false, not_false_eq_true] <;> omega)), (by first | omega | (simp only [Int32.lt_iff_toInt_lt, Int32.le_iff_toInt_le, Int32.reduceToInt, ← Int32.toInt_inj, true_and, and_true, or_true, true_or, false_or, or_false, false_and, and_false, not_true_eq_false, not_false_eq_true] <;> omega))⟩
                      have hf_3406 := (hk_3404 (q 4) (ne_kd hf_3315 e_3324 rfl)).trans hf_3315
                      have fr_3407 := FR.w hk_3404 e_3324 (k := 12) rfl
                      refine v_aload_n hC dX12_advance_194 rfl ?_
                      refine v_dup hC dX12_advance_195 rfl ?_
                      refine v_get hC fl_X12_108 m_1 hf_3403 rfl dX12_advance_196 ?_
                      refine v_iconst hC dX12_advance_199 (v := 1) (by decide) ?_
                      obtain ⟨v_3408, h_3409⟩ : ∃ v9 : Int32, v_3330 + 1 = v9 := ⟨_, rfl⟩
                      refine v_iadd hC dX12_advance_200 h_3409 ?_
                      have h_3410 := add_v h_3409 (by first | omega | (simp only [Int32.lt_iff_toInt_lt, Int32.le_iff_toInt_le, Int32.reduceToInt, ← Int32.toInt_inj, true_and, and_true, or_true, true_or, false_or, or_false, false_and, and_false, not_true_eq_false, not_false_eq_true] <;> omega)) (by first | omega | (simp only [Int32.lt_iff_toInt_lt, Int32.le_iff_toInt_le, Int32.reduceToInt, ← Int32.toInt_inj, true_and, and_true, or_true, true_or, false_or, or_false, false_and, and_false, not_true_eq_false, not_false_eq_true] <;> omega))
                      try simp only [Int32.reduceToInt] at h_3410
                      refine v_put hC fl_X12_108 m_1 hf_3403 rfl rfl (Nat.le_of_ble_eq_true rfl) (fs' := [.int v_3325, .ref (q 1), .ref (q 2), .ref (q 3), .ref (q 4), .int v_3326, .ref (q 6), .int v_3328, .int v_3408, .int v_3332, .int v_3334, .int v_3399, .int v_3337, .int v_3338, .ref (q 14), .ref (q 15), .ref (q 16), .int v_3339, .ref (q 18), .ref (q 19), .int v_3341, .ref (q 21), .ref (q 22), .ref (q 23), .ref (q 24), .ref (q 25), .ref (q 26), .ref (q 27), .ref (q 28)]) rfl dX12_advance_201 (fun f_3411 hf_3412 hk_3413 => ?_)
                      have hW_3414 := hW_3405.up hf_3412 hk_3413 t_2 ⟨v_3325, v_3326, v_3328, v_3408, v_3332, v_3334, v_3399, v_3337, v_3338, v_3339, v_3341, rfl, (by first | omega | (simp only [Int32.lt_iff_toInt_lt, Int32.le_iff_toInt_le, Int32.reduceToInt, ← Int32.toInt_inj, true_and, and_true, or_true, true_or, false_or, or_false, false_and, and_false, not_true_eq_false, not_false_eq_true] <;> omega)), (by first | omega | (simp only [Int32.lt_iff_toInt_lt, Int32.le_iff_toInt_le, Int32.reduceToInt, ← Int32.toInt_inj, true_and, and_true, or_true, true_or, false_or, or_false, false_and, and_false, not_true_eq_false, not_false_eq_true] <;> omega)), (by first | omega | (simp only [Int32.lt_iff_toInt_lt, Int32.le_iff_toInt_le, Int32.reduceToInt, ← Int32.toInt_inj, true_and, and_true, or_true, true_or, false_or, or_false, false_and, and_false, not_true_eq_false, not_false_eq_true] <;> omega)), (by first | omega | (simp only [Int32.lt_iff_toInt_lt, Int32.le_iff_toInt_le, Int32.reduceToInt, ← Int32.toInt_inj, true_and, and_true, or_true, true_or, false_or, or_false, false_and, and_false, not_true_eq_false, not_false_eq_true] <;> omega)), (by first | omega | (simp only [Int32.lt_iff_toInt_lt, Int32.le_iff_toInt_le, Int32.reduceToInt, ← Int32.toInt_inj, true_and, and_true, or_true, true_or, false_or, or_false, false_and, and_false, not_true_eq_false, not_false_eq_true] <;> omega)), (by first | omega | (simp only [Int32.lt_iff_toInt_lt, Int32.le_iff_toInt_le, Int32.reduceToInt, ← Int32.toInt_inj, true_and, and_true, or_true, true_or, false_or, or_false, false_and, and_false, not_true_eq_false, not_false_eq_true] <;> omega)), (by first | omega | (simp only [Int32.lt_iff_toInt_lt, Int32.le_iff_toInt_le, Int32.reduceToInt, ← Int32.toInt_inj, true_and, and_true, or_true, true_or, false_or, or_false, false_and, and_false, not_true_eq_false, not_false_eq_true] <;> omega))⟩
                      have hf_3415 := (hk_3413 (q 4) (ne_kd hf_3406 hf_3403 rfl)).trans hf_3406
                      have fr_3416 := FR.w hk_3413 hf_3403 (k := 12) rfl
                      refine v_goto hC dX12_advance_204 (tgt := 144) (by decide) ?_
                      refine v_pick [0] rfl ?_
                      have fe_3417 : fld (f_3411 a_0) 9 = (v_3332 : Int32).toInt := by rw [hf_3412]; rfl
                      have fe_3418 : fld (f_3411 a_0) 8 = (v_3408 : Int32).toInt := by rw [hf_3412]; rfl
                      have fe_3419 : fld (f_3411 a_0) 9 = (v_3332 : Int32).toInt := by rw [hf_3412]; rfl
                      have fe_3420 : fld (f_3411 a_0) 12 = (v_3337 : Int32).toInt := by rw [hf_3412]; rfl
                      have fe_3421 : fld (f_3411 a_0) 20 = (v_3341 : Int32).toInt := by rw [hf_3412]; rfl
                      have h_3422 : fld (f_3411 a_0) 8 = (v_3408 : Int32).toInt := by rw [hf_3412]; rfl
                      exact ih_3322 f_3411 hW_3414 (((hF_3314.tr fr_3407).tr fr_3416).mono rfl) (by rw [fe_3417] <;> first | omega | (simp only [Int32.lt_iff_toInt_lt, Int32.le_iff_toInt_le, Int32.reduceToInt, ← Int32.toInt_inj, true_and, and_true, or_true, true_or, false_or, or_false, false_and, and_false, not_true_eq_false, not_false_eq_true] <;> omega)) (by rw [fe_3418, fe_3419] <;> first | omega | (simp only [Int32.lt_iff_toInt_lt, Int32.le_iff_toInt_le, Int32.reduceToInt, ← Int32.toInt_inj, true_and, and_true, or_true, true_or, false_or, or_false, false_and, and_false, not_true_eq_false, not_false_eq_true] <;> omega)) (by rw [fe_3420] <;> first | omega | (simp only [Int32.lt_iff_toInt_lt, Int32.le_iff_toInt_le, Int32.reduceToInt, ← Int32.toInt_inj, true_and, and_true, or_true, true_or, false_or, or_false, false_and, and_false, not_true_eq_false, not_false_eq_true] <;> omega)) (by rw [fe_3421] <;> first | omega | (simp only [Int32.lt_iff_toInt_lt, Int32.le_iff_toInt_le, Int32.reduceToInt, ← Int32.toInt_inj, true_and, and_true, or_true, true_or, false_or, or_false, false_and, and_false, not_true_eq_false, not_false_eq_true] <;> omega)) (by rw [h_3422]; omega)
                refine v_pick [1] rfl ?_
                have fe_3423 : fld (f_3039 a_0) 9 = (v_2826 : Int32).toInt := by rw [hf_3040]; rfl
                have fe_3424 : fld (f_3039 a_0) 8 = (v_3036 : Int32).toInt := by rw [hf_3040]; rfl
                have fe_3425 : fld (f_3039 a_0) 9 = (v_2826 : Int32).toInt := by rw [hf_3040]; rfl
                have fe_3426 : fld (f_3039 a_0) 12 = (v_2833 : Int32).toInt := by rw [hf_3040]; rfl
                have fe_3427 : fld (f_3039 a_0) 20 = (v_2837 : Int32).toInt := by rw [hf_3040]; rfl
                have h_3428 : fld (f_3039 a_0) 8 = (v_3036 : Int32).toInt := by rw [hf_3040]; rfl
                exact lp_3320 602 f_3039 hW_3042 FR.rf (by rw [fe_3423] <;> first | omega | (simp only [Int32.lt_iff_toInt_lt, Int32.le_iff_toInt_le, Int32.reduceToInt, ← Int32.toInt_inj, true_and, and_true, or_true, true_or, false_or, or_false, false_and, and_false, not_true_eq_false, not_false_eq_true] <;> omega)) (by rw [fe_3424, fe_3425] <;> first | omega | (simp only [Int32.lt_iff_toInt_lt, Int32.le_iff_toInt_le, Int32.reduceToInt, ← Int32.toInt_inj, true_and, and_true, or_true, true_or, false_or, or_false, false_and, and_false, not_true_eq_false, not_false_eq_true] <;> omega)) (by rw [fe_3426] <;> first | omega | (simp only [Int32.lt_iff_toInt_lt, Int32.le_iff_toInt_le, Int32.reduceToInt, ← Int32.toInt_inj, true_and, and_true, or_true, true_or, false_or, or_false, false_and, and_false, not_true_eq_false, not_false_eq_true] <;> omega)) (by rw [fe_3427] <;> first | omega | (simp only [Int32.lt_iff_toInt_lt, Int32.le_iff_toInt_le, Int32.reduceToInt, ← Int32.toInt_inj, true_and, and_true, or_true, true_or, false_or, or_false, false_and, and_false, not_true_eq_false, not_false_eq_true] <;> omega)) (by rw [h_3428]; omega)
            · simp only [Int32.lt_iff_toInt_lt, Int32.le_iff_toInt_le, Int32.reduceToInt, ← Int32.toInt_inj] at h_2928
              refine v_aload_n hC dX12_advance_83 rfl ?_
              refine v_aload_n hC dX12_advance_84 rfl ?_
              refine v_get hC fl_X12_108 m_1 hf_2898 rfl dX12_advance_85 ?_
              refine v_vi hC (rest := []) m_1 hf_2898 rfl mi_X12_see ms_X12_see (p_X12_see hW_2900 k_0 (by first | omega | (simp only [Int32.lt_iff_toInt_lt, Int32.le_iff_toInt_le, Int32.reduceToInt, ← Int32.toInt_inj, true_and, and_true, or_true, true_or, false_or, or_false, false_and, and_false, not_true_eq_false, not_false_eq_true] <;> omega))) mx_X12_see ml_X12_114 (by decide) rfl (cells1 := 0) (slots1 := 0) (by decide) (by decide) (Nat.le_of_ble_eq_true rfl) (Nat.le_of_ble_eq_true rfl) rfl (Nat.le_of_ble_eq_true rfl) dX12_advance_88 (fun r_3429 L_3430 f_3431 h_3432 => ?_)
              obtain ⟨rfl, rfl, rfl⟩ := h_3432
              have sb_3435 := sv_b (f_2897 a_0) (f_2897 (q 4)) v_2826
              have fe_3436 : fld (f_2897 a_0) 7 = (v_2824 : Int32).toInt := by rw [hf_2898]; rfl
              rw [fe_3436] at sb_3435
              obtain ⟨v_3437, h_3438⟩ : ∃ v9 : Int64, (sv (f_2897 a_0) (f_2897 (q 4)) v_2826).toInt64 = v9 := ⟨_, rfl⟩
              refine v_i2l hC dX12_advance_91 h_3438 ?_
              have h_3439 : v_3437.toInt = (sv (f_2897 a_0) (f_2897 (q 4)) v_2826).toInt := by rw [← h_3438]; exact Int32.toInt_toInt64 _
              refine v_ldc2 hC kl_X12_123 dX12_advance_92 ?_
              refine v_ldc2 hC kl_X12_125 dX12_advance_95 ?_
              refine v_si hC (rest := []) mt_X12_in (p_X12_in hW_2900) mx_X12_in ml_X12_79 (by decide) rfl (cells1 := 0) (slots1 := 0) (by decide) (by decide) (Nat.le_of_ble_eq_true rfl) (Nat.le_of_ble_eq_true rfl) rfl (Nat.le_of_ble_eq_true rfl) dX12_advance_98 (fun r_3440 L_3441 f_3442 h_3443 => ?_)
              obtain ⟨rfl, rfl, b_3444, x_3445⟩ := h_3443
              try simp only [Int32.reduceToInt, Int64.reduceToInt] at x_3445
              refine v_if_eq_f hC dX12_advance_101 (tgt := 117) (by decide) (by first | omega | (simp only [Int32.lt_iff_toInt_lt, Int32.le_iff_toInt_le, Int32.reduceToInt, ← Int32.toInt_inj, true_and, and_true, or_true, true_or, false_or, or_false, false_and, and_false, not_true_eq_false, not_false_eq_true] <;> omega)) ?_
              refine v_aload_n hC dX12_advance_104 rfl ?_
              refine v_dup hC dX12_advance_105 rfl ?_
              refine v_get hC fl_X12_108 m_1 hf_2898 rfl dX12_advance_106 ?_
              refine v_iconst hC dX12_advance_109 (v := 1) (by decide) ?_
              obtain ⟨v_3448, h_3449⟩ : ∃ v9 : Int32, v_2826 + 1 = v9 := ⟨_, rfl⟩
              refine v_iadd hC dX12_advance_110 h_3449 ?_
              have h_3450 := add_v h_3449 (by first | omega | (simp only [Int32.lt_iff_toInt_lt, Int32.le_iff_toInt_le, Int32.reduceToInt, ← Int32.toInt_inj, true_and, and_true, or_true, true_or, false_or, or_false, false_and, and_false, not_true_eq_false, not_false_eq_true] <;> omega)) (by first | omega | (simp only [Int32.lt_iff_toInt_lt, Int32.le_iff_toInt_le, Int32.reduceToInt, ← Int32.toInt_inj, true_and, and_true, or_true, true_or, false_or, or_false, false_and, and_false, not_true_eq_false, not_false_eq_true] <;> omega))
              try simp only [Int32.reduceToInt] at h_3450
              refine v_put hC fl_X12_108 m_1 hf_2898 rfl rfl (Nat.le_of_ble_eq_true rfl) (fs' := [.int v_2821, .ref (q 1), .ref (q 2), .ref (q 3), .ref (q 4), .int v_2822, .ref (q 6), .int v_2824, .int v_3448, .int v_2826, .int v_2830, .int v_2832, .int v_2833, .int v_2834, .ref (q 14), .ref (q 15), .ref (q 16), .int v_2835, .ref (q 18), .ref (q 19), .int v_2837, .ref (q 21), .ref (q 22), .ref (q 23), .ref (q 24), .ref (q 25), .ref (q 26), .ref (q 27), .ref (q 28)]) rfl dX12_advance_111 (fun f_3451 hf_3452 hk_3453 => ?_)
              have hW_3454 := hW_2900.up hf_3452 hk_3453 t_2 ⟨v_2821, v_2822, v_2824, v_3448, v_2826, v_2830, v_2832, v_2833, v_2834, v_2835, v_2837, rfl, (by first | omega | (simp only [Int32.lt_iff_toInt_lt, Int32.le_iff_toInt_le, Int32.reduceToInt, ← Int32.toInt_inj, true_and, and_true, or_true, true_or, false_or, or_false, false_and, and_false, not_true_eq_false, not_false_eq_true] <;> omega)), (by first | omega | (simp only [Int32.lt_iff_toInt_lt, Int32.le_iff_toInt_le, Int32.reduceToInt, ← Int32.toInt_inj, true_and, and_true, or_true, true_or, false_or, or_false, false_and, and_false, not_true_eq_false, not_false_eq_true] <;> omega)), (by first | omega | (simp only [Int32.lt_iff_toInt_lt, Int32.le_iff_toInt_le, Int32.reduceToInt, ← Int32.toInt_inj, true_and, and_true, or_true, true_or, false_or, or_false, false_and, and_false, not_true_eq_false, not_false_eq_true] <;> omega)), (by first | omega | (simp only [Int32.lt_iff_toInt_lt, Int32.le_iff_toInt_le, Int32.reduceToInt, ← Int32.toInt_inj, true_and, and_true, or_true, true_or, false_or, or_false, false_and, and_false, not_true_eq_false, not_false_eq_true] <;> omega)), (by first | omega | (simp only [Int32.lt_iff_toInt_lt, Int32.le_iff_toInt_le, Int32.reduceToInt, ← Int32.toInt_inj, true_and, and_true, or_true, true_or, false_or, or_false, false_and, and_false, not_true_eq_false, not_false_eq_true] <;> omega)), (by first | omega | (simp only [Int32.lt_iff_toInt_lt, Int32.le_iff_toInt_le, Int32.reduceToInt, ← Int32.toInt_inj, true_and, and_true, or_true, true_or, false_or, or_false, false_and, and_false, not_true_eq_false, not_false_eq_true] <;> omega)), (by first | omega | (simp only [Int32.lt_iff_toInt_lt, Int32.le_iff_toInt_le, Int32.reduceToInt, ← Int32.toInt_inj, true_and, and_true, or_true, true_or, false_or, or_false, false_and, and_false, not_true_eq_false, not_false_eq_true] <;> omega))⟩
              have hf_3455 := (hk_3453 (q 4) (ne_kd e_2912 hf_2898 rfl)).trans e_2912
              have fr_3456 := FR.w hk_3453 hf_2898 (k := 12) rfl
              refine v_goto hC dX12_advance_114 (tgt := 83) (by decide) ?_
              have lp_3654 : ∀ (n_3655 : Nat) (f_3646 : Nat → va_E) (hW_3647 : WT T L f_3646) (hF_3648 : FR [12] f_3451 f_3646)  (nv_3650 : v_28.toInt ≤ fld (f_3646 a_0) 9) (nv_3651 : fld (f_3646 a_0) 9 < fld (f_3646 a_0) 8) (nv_3652 : fld (f_3646 a_0) 12 = v_35.toInt) (nv_3653 : fld (f_3646 a_0) 20 = v_39.toInt) (hm_3657 : 600 - fld (f_3646 a_0) 8 < (n_3655 : Int)), V z E 2 0 0 L f_3646 83 [(0, .ref a_0)] [] := by
                intro n_3655
                induction n_3655 with
                | zero =>
                  intro f_3646 hW_3647 hF_3648 nv_3650 nv_3651 nv_3652 nv_3653 hm_3657
                  have hf_3649 := hF_3648.at hf_3455 rfl
                  obtain ⟨v_3659, v_3660, v_3662, v_3664, v_3666, v_3668, v_3670, v_3671, v_3672, v_3673, v_3675, e_3658, b_3661, b_3663, b_3665, b_3667, b_3669, b_3674, b_3676⟩ := hW_3647.at m_1 t_2
                  have fe_3677 : fld (f_3646 a_0) 9 = (v_3666 : Int32).toInt := by rw [e_3658]; rfl
                  rw [fe_3677] at nv_3650
                  have fe_3678 : fld (f_3646 a_0) 8 = (v_3664 : Int32).toInt := by rw [e_3658]; rfl
                  have fe_3679 : fld (f_3646 a_0) 9 = (v_3666 : Int32).toInt := by rw [e_3658]; rfl
                  rw [fe_3678, fe_3679] at nv_3651
                  have fe_3680 : fld (f_3646 a_0) 12 = (v_3671 : Int32).toInt := by rw [e_3658]; rfl
                  rw [fe_3680] at nv_3652
                  have fe_3681 : fld (f_3646 a_0) 20 = (v_3675 : Int32).toInt := by rw [e_3658]; rfl
                  rw [fe_3681] at nv_3653
                  have h_3682 : fld (f_3646 a_0) 8 = (v_3664 : Int32).toInt := by rw [e_3658]; rfl
                  rw [h_3682] at hm_3657
                  exfalso; omega
                | succ n_3655 ih_3656 =>
                  intro f_3646 hW_3647 hF_3648 nv_3650 nv_3651 nv_3652 nv_3653 hm_3657
                  have hf_3649 := hF_3648.at hf_3455 rfl
                  obtain ⟨v_3659, v_3660, v_3662, v_3664, v_3666, v_3668, v_3670, v_3671, v_3672, v_3673, v_3675, e_3658, b_3661, b_3663, b_3665, b_3667, b_3669, b_3674, b_3676⟩ := hW_3647.at m_1 t_2
                  have fe_3677 : fld (f_3646 a_0) 9 = (v_3666 : Int32).toInt := by rw [e_3658]; rfl
                  rw [fe_3677] at nv_3650
                  have fe_3678 : fld (f_3646 a_0) 8 = (v_3664 : Int32).toInt := by rw [e_3658]; rfl
                  have fe_3679 : fld (f_3646 a_0) 9 = (v_3666 : Int32).toInt := by rw [e_3658]; rfl
                  rw [fe_3678, fe_3679] at nv_3651
                  have fe_3680 : fld (f_3646 a_0) 12 = (v_3671 : Int32).toInt := by rw [e_3658]; rfl
                  rw [fe_3680] at nv_3652
                  have fe_3681 : fld (f_3646 a_0) 20 = (v_3675 : Int32).toInt := by rw [e_3658]; rfl
                  rw [fe_3681] at nv_3653
                  have h_3682 : fld (f_3646 a_0) 8 = (v_3664 : Int32).toInt := by rw [e_3658]; rfl
                  rw [h_3682] at hm_3657
                  refine v_aload_n hC dX12_advance_83 rfl ?_
                  refine v_aload_n hC dX12_advance_84 rfl ?_
                  refine v_get hC fl_X12_108 m_1 e_3658 rfl dX12_advance_85 ?_
                  refine v_vi hC (rest := []) m_1 e_3658 rfl mi_X12_see ms_X12_see (p_X12_see hW_3647 k_0 (by first | omega | (simp only [Int32.lt_iff_toInt_lt, Int32.le_iff_toInt_le, Int32.reduceToInt, ← Int32.toInt_inj, true_and, and_true, or_true, true_or, false_or, or_false, false_and, and_false, not_true_eq_false, not_false_eq_true] <;> omega))) mx_X12_see ml_X12_114 (by decide) rfl (cells1 := 0) (slots1 := 0) (by decide) (by decide) (Nat.le_of_ble_eq_true rfl) (Nat.le_of_ble_eq_true rfl) rfl (Nat.le_of_ble_eq_true rfl) dX12_advance_88 (fun r_3683 L_3684 f_3685 h_3686 => ?_)
                  obtain ⟨rfl, rfl, rfl⟩ := h_3686
                  have sb_3689 := sv_b (f_3646 a_0) (f_3646 (q 4)) v_3664
                  have fe_3690 : fld (f_3646 a_0) 7 = (v_3662 : Int32).toInt := by rw [e_3658]; rfl
                  rw [fe_3690] at sb_3689
                  obtain ⟨v_3691, h_3692⟩ : ∃ v9 : Int64, (sv (f_3646 a_0) (f_3646 (q 4)) v_3664).toInt64 = v9 := ⟨_, rfl⟩
                  refine v_i2l hC dX12_advance_91 h_3692 ?_
                  have h_3693 : v_3691.toInt = (sv (f_3646 a_0) (f_3646 (q 4)) v_3664).toInt := by rw [← h_3692]; exact Int32.toInt_toInt64 _
                  refine v_ldc2 hC kl_X12_123 dX12_advance_92 ?_
                  refine v_ldc2 hC kl_X12_125 dX12_advance_95 ?_
                  refine v_si hC (rest := []) mt_X12_in (p_X12_in hW_3647) mx_X12_in ml_X12_79 (by decide) rfl (cells1 := 0) (slots1 := 0) (by decide) (by decide) (Nat.le_of_ble_eq_true rfl) (Nat.le_of_ble_eq_true rfl) rfl (Nat.le_of_ble_eq_true rfl) dX12_advance_98 (fun r_3694 L_3695 f_3696 h_3697 => ?_)
                  obtain ⟨rfl, rfl, b_3698, x_3699⟩ := h_3697
                  try simp only [Int32.reduceToInt, Int64.reduceToInt] at x_3699
                  refine v_if_eq hC dX12_advance_101 (tgt := 117) (by decide) (fun h_3702 => ?_) (fun h_3702 => ?_)
                  · simp only [Int32.lt_iff_toInt_lt, Int32.le_iff_toInt_le, Int32.reduceToInt, ← Int32.toInt_inj] at h_3702
                    refine v_aload_n hC dX12_advance_117 rfl ?_
                    refine v_iconst hC dX12_advance_118 (v := 1) (by decide) ?_
                    refine v_put hC fl_X12_120 m_1 e_3658 rfl rfl (Nat.le_of_ble_eq_true rfl) (fs' := [.int v_3659, .ref (q 1), .ref (q 2), .ref (q 3), .ref (q 4), .int v_3660, .ref (q 6), .int v_3662, .int v_3664, .int v_3666, .int 1, .int v_3670, .int v_3671, .int v_3672, .ref (q 14), .ref (q 15), .ref (q 16), .int v_3673, .ref (q 18), .ref (q 19), .int v_3675, .ref (q 21), .ref (q 22), .ref (q 23), .ref (q 24), .ref (q 25), .ref (q 26), .ref (q 27), .ref (q 28)]) rfl dX12_advance_119 (fun f_3703 hf_3704 hk_3705 => ?_)
                    have hW_3706 := hW_3647.up hf_3704 hk_3705 t_2 ⟨v_3659, v_3660, v_3662, v_3664, v_3666, 1, v_3670, v_3671, v_3672, v_3673, v_3675, rfl, (by first | omega | (simp only [Int32.lt_iff_toInt_lt, Int32.le_iff_toInt_le, Int32.reduceToInt, ← Int32.toInt_inj, true_and, and_true, or_true, true_or, false_or, or_false, false_and, and_false, not_true_eq_false, not_false_eq_true] <;> omega)), (by first | omega | (simp only [Int32.lt_iff_toInt_lt, Int32.le_iff_toInt_le, Int32.reduceToInt, ← Int32.toInt_inj, true_and, and_true, or_true, true_or, false_or, or_false, false_and, and_false, not_true_eq_false, not_false_eq_true] <;> omega)), (by first | omega | (simp only [Int32.lt_iff_toInt_lt, Int32.le_iff_toInt_le, Int32.reduceToInt, ← Int32.toInt_inj, true_and, and_true, or_true, true_or, false_or, or_false, false_and, and_false, not_true_eq_false, not_false_eq_true] <;> omega)), (by first | omega | (simp only [Int32.lt_iff_toInt_lt, Int32.le_iff_toInt_le, Int32.reduceToInt, ← Int32.toInt_inj, true_and, and_true, or_true, true_or, false_or, or_false, false_and, and_false, not_true_eq_false, not_false_eq_true] <;> omega)), (by decide), (by first | omega | (simp only [Int32.lt_iff_toInt_lt, Int32.le_iff_toInt_le, Int32.reduceToInt, ← Int32.toInt_inj, true_and, and_true, or_true, true_or, false_or, or_false, false_and, and_false, not_true_eq_false, not_false_eq_true] <;> omega)), (by first | omega | (simp only [Int32.lt_iff_toInt_lt, Int32.le_iff_toInt_le, Int32.reduceToInt, ← Int32.toInt_inj, true_and, and_true, or_true, true_or, false_or, or_false, false_and, and_false, not_true_eq_false, not_false_eq_true] <;> omega))⟩
                    have hf_3707 := (hk_3705 (q 4) (ne_kd hf_3649 e_3658 rfl)).trans hf_3649
                    have fr_3708 := FR.w hk_3705 e_3658 (k := 12) rfl
                    refine v_goto hC dX12_advance_122 (tgt := 240) (by decide) ?_
                    have fe_3709 : fld (f_3703 a_0) 8 = (v_3664 : Int32).toInt := by rw [hf_3704]; rfl
                    have fe_3710 : fld (f_3703 a_0) 9 = (v_3666 : Int32).toInt := by rw [hf_3704]; rfl
                    have fe_3711 : fld (f_3703 a_0) 8 = (v_3664 : Int32).toInt := by rw [hf_3704]; rfl
                    have fe_3712 : fld (f_3703 a_0) 9 = (v_3666 : Int32).toInt := by rw [hf_3704]; rfl
                    have fe_3713 : fld (f_3703 a_0) 10 = (1 : Int32).toInt := by rw [hf_3704]; rfl
                    simp only [Int32.reduceToInt] at fe_3713
                    have fe_3714 : fld (f_3703 a_0) 12 = (v_3671 : Int32).toInt := by rw [hf_3704]; rfl
                    have fe_3715 : fld (f_3703 a_0) 20 = (v_3675 : Int32).toInt := by rw [hf_3704]; rfl
                    exact hR _ _ _ _ _ _ dX12_advance_240 (Nat.le_of_ble_eq_true rfl) (Nat.le_of_ble_eq_true rfl) ⟨rfl, hW_3706, (((((hF_2812.tr fr_2901).tr fr_3456).tr hF_3648).tr fr_3708).mono rfl), (by simp only [fe_3709, fe_3710, mz_41, true_and, and_true, or_true, true_or, false_or, or_false, false_and, and_false, not_true_eq_false, not_false_eq_true] <;> first | omega | (simp only [Int32.lt_iff_toInt_lt, Int32.le_iff_toInt_le, Int32.reduceToInt, ← Int32.toInt_inj, true_and, and_true, or_true, true_or, false_or, or_false, false_and, and_false, not_true_eq_false, not_false_eq_true] <;> omega)), (by simp only [fe_3711, fe_3712, fe_3713, true_and, and_true, or_true, true_or, false_or, or_false, false_and, and_false, not_true_eq_false, not_false_eq_true] <;> first | omega | (simp only [Int32.lt_iff_toInt_lt, Int32.le_iff_toInt_le, Int32.reduceToInt, ← Int32.toInt_inj, true_and, and_true, or_true, true_or, false_or, or_false, false_and, and_false, not_true_eq_false, not_false_eq_true] <;> omega)), (by simp only [fe_3714, mz_42, true_and, and_true, or_true, true_or, false_or, or_false, false_and, and_false, not_true_eq_false, not_false_eq_true] <;> first | omega | (simp only [Int32.lt_iff_toInt_lt, Int32.le_iff_toInt_le, Int32.reduceToInt, ← Int32.toInt_inj, true_and, and_true, or_true, true_or, false_or, or_false, false_and, and_false, not_true_eq_false, not_false_eq_true] <;> omega)), (by simp only [fe_3715, mz_43, true_and, and_true, or_true, true_or, false_or, or_false, false_and, and_false, not_true_eq_false, not_false_eq_true] <;> first | omega | (simp only [Int32.lt_iff_toInt_lt, Int32.le_iff_toInt_le, Int32.reduceToInt, ← Int32.toInt_inj, true_and, and_true, or_true, true_or, false_or, or_false, false_and, and_false, not_true_eq_false, not_false_eq_true] <;> omega))⟩
                  · simp only [Int32.lt_iff_toInt_lt, Int32.le_iff_toInt_le, Int32.reduceToInt, ← Int32.toInt_inj] at h_3702
                    refine v_aload_n hC dX12_advance_104 rfl ?_
                    refine v_dup hC dX12_advance_105 rfl ?_
                    refine v_get hC fl_X12_108 m_1 e_3658 rfl dX12_advance_106 ?_
                    refine v_iconst hC dX12_advance_109 (v := 1) (by decide) ?_
                    obtain ⟨v_3716, h_3717⟩ : ∃ v9 : Int32, v_3664 + 1 = v9 := ⟨_, rfl⟩
                    refine v_iadd hC dX12_advance_110 h_3717 ?_
                    have h_3718 := add_v h_3717 (by first | omega | (simp only [Int32.lt_iff_toInt_lt, Int32.le_iff_toInt_le, Int32.reduceToInt, ← Int32.toInt_inj, true_and, and_true, or_true, true_or, false_or, or_false, false_and, and_false, not_true_eq_false, not_false_eq_true] <;> omega)) (by first | omega | (simp only [Int32.lt_iff_toInt_lt, Int32.le_iff_toInt_le, Int32.reduceToInt, ← Int32.toInt_inj, true_and, and_true, or_true, true_or, false_or, or_false, false_and, and_false, not_true_eq_false, not_false_eq_true] <;> omega))
                    try simp only [Int32.reduceToInt] at h_3718
                    refine v_put hC fl_X12_108 m_1 e_3658 rfl rfl (Nat.le_of_ble_eq_true rfl) (fs' := [.int v_3659, .ref (q 1), .ref (q 2), .ref (q 3), .ref (q 4), .int v_3660, .ref (q 6), .int v_3662, .int v_3716, .int v_3666, .int v_3668, .int v_3670, .int v_3671, .int v_3672, .ref (q 14), .ref (q 15), .ref (q 16), .int v_3673, .ref (q 18), .ref (q 19), .int v_3675, .ref (q 21), .ref (q 22), .ref (q 23), .ref (q 24), .ref (q 25), .ref (q 26), .ref (q 27), .ref (q 28)]) rfl dX12_advance_111 (fun f_3719 hf_3720 hk_3721 => ?_)
                    have hW_3722 := hW_3647.up hf_3720 hk_3721 t_2 ⟨v_3659, v_3660, v_3662, v_3716, v_3666, v_3668, v_3670, v_3671, v_3672, v_3673, v_3675, rfl, (by first | omega | (simp only [Int32.lt_iff_toInt_lt, Int32.le_iff_toInt_le, Int32.reduceToInt, ← Int32.toInt_inj, true_and, and_true, or_true, true_or, false_or, or_false, false_and, and_false, not_true_eq_false, not_false_eq_true] <;> omega)), (by first | omega | (simp only [Int32.lt_iff_toInt_lt, Int32.le_iff_toInt_le, Int32.reduceToInt, ← Int32.toInt_inj, true_and, and_true, or_true, true_or, false_or, or_false, false_and, and_false, not_true_eq_false, not_false_eq_true] <;> omega)), (by first | omega | (simp only [Int32.lt_iff_toInt_lt, Int32.le_iff_toInt_le, Int32.reduceToInt, ← Int32.toInt_inj, true_and, and_true, or_true, true_or, false_or, or_false, false_and, and_false, not_true_eq_false, not_false_eq_true] <;> omega)), (by first | omega | (simp only [Int32.lt_iff_toInt_lt, Int32.le_iff_toInt_le, Int32.reduceToInt, ← Int32.toInt_inj, true_and, and_true, or_true, true_or, false_or, or_false, false_and, and_false, not_true_eq_false, not_false_eq_true] <;> omega)), (by first | omega | (simp only [Int32.lt_iff_toInt_lt, Int32.le_iff_toInt_le, Int32.reduceToInt, ← Int32.toInt_inj, true_and, and_true, or_true, true_or, false_or, or_false, false_and, and_false, not_true_eq_false, not_false_eq_true] <;> omega)), (by first | omega | (simp only [Int32.lt_iff_toInt_lt, Int32.le_iff_toInt_le, Int32.reduceToInt, ← Int32.toInt_inj, true_and, and_true, or_true, true_or, false_or, or_false, false_and, and_false, not_true_eq_false, not_false_eq_true] <;> omega)), (by first | omega | (simp only [Int32.lt_iff_toInt_lt, Int32.le_iff_toInt_le, Int32.reduceToInt, ← Int32.toInt_inj, true_and, and_true, or_true, true_or, false_or, or_false, false_and, and_false, not_true_eq_false, not_false_eq_true] <;> omega))⟩
                    have hf_3723 := (hk_3721 (q 4) (ne_kd hf_3649 e_3658 rfl)).trans hf_3649
                    have fr_3724 := FR.w hk_3721 e_3658 (k := 12) rfl
                    refine v_goto hC dX12_advance_114 (tgt := 83) (by decide) ?_
                    refine v_pick [0] rfl ?_
                    have fe_3725 : fld (f_3719 a_0) 9 = (v_3666 : Int32).toInt := by rw [hf_3720]; rfl
                    have fe_3726 : fld (f_3719 a_0) 8 = (v_3716 : Int32).toInt := by rw [hf_3720]; rfl
                    have fe_3727 : fld (f_3719 a_0) 9 = (v_3666 : Int32).toInt := by rw [hf_3720]; rfl
                    have fe_3728 : fld (f_3719 a_0) 12 = (v_3671 : Int32).toInt := by rw [hf_3720]; rfl
                    have fe_3729 : fld (f_3719 a_0) 20 = (v_3675 : Int32).toInt := by rw [hf_3720]; rfl
                    have h_3730 : fld (f_3719 a_0) 8 = (v_3716 : Int32).toInt := by rw [hf_3720]; rfl
                    exact ih_3656 f_3719 hW_3722 ((hF_3648.tr fr_3724).mono rfl) (by rw [fe_3725] <;> first | omega | (simp only [Int32.lt_iff_toInt_lt, Int32.le_iff_toInt_le, Int32.reduceToInt, ← Int32.toInt_inj, true_and, and_true, or_true, true_or, false_or, or_false, false_and, and_false, not_true_eq_false, not_false_eq_true] <;> omega)) (by rw [fe_3726, fe_3727] <;> first | omega | (simp only [Int32.lt_iff_toInt_lt, Int32.le_iff_toInt_le, Int32.reduceToInt, ← Int32.toInt_inj, true_and, and_true, or_true, true_or, false_or, or_false, false_and, and_false, not_true_eq_false, not_false_eq_true] <;> omega)) (by rw [fe_3728] <;> first | omega | (simp only [Int32.lt_iff_toInt_lt, Int32.le_iff_toInt_le, Int32.reduceToInt, ← Int32.toInt_inj, true_and, and_true, or_true, true_or, false_or, or_false, false_and, and_false, not_true_eq_false, not_false_eq_true] <;> omega)) (by rw [fe_3729] <;> first | omega | (simp only [Int32.lt_iff_toInt_lt, Int32.le_iff_toInt_le, Int32.reduceToInt, ← Int32.toInt_inj, true_and, and_true, or_true, true_or, false_or, or_false, false_and, and_false, not_true_eq_false, not_false_eq_true] <;> omega)) (by rw [h_3730]; omega)
              refine v_pick [1] rfl ?_
              have fe_3731 : fld (f_3451 a_0) 9 = (v_2826 : Int32).toInt := by rw [hf_3452]; rfl
              have fe_3732 : fld (f_3451 a_0) 8 = (v_3448 : Int32).toInt := by rw [hf_3452]; rfl
              have fe_3733 : fld (f_3451 a_0) 9 = (v_2826 : Int32).toInt := by rw [hf_3452]; rfl
              have fe_3734 : fld (f_3451 a_0) 12 = (v_2833 : Int32).toInt := by rw [hf_3452]; rfl
              have fe_3735 : fld (f_3451 a_0) 20 = (v_2837 : Int32).toInt := by rw [hf_3452]; rfl
              have h_3736 : fld (f_3451 a_0) 8 = (v_3448 : Int32).toInt := by rw [hf_3452]; rfl
              exact lp_3654 602 f_3451 hW_3454 FR.rf (by rw [fe_3731] <;> first | omega | (simp only [Int32.lt_iff_toInt_lt, Int32.le_iff_toInt_le, Int32.reduceToInt, ← Int32.toInt_inj, true_and, and_true, or_true, true_or, false_or, or_false, false_and, and_false, not_true_eq_false, not_false_eq_true] <;> omega)) (by rw [fe_3732, fe_3733] <;> first | omega | (simp only [Int32.lt_iff_toInt_lt, Int32.le_iff_toInt_le, Int32.reduceToInt, ← Int32.toInt_inj, true_and, and_true, or_true, true_or, false_or, or_false, false_and, and_false, not_true_eq_false, not_false_eq_true] <;> omega)) (by rw [fe_3734] <;> first | omega | (simp only [Int32.lt_iff_toInt_lt, Int32.le_iff_toInt_le, Int32.reduceToInt, ← Int32.toInt_inj, true_and, and_true, or_true, true_or, false_or, or_false, false_and, and_false, not_true_eq_false, not_false_eq_true] <;> omega)) (by rw [fe_3735] <;> first | omega | (simp only [Int32.lt_iff_toInt_lt, Int32.le_iff_toInt_le, Int32.reduceToInt, ← Int32.toInt_inj, true_and, and_true, or_true, true_or, false_or, or_false, false_and, and_false, not_true_eq_false, not_false_eq_true] <;> omega)) (by rw [h_3736]; omega)
          · simp only [Int32.lt_iff_toInt_lt, Int32.le_iff_toInt_le, Int32.reduceToInt, ← Int32.toInt_inj] at h_2916
            refine v_aload_n hC dX12_advance_61 rfl ?_
            refine v_iconst hC dX12_advance_62 (v := 0) (by decide) ?_
            refine v_put hC fl_X12_120 m_1 hf_2898 rfl rfl (Nat.le_of_ble_eq_true rfl) (fs' := [.int v_2821, .ref (q 1), .ref (q 2), .ref (q 3), .ref (q 4), .int v_2822, .ref (q 6), .int v_2824, .int v_2826, .int v_2826, .int 0, .int v_2832, .int v_2833, .int v_2834, .ref (q 14), .ref (q 15), .ref (q 16), .int v_2835, .ref (q 18), .ref (q 19), .int v_2837, .ref (q 21), .ref (q 22), .ref (q 23), .ref (q 24), .ref (q 25), .ref (q 26), .ref (q 27), .ref (q 28)]) rfl dX12_advance_63 (fun f_3737 hf_3738 hk_3739 => ?_)
            have hW_3740 := hW_2900.up hf_3738 hk_3739 t_2 ⟨v_2821, v_2822, v_2824, v_2826, v_2826, 0, v_2832, v_2833, v_2834, v_2835, v_2837, rfl, (by first | omega | (simp only [Int32.lt_iff_toInt_lt, Int32.le_iff_toInt_le, Int32.reduceToInt, ← Int32.toInt_inj, true_and, and_true, or_true, true_or, false_or, or_false, false_and, and_false, not_true_eq_false, not_false_eq_true] <;> omega)), (by first | omega | (simp only [Int32.lt_iff_toInt_lt, Int32.le_iff_toInt_le, Int32.reduceToInt, ← Int32.toInt_inj, true_and, and_true, or_true, true_or, false_or, or_false, false_and, and_false, not_true_eq_false, not_false_eq_true] <;> omega)), (by first | omega | (simp only [Int32.lt_iff_toInt_lt, Int32.le_iff_toInt_le, Int32.reduceToInt, ← Int32.toInt_inj, true_and, and_true, or_true, true_or, false_or, or_false, false_and, and_false, not_true_eq_false, not_false_eq_true] <;> omega)), (by first | omega | (simp only [Int32.lt_iff_toInt_lt, Int32.le_iff_toInt_le, Int32.reduceToInt, ← Int32.toInt_inj, true_and, and_true, or_true, true_or, false_or, or_false, false_and, and_false, not_true_eq_false, not_false_eq_true] <;> omega)), (by decide), (by first | omega | (simp only [Int32.lt_iff_toInt_lt, Int32.le_iff_toInt_le, Int32.reduceToInt, ← Int32.toInt_inj, true_and, and_true, or_true, true_or, false_or, or_false, false_and, and_false, not_true_eq_false, not_false_eq_true] <;> omega)), (by first | omega | (simp only [Int32.lt_iff_toInt_lt, Int32.le_iff_toInt_le, Int32.reduceToInt, ← Int32.toInt_inj, true_and, and_true, or_true, true_or, false_or, or_false, false_and, and_false, not_true_eq_false, not_false_eq_true] <;> omega))⟩
            have hf_3741 := (hk_3739 (q 4) (ne_kd e_2912 hf_2898 rfl)).trans e_2912
            have fr_3742 := FR.w hk_3739 hf_2898 (k := 12) rfl
            refine v_goto hC dX12_advance_66 (tgt := 240) (by decide) ?_
            have fe_3743 : fld (f_3737 a_0) 8 = (v_2826 : Int32).toInt := by rw [hf_3738]; rfl
            have fe_3744 : fld (f_3737 a_0) 9 = (v_2826 : Int32).toInt := by rw [hf_3738]; rfl
            have fe_3745 : fld (f_3737 a_0) 8 = (v_2826 : Int32).toInt := by rw [hf_3738]; rfl
            have fe_3746 : fld (f_3737 a_0) 9 = (v_2826 : Int32).toInt := by rw [hf_3738]; rfl
            have fe_3747 : fld (f_3737 a_0) 10 = (0 : Int32).toInt := by rw [hf_3738]; rfl
            simp only [Int32.reduceToInt] at fe_3747
            have fe_3748 : fld (f_3737 a_0) 12 = (v_2833 : Int32).toInt := by rw [hf_3738]; rfl
            have fe_3749 : fld (f_3737 a_0) 20 = (v_2837 : Int32).toInt := by rw [hf_3738]; rfl
            exact hR _ _ _ _ _ _ dX12_advance_240 (Nat.le_of_ble_eq_true rfl) (Nat.le_of_ble_eq_true rfl) ⟨rfl, hW_3740, (((hF_2812.tr fr_2901).tr fr_3742).mono rfl), (by simp only [fe_3743, fe_3744, mz_41, true_and, and_true, or_true, true_or, false_or, or_false, false_and, and_false, not_true_eq_false, not_false_eq_true] <;> first | omega | (simp only [Int32.lt_iff_toInt_lt, Int32.le_iff_toInt_le, Int32.reduceToInt, ← Int32.toInt_inj, true_and, and_true, or_true, true_or, false_or, or_false, false_and, and_false, not_true_eq_false, not_false_eq_true] <;> omega)), (by simp only [fe_3745, fe_3746, fe_3747, true_and, and_true, or_true, true_or, false_or, or_false, false_and, and_false, not_true_eq_false, not_false_eq_true] <;> first | omega | (simp only [Int32.lt_iff_toInt_lt, Int32.le_iff_toInt_le, Int32.reduceToInt, ← Int32.toInt_inj, true_and, and_true, or_true, true_or, false_or, or_false, false_and, and_false, not_true_eq_false, not_false_eq_true] <;> omega)), (by simp only [fe_3748, mz_42, true_and, and_true, or_true, true_or, false_or, or_false, false_and, and_false, not_true_eq_false, not_false_eq_true] <;> first | omega | (simp only [Int32.lt_iff_toInt_lt, Int32.le_iff_toInt_le, Int32.reduceToInt, ← Int32.toInt_inj, true_and, and_true, or_true, true_or, false_or, or_false, false_and, and_false, not_true_eq_false, not_false_eq_true] <;> omega)), (by simp only [fe_3749, mz_43, true_and, and_true, or_true, true_or, false_or, or_false, false_and, and_false, not_true_eq_false, not_false_eq_true] <;> first | omega | (simp only [Int32.lt_iff_toInt_lt, Int32.le_iff_toInt_le, Int32.reduceToInt, ← Int32.toInt_inj, true_and, and_true, or_true, true_or, false_or, or_false, false_and, and_false, not_true_eq_false, not_false_eq_true] <;> omega))⟩
        · simp only [Int32.lt_iff_toInt_lt, Int32.le_iff_toInt_le, Int32.reduceToInt, ← Int32.toInt_inj] at h_2884
          refine v_aload_n hC dX12_advance_26 rfl ?_
          refine v_dup hC dX12_advance_27 rfl ?_
          refine v_get hC fl_X12_108 m_1 e_2820 rfl dX12_advance_28 ?_
          refine v_iconst hC dX12_advance_31 (v := 1) (by decide) ?_
          obtain ⟨v_3750, h_3751⟩ : ∃ v9 : Int32, v_2826 + 1 = v9 := ⟨_, rfl⟩
          refine v_iadd hC dX12_advance_32 h_3751 ?_
          have h_3752 := add_v h_3751 (by first | omega | (simp only [Int32.lt_iff_toInt_lt, Int32.le_iff_toInt_le, Int32.reduceToInt, ← Int32.toInt_inj, true_and, and_true, or_true, true_or, false_or, or_false, false_and, and_false, not_true_eq_false, not_false_eq_true] <;> omega)) (by first | omega | (simp only [Int32.lt_iff_toInt_lt, Int32.le_iff_toInt_le, Int32.reduceToInt, ← Int32.toInt_inj, true_and, and_true, or_true, true_or, false_or, or_false, false_and, and_false, not_true_eq_false, not_false_eq_true] <;> omega))
          try simp only [Int32.reduceToInt] at h_3752
          refine v_put hC fl_X12_108 m_1 e_2820 rfl rfl (Nat.le_of_ble_eq_true rfl) (fs' := [.int v_2821, .ref (q 1), .ref (q 2), .ref (q 3), .ref (q 4), .int v_2822, .ref (q 6), .int v_2824, .int v_3750, .int v_2828, .int v_2830, .int v_2832, .int v_2833, .int v_2834, .ref (q 14), .ref (q 15), .ref (q 16), .int v_2835, .ref (q 18), .ref (q 19), .int v_2837, .ref (q 21), .ref (q 22), .ref (q 23), .ref (q 24), .ref (q 25), .ref (q 26), .ref (q 27), .ref (q 28)]) rfl dX12_advance_33 (fun f_3753 hf_3754 hk_3755 => ?_)
          have hW_3756 := hW_2811.up hf_3754 hk_3755 t_2 ⟨v_2821, v_2822, v_2824, v_3750, v_2828, v_2830, v_2832, v_2833, v_2834, v_2835, v_2837, rfl, (by first | omega | (simp only [Int32.lt_iff_toInt_lt, Int32.le_iff_toInt_le, Int32.reduceToInt, ← Int32.toInt_inj, true_and, and_true, or_true, true_or, false_or, or_false, false_and, and_false, not_true_eq_false, not_false_eq_true] <;> omega)), (by first | omega | (simp only [Int32.lt_iff_toInt_lt, Int32.le_iff_toInt_le, Int32.reduceToInt, ← Int32.toInt_inj, true_and, and_true, or_true, true_or, false_or, or_false, false_and, and_false, not_true_eq_false, not_false_eq_true] <;> omega)), (by first | omega | (simp only [Int32.lt_iff_toInt_lt, Int32.le_iff_toInt_le, Int32.reduceToInt, ← Int32.toInt_inj, true_and, and_true, or_true, true_or, false_or, or_false, false_and, and_false, not_true_eq_false, not_false_eq_true] <;> omega)), (by first | omega | (simp only [Int32.lt_iff_toInt_lt, Int32.le_iff_toInt_le, Int32.reduceToInt, ← Int32.toInt_inj, true_and, and_true, or_true, true_or, false_or, or_false, false_and, and_false, not_true_eq_false, not_false_eq_true] <;> omega)), (by first | omega | (simp only [Int32.lt_iff_toInt_lt, Int32.le_iff_toInt_le, Int32.reduceToInt, ← Int32.toInt_inj, true_and, and_true, or_true, true_or, false_or, or_false, false_and, and_false, not_true_eq_false, not_false_eq_true] <;> omega)), (by first | omega | (simp only [Int32.lt_iff_toInt_lt, Int32.le_iff_toInt_le, Int32.reduceToInt, ← Int32.toInt_inj, true_and, and_true, or_true, true_or, false_or, or_false, false_and, and_false, not_true_eq_false, not_false_eq_true] <;> omega)), (by first | omega | (simp only [Int32.lt_iff_toInt_lt, Int32.le_iff_toInt_le, Int32.reduceToInt, ← Int32.toInt_inj, true_and, and_true, or_true, true_or, false_or, or_false, false_and, and_false, not_true_eq_false, not_false_eq_true] <;> omega))⟩
          have fr_3757 := FR.w hk_3755 e_2820 (k := 12) rfl
          refine v_goto hC dX12_advance_36 (tgt := 0) (by decide) ?_
          refine v_pick [0] rfl ?_
          have fe_3758 : fld (f_3753 a_0) 8 = (v_3750 : Int32).toInt := by rw [hf_3754]; rfl
          have fe_3759 : fld (f_3753 a_0) 12 = (v_2833 : Int32).toInt := by rw [hf_3754]; rfl
          have fe_3760 : fld (f_3753 a_0) 20 = (v_2837 : Int32).toInt := by rw [hf_3754]; rfl
          have h_3761 : fld (f_3753 a_0) 8 = (v_3750 : Int32).toInt := by rw [hf_3754]; rfl
          exact ih_2818 f_3753 hW_3756 ((hF_2812.tr fr_3757).mono rfl) (by rw [fe_3758] <;> first | omega | (simp only [Int32.lt_iff_toInt_lt, Int32.le_iff_toInt_le, Int32.reduceToInt, ← Int32.toInt_inj, true_and, and_true, or_true, true_or, false_or, or_false, false_and, and_false, not_true_eq_false, not_false_eq_true] <;> omega)) (by rw [fe_3759] <;> first | omega | (simp only [Int32.lt_iff_toInt_lt, Int32.le_iff_toInt_le, Int32.reduceToInt, ← Int32.toInt_inj, true_and, and_true, or_true, true_or, false_or, or_false, false_and, and_false, not_true_eq_false, not_false_eq_true] <;> omega)) (by rw [fe_3760] <;> first | omega | (simp only [Int32.lt_iff_toInt_lt, Int32.le_iff_toInt_le, Int32.reduceToInt, ← Int32.toInt_inj, true_and, and_true, or_true, true_or, false_or, or_false, false_and, and_false, not_true_eq_false, not_false_eq_true] <;> omega)) (by rw [h_3761]; omega)
  refine v_pick [0] rfl ?_
  have fe_3762 : fld (f a_0) 8 = (v_28 : Int32).toInt := by rw [e_22]; rfl
  have fe_3763 : fld (f a_0) 12 = (v_35 : Int32).toInt := by rw [e_22]; rfl
  have fe_3764 : fld (f a_0) 20 = (v_39 : Int32).toInt := by rw [e_22]; rfl
  have h_3765 : fld (f a_0) 8 = (v_28 : Int32).toInt := by rw [e_22]; rfl
  exact lp_2816 602 f hW FR.rf (by rw [fe_3762] <;> first | omega | (simp only [Int32.lt_iff_toInt_lt, Int32.le_iff_toInt_le, Int32.reduceToInt, ← Int32.toInt_inj, true_and, and_true, or_true, true_or, false_or, or_false, false_and, and_false, not_true_eq_false, not_false_eq_true] <;> omega)) (by rw [fe_3763] <;> first | omega | (simp only [Int32.lt_iff_toInt_lt, Int32.le_iff_toInt_le, Int32.reduceToInt, ← Int32.toInt_inj, true_and, and_true, or_true, true_or, false_or, or_false, false_and, and_false, not_true_eq_false, not_false_eq_true] <;> omega)) (by rw [fe_3764] <;> first | omega | (simp only [Int32.lt_iff_toInt_lt, Int32.le_iff_toInt_le, Int32.reduceToInt, ← Int32.toInt_inj, true_and, and_true, or_true, true_or, false_or, or_false, false_and, and_false, not_true_eq_false, not_false_eq_true] <;> omega)) (by rw [h_3765]; omega)
set_option maxRecDepth 100000 in
set_option maxHeartbeats 1500000 in
theorem p_X12_takes {l : Launch} {E : Ez} {L : List Nat} {f : Nat → va_E} {T : Nat → va_E → Prop} {a_0 : Nat} {a_1 : Nat} {q : Nat → Nat} (hW : WT T L f) (k_0 : isM T L E a_0 q) (ha_1 : a_1 < 77) : CI l yX12_takes cX12_takes 3 .boolean 5 0 0 E [.ref a_0, .ref (eK E a_1)] L f (fun r L1 f1 => L = L1 ∧ WT T L f1 ∧ FR [12] f f1 ∧ r = (iw (f a_0) (f (q 4)) a_1) ∧ ((iw (f a_0) (f (q 4)) a_1).toInt = 0 ∨ ((fld (f a_0) 8 ≤ fld (f1 a_0) 9 ∧ fld (f1 a_0) 9 ≤ fld (f1 a_0) 8) ∧ (fld (f1 a_0) 10 = 0 ∨ fld (f1 a_0) 9 < fld (f1 a_0) 8))) ∧ (¬ (iw (f a_0) (f (q 4)) a_1).toInt = 0 ∨ (fld (f1 a_0) 8 = fld (f a_0) 8 ∧ fld (f1 a_0) 9 = fld (f a_0) 9 ∧ fld (f1 a_0) 10 = fld (f a_0) 10)) ∧ fld (f1 a_0) 12 = fld (f a_0) 12 ∧ fld (f1 a_0) 20 = fld (f a_0) 20) := by
  refine ci_of (by decide) (Nat.le_of_ble_eq_true rfl) (fun z hz hnm hC hR => ?_)
  have hC : Cx z E cX12_takes RX12 3 5 0 0 := hC
  subst hz
  show V z E 3 0 0 L f 0 [(0, .ref a_0), (1, .ref (eK E a_1))] []
  obtain ⟨m_1, t_2, nq_21, k_3, k_4, k_5, k_6, k_7, k_8, k_9, k_10, k_11, k_12, k_13, k_14, k_15, k_16, k_17, k_18, k_19, k_20⟩ := id k_0
  obtain ⟨v_23, v_24, v_26, v_28, v_30, v_32, v_34, v_35, v_36, v_37, v_39, e_22, b_25, b_27, b_29, b_31, b_33, b_38, b_40⟩ := hW.at m_1 t_2
  have mz_41 : fld (f a_0) 8 = v_28.toInt := by rw [e_22]; rfl
  have mz_42 : fld (f a_0) 9 = v_30.toInt := by rw [e_22]; rfl
  have mz_43 : fld (f a_0) 10 = v_32.toInt := by rw [e_22]; rfl
  have mz_44 : fld (f a_0) 12 = v_35.toInt := by rw [e_22]; rfl
  have mz_45 : fld (f a_0) 20 = v_39.toInt := by rw [e_22]; rfl
  refine v_aload_n hC dX12_takes_0 rfl ?_
  refine v_aload_n hC dX12_takes_1 rfl ?_
  refine v_vi hC (rest := []) m_1 e_22 rfl mi_X12_is ms_X12_is (p_X12_is hW k_0 ha_1) mx_X12_is ml_X12_152 (by decide) rfl (cells1 := 0) (slots1 := 0) (by decide) (by decide) (Nat.le_of_ble_eq_true rfl) (Nat.le_of_ble_eq_true rfl) rfl (Nat.le_of_ble_eq_true rfl) dX12_takes_2 (fun r_46 L_47 f_48 h_49 => ?_)
  obtain ⟨rfl, rfl, rfl⟩ := h_49
  have fe_52 : fld (f a_0) 8 = (v_28 : Int32).toInt := by rw [e_22]; rfl
  have fe_53 : fld (f a_0) 9 = (v_30 : Int32).toInt := by rw [e_22]; rfl
  have fe_54 : fld (f a_0) 10 = (v_32 : Int32).toInt := by rw [e_22]; rfl
  have fe_55 : fld (f a_0) 12 = (v_35 : Int32).toInt := by rw [e_22]; rfl
  have ib_56 := iw_b (f a_0) (f (q 4)) a_1
  rw [fe_55, fe_54, fe_52, fe_53] at ib_56
  clear fe_52 fe_53 fe_54 fe_55
  refine v_istore_n hC dX12_takes_5 (by decide) (lv' := [(2, .int (iw (f a_0) (f (q 4)) a_1)), (0, .ref a_0), (1, .ref (eK E a_1))]) rfl ?_
  refine v_iload_n hC dX12_takes_6 rfl ?_
  refine v_if_eq hC dX12_takes_7 (tgt := 14) (by decide) (fun h_57 => ?_) (fun h_57 => ?_)
  · simp only [Int32.lt_iff_toInt_lt, Int32.le_iff_toInt_le, Int32.reduceToInt, ← Int32.toInt_inj] at h_57
    refine v_iload_n hC dX12_takes_14 rfl ?_
    have fe_58 : fld (f a_0) 8 = (v_28 : Int32).toInt := by rw [e_22]; rfl
    have fe_59 : fld (f a_0) 9 = (v_30 : Int32).toInt := by rw [e_22]; rfl
    have fe_60 : fld (f a_0) 10 = (v_32 : Int32).toInt := by rw [e_22]; rfl
    have fe_61 : fld (f a_0) 8 = (v_28 : Int32).toInt := by rw [e_22]; rfl
    have fe_62 : fld (f a_0) 9 = (v_30 : Int32).toInt := by rw [e_22]; rfl
    have fe_63 : fld (f a_0) 10 = (v_32 : Int32).toInt := by rw [e_22]; rfl
    have fe_64 : fld (f a_0) 12 = (v_35 : Int32).toInt := by rw [e_22]; rfl
    have fe_65 : fld (f a_0) 20 = (v_39 : Int32).toInt := by rw [e_22]; rfl
    exact hR _ _ _ _ _ _ _ dX12_takes_15 (nar01 (by first | omega | (simp only [Int32.lt_iff_toInt_lt, Int32.le_iff_toInt_le, Int32.reduceToInt, ← Int32.toInt_inj, true_and, and_true, or_true, true_or, false_or, or_false, false_and, and_false, not_true_eq_false, not_false_eq_true] <;> omega))) (Nat.le_of_ble_eq_true rfl) (Nat.le_of_ble_eq_true rfl) ⟨rfl, hW, FR.rf, rfl, (by simp only [fe_58, fe_59, fe_60, mz_41, true_and, and_true, or_true, true_or, false_or, or_false, false_and, and_false, not_true_eq_false, not_false_eq_true] <;> first | omega | (simp only [Int32.lt_iff_toInt_lt, Int32.le_iff_toInt_le, Int32.reduceToInt, ← Int32.toInt_inj, true_and, and_true, or_true, true_or, false_or, or_false, false_and, and_false, not_true_eq_false, not_false_eq_true] <;> omega)), (by simp only [fe_61, fe_62, fe_63, mz_41, mz_42, mz_43, true_and, and_true, or_true, true_or, false_or, or_false, false_and, and_false, not_true_eq_false, not_false_eq_true] <;> first | omega | (simp only [Int32.lt_iff_toInt_lt, Int32.le_iff_toInt_le, Int32.reduceToInt, ← Int32.toInt_inj, true_and, and_true, or_true, true_or, false_or, or_false, false_and, and_false, not_true_eq_false, not_false_eq_true] <;> omega)), (by simp only [fe_64, mz_44, true_and, and_true, or_true, true_or, false_or, or_false, false_and, and_false, not_true_eq_false, not_false_eq_true] <;> first | omega | (simp only [Int32.lt_iff_toInt_lt, Int32.le_iff_toInt_le, Int32.reduceToInt, ← Int32.toInt_inj, true_and, and_true, or_true, true_or, false_or, or_false, false_and, and_false, not_true_eq_false, not_false_eq_true] <;> omega)), (by simp only [fe_65, mz_45, true_and, and_true, or_true, true_or, false_or, or_false, false_and, and_false, not_true_eq_false, not_false_eq_true] <;> first | omega | (simp only [Int32.lt_iff_toInt_lt, Int32.le_iff_toInt_le, Int32.reduceToInt, ← Int32.toInt_inj, true_and, and_true, or_true, true_or, false_or, or_false, false_and, and_false, not_true_eq_false, not_false_eq_true] <;> omega))⟩
  · simp only [Int32.lt_iff_toInt_lt, Int32.le_iff_toInt_le, Int32.reduceToInt, ← Int32.toInt_inj] at h_57
    refine v_aload_n hC dX12_takes_10 rfl ?_
    refine v_vv hC (rest := []) m_1 e_22 rfl mi_X12_advance ms_X12_advance (p_X12_advance hW k_0) mx_X12_advance ml_X12_156 (by decide) rfl (cells1 := 0) (slots1 := 0) (by decide) (by decide) (Nat.le_of_ble_eq_true rfl) (Nat.le_of_ble_eq_true rfl) rfl (Nat.le_of_ble_eq_true rfl) dX12_takes_11 (fun L_67 f_68 h_69 => ?_)
    obtain ⟨rfl, hW_74, hF_75, x_70, x_71, x_72, x_73⟩ := h_69
    have fe_76 : fld (f a_0) 8 = (v_28 : Int32).toInt := by rw [e_22]; rfl
    have fe_77 : fld (f a_0) 12 = (v_35 : Int32).toInt := by rw [e_22]; rfl
    have fe_78 : fld (f a_0) 20 = (v_39 : Int32).toInt := by rw [e_22]; rfl
    obtain ⟨v_80, v_81, v_83, v_85, v_87, v_89, v_91, v_92, v_93, v_94, v_96, e_79, b_82, b_84, b_86, b_88, b_90, b_95, b_97⟩ := hW_74.at m_1 t_2
    have fe_98 : fld (f_68 a_0) 8 = (v_85 : Int32).toInt := by rw [e_79]; rfl
    have fe_99 : fld (f_68 a_0) 9 = (v_87 : Int32).toInt := by rw [e_79]; rfl
    have fe_100 : fld (f_68 a_0) 10 = (v_89 : Int32).toInt := by rw [e_79]; rfl
    have fe_101 : fld (f_68 a_0) 12 = (v_92 : Int32).toInt := by rw [e_79]; rfl
    have fe_102 : fld (f_68 a_0) 20 = (v_96 : Int32).toInt := by rw [e_79]; rfl
    rw [fe_76, fe_99, fe_98] at x_70
    rw [fe_100, fe_99, fe_98] at x_71
    rw [fe_101, fe_77] at x_72
    rw [fe_102, fe_78] at x_73
    clear fe_76 fe_77 fe_78 fe_98 fe_99 fe_100 fe_101 fe_102
    refine v_iload_n hC dX12_takes_14 rfl ?_
    have fe_103 : fld (f_68 a_0) 8 = (v_85 : Int32).toInt := by rw [e_79]; rfl
    have fe_104 : fld (f_68 a_0) 9 = (v_87 : Int32).toInt := by rw [e_79]; rfl
    have fe_105 : fld (f_68 a_0) 10 = (v_89 : Int32).toInt := by rw [e_79]; rfl
    have fe_106 : fld (f_68 a_0) 8 = (v_85 : Int32).toInt := by rw [e_79]; rfl
    have fe_107 : fld (f_68 a_0) 9 = (v_87 : Int32).toInt := by rw [e_79]; rfl
    have fe_108 : fld (f_68 a_0) 10 = (v_89 : Int32).toInt := by rw [e_79]; rfl
    have fe_109 : fld (f_68 a_0) 12 = (v_92 : Int32).toInt := by rw [e_79]; rfl
    have fe_110 : fld (f_68 a_0) 20 = (v_96 : Int32).toInt := by rw [e_79]; rfl
    exact hR _ _ _ _ _ _ _ dX12_takes_15 (nar01 (by first | omega | (simp only [Int32.lt_iff_toInt_lt, Int32.le_iff_toInt_le, Int32.reduceToInt, ← Int32.toInt_inj, true_and, and_true, or_true, true_or, false_or, or_false, false_and, and_false, not_true_eq_false, not_false_eq_true] <;> omega))) (Nat.le_of_ble_eq_true rfl) (Nat.le_of_ble_eq_true rfl) ⟨rfl, hW_74, (hF_75.mono rfl), rfl, (by simp only [fe_103, fe_104, fe_105, mz_41, true_and, and_true, or_true, true_or, false_or, or_false, false_and, and_false, not_true_eq_false, not_false_eq_true] <;> first | omega | (simp only [Int32.lt_iff_toInt_lt, Int32.le_iff_toInt_le, Int32.reduceToInt, ← Int32.toInt_inj, true_and, and_true, or_true, true_or, false_or, or_false, false_and, and_false, not_true_eq_false, not_false_eq_true] <;> omega)), (by simp only [fe_106, fe_107, fe_108, mz_41, mz_42, mz_43, true_and, and_true, or_true, true_or, false_or, or_false, false_and, and_false, not_true_eq_false, not_false_eq_true] <;> first | omega | (simp only [Int32.lt_iff_toInt_lt, Int32.le_iff_toInt_le, Int32.reduceToInt, ← Int32.toInt_inj, true_and, and_true, or_true, true_or, false_or, or_false, false_and, and_false, not_true_eq_false, not_false_eq_true] <;> omega)), (by simp only [fe_109, mz_44, true_and, and_true, or_true, true_or, false_or, or_false, false_and, and_false, not_true_eq_false, not_false_eq_true] <;> first | omega | (simp only [Int32.lt_iff_toInt_lt, Int32.le_iff_toInt_le, Int32.reduceToInt, ← Int32.toInt_inj, true_and, and_true, or_true, true_or, false_or, or_false, false_and, and_false, not_true_eq_false, not_false_eq_true] <;> omega)), (by simp only [fe_110, mz_45, true_and, and_true, or_true, true_or, false_or, or_false, false_and, and_false, not_true_eq_false, not_false_eq_true] <;> first | omega | (simp only [Int32.lt_iff_toInt_lt, Int32.le_iff_toInt_le, Int32.reduceToInt, ← Int32.toInt_inj, true_and, and_true, or_true, true_or, false_or, or_false, false_and, and_false, not_true_eq_false, not_false_eq_true] <;> omega))⟩
set_option maxRecDepth 100000 in
set_option maxHeartbeats 1500000 in
theorem p_X12_errs {l : Launch} {E : Ez} {L : List Nat} {f : Nat → va_E} {T : Nat → va_E → Prop} {a_0 : Nat} {a_1 : Int32} {q : Nat → Nat} (hW : WT T L f) (k_0 : isM T L E a_0 q) (g_1 : (1 ≤ a_1.toInt ∧ a_1.toInt ≤ 3)) : CV l yX12_errs cX12_errs 2 1 0 0 E [.ref a_0, .int a_1] L f (fun L1 f1 => L = L1 ∧ WT T L f1 ∧ FR [12] f f1 ∧ ¬ fld (f1 a_0) 12 = 0 ∧ fld (f1 a_0) 8 = fld (f a_0) 8 ∧ fld (f1 a_0) 9 = fld (f a_0) 9 ∧ fld (f1 a_0) 10 = fld (f a_0) 10 ∧ fld (f1 a_0) 20 = fld (f a_0) 20) := by
  refine cv_of (by decide) (Nat.le_of_ble_eq_true rfl) (fun z hz hnm hC hR => ?_)
  have hC : Cx z E cX12_errs RX12 2 1 0 0 := hC
  subst hz
  show V z E 2 0 0 L f 0 [(0, .ref a_0), (1, .int a_1)] []
  obtain ⟨m_1, t_2, nq_21, k_3, k_4, k_5, k_6, k_7, k_8, k_9, k_10, k_11, k_12, k_13, k_14, k_15, k_16, k_17, k_18, k_19, k_20⟩ := id k_0
  obtain ⟨v_23, v_24, v_26, v_28, v_30, v_32, v_34, v_35, v_36, v_37, v_39, e_22, b_25, b_27, b_29, b_31, b_33, b_38, b_40⟩ := hW.at m_1 t_2
  have mz_41 : fld (f a_0) 8 = v_28.toInt := by rw [e_22]; rfl
  have mz_42 : fld (f a_0) 9 = v_30.toInt := by rw [e_22]; rfl
  have mz_43 : fld (f a_0) 10 = v_32.toInt := by rw [e_22]; rfl
  have mz_44 : fld (f a_0) 20 = v_39.toInt := by rw [e_22]; rfl
  refine v_aload_n hC dX12_errs_0 rfl ?_
  refine v_vi hC (rest := []) m_1 e_22 rfl mi_X12_good ms_X12_good (p_X12_good hW k_0) mx_X12_good ml_X12_139 (by decide) rfl (cells1 := 0) (slots1 := 0) (by decide) (by decide) (Nat.le_of_ble_eq_true rfl) (Nat.le_of_ble_eq_true rfl) rfl (Nat.le_of_ble_eq_true rfl) dX12_errs_1 (fun r_45 L_46 f_47 h_48 => ?_)
  obtain ⟨rfl, rfl, b_49, x_50⟩ := h_48
  have fe_53 : fld (f a_0) 12 = (v_35 : Int32).toInt := by rw [e_22]; rfl
  rw [fe_53] at x_50
  clear fe_53
  try simp only [Int32.reduceToInt, Int64.reduceToInt] at x_50
  refine v_if_ne hC dX12_errs_4 (tgt := 8) (by decide) (fun h_54 => ?_) (fun h_54 => ?_)
  · simp only [Int32.lt_iff_toInt_lt, Int32.le_iff_toInt_le, Int32.reduceToInt, ← Int32.toInt_inj] at h_54
    refine v_aload_n hC dX12_errs_8 rfl ?_
    refine v_iload_n hC dX12_errs_9 rfl ?_
    refine v_put hC fl_X12_111 m_1 e_22 rfl rfl (Nat.le_of_ble_eq_true rfl) (fs' := [.int v_23, .ref (q 1), .ref (q 2), .ref (q 3), .ref (q 4), .int v_24, .ref (q 6), .int v_26, .int v_28, .int v_30, .int v_32, .int v_34, .int a_1, .int v_36, .ref (q 14), .ref (q 15), .ref (q 16), .int v_37, .ref (q 18), .ref (q 19), .int v_39, .ref (q 21), .ref (q 22), .ref (q 23), .ref (q 24), .ref (q 25), .ref (q 26), .ref (q 27), .ref (q 28)]) rfl dX12_errs_10 (fun f_55 hf_56 hk_57 => ?_)
    have hW_58 := hW.up hf_56 hk_57 t_2 ⟨v_23, v_24, v_26, v_28, v_30, v_32, v_34, a_1, v_36, v_37, v_39, rfl, (by first | omega | (simp only [Int32.lt_iff_toInt_lt, Int32.le_iff_toInt_le, Int32.reduceToInt, ← Int32.toInt_inj, true_and, and_true, or_true, true_or, false_or, or_false, false_and, and_false, not_true_eq_false, not_false_eq_true] <;> omega)), (by first | omega | (simp only [Int32.lt_iff_toInt_lt, Int32.le_iff_toInt_le, Int32.reduceToInt, ← Int32.toInt_inj, true_and, and_true, or_true, true_or, false_or, or_false, false_and, and_false, not_true_eq_false, not_false_eq_true] <;> omega)), (by first | omega | (simp only [Int32.lt_iff_toInt_lt, Int32.le_iff_toInt_le, Int32.reduceToInt, ← Int32.toInt_inj, true_and, and_true, or_true, true_or, false_or, or_false, false_and, and_false, not_true_eq_false, not_false_eq_true] <;> omega)), (by first | omega | (simp only [Int32.lt_iff_toInt_lt, Int32.le_iff_toInt_le, Int32.reduceToInt, ← Int32.toInt_inj, true_and, and_true, or_true, true_or, false_or, or_false, false_and, and_false, not_true_eq_false, not_false_eq_true] <;> omega)), (by first | omega | (simp only [Int32.lt_iff_toInt_lt, Int32.le_iff_toInt_le, Int32.reduceToInt, ← Int32.toInt_inj, true_and, and_true, or_true, true_or, false_or, or_false, false_and, and_false, not_true_eq_false, not_false_eq_true] <;> omega)), (by first | omega | (simp only [Int32.lt_iff_toInt_lt, Int32.le_iff_toInt_le, Int32.reduceToInt, ← Int32.toInt_inj, true_and, and_true, or_true, true_or, false_or, or_false, false_and, and_false, not_true_eq_false, not_false_eq_true] <;> omega)), (by first | omega | (simp only [Int32.lt_iff_toInt_lt, Int32.le_iff_toInt_le, Int32.reduceToInt, ← Int32.toInt_inj, true_and, and_true, or_true, true_or, false_or, or_false, false_and, and_false, not_true_eq_false, not_false_eq_true] <;> omega))⟩
    have fr_59 := FR.w hk_57 e_22 (k := 12) rfl
    refine v_aload_n hC dX12_errs_13 rfl ?_
    refine v_aload_n hC dX12_errs_14 rfl ?_
    refine v_get hC fl_X12_117 m_1 hf_56 rfl dX12_errs_15 ?_
    refine v_put hC fl_X12_31 m_1 hf_56 rfl rfl (Nat.le_of_ble_eq_true rfl) (fs' := [.int v_23, .ref (q 1), .ref (q 2), .ref (q 3), .ref (q 4), .int v_24, .ref (q 6), .int v_26, .int v_28, .int v_30, .int v_32, .int v_34, .int a_1, .int v_30, .ref (q 14), .ref (q 15), .ref (q 16), .int v_37, .ref (q 18), .ref (q 19), .int v_39, .ref (q 21), .ref (q 22), .ref (q 23), .ref (q 24), .ref (q 25), .ref (q 26), .ref (q 27), .ref (q 28)]) rfl dX12_errs_18 (fun f_60 hf_61 hk_62 => ?_)
    have hW_63 := hW_58.up hf_61 hk_62 t_2 ⟨v_23, v_24, v_26, v_28, v_30, v_32, v_34, a_1, v_30, v_37, v_39, rfl, (by first | omega | (simp only [Int32.lt_iff_toInt_lt, Int32.le_iff_toInt_le, Int32.reduceToInt, ← Int32.toInt_inj, true_and, and_true, or_true, true_or, false_or, or_false, false_and, and_false, not_true_eq_false, not_false_eq_true] <;> omega)), (by first | omega | (simp only [Int32.lt_iff_toInt_lt, Int32.le_iff_toInt_le, Int32.reduceToInt, ← Int32.toInt_inj, true_and, and_true, or_true, true_or, false_or, or_false, false_and, and_false, not_true_eq_false, not_false_eq_true] <;> omega)), (by first | omega | (simp only [Int32.lt_iff_toInt_lt, Int32.le_iff_toInt_le, Int32.reduceToInt, ← Int32.toInt_inj, true_and, and_true, or_true, true_or, false_or, or_false, false_and, and_false, not_true_eq_false, not_false_eq_true] <;> omega)), (by first | omega | (simp only [Int32.lt_iff_toInt_lt, Int32.le_iff_toInt_le, Int32.reduceToInt, ← Int32.toInt_inj, true_and, and_true, or_true, true_or, false_or, or_false, false_and, and_false, not_true_eq_false, not_false_eq_true] <;> omega)), (by first | omega | (simp only [Int32.lt_iff_toInt_lt, Int32.le_iff_toInt_le, Int32.reduceToInt, ← Int32.toInt_inj, true_and, and_true, or_true, true_or, false_or, or_false, false_and, and_false, not_true_eq_false, not_false_eq_true] <;> omega)), (by first | omega | (simp only [Int32.lt_iff_toInt_lt, Int32.le_iff_toInt_le, Int32.reduceToInt, ← Int32.toInt_inj, true_and, and_true, or_true, true_or, false_or, or_false, false_and, and_false, not_true_eq_false, not_false_eq_true] <;> omega)), (by first | omega | (simp only [Int32.lt_iff_toInt_lt, Int32.le_iff_toInt_le, Int32.reduceToInt, ← Int32.toInt_inj, true_and, and_true, or_true, true_or, false_or, or_false, false_and, and_false, not_true_eq_false, not_false_eq_true] <;> omega))⟩
    have fr_64 := FR.w hk_62 hf_56 (k := 12) rfl
    have fe_65 : fld (f_60 a_0) 12 = (a_1 : Int32).toInt := by rw [hf_61]; rfl
    have fe_66 : fld (f_60 a_0) 8 = (v_28 : Int32).toInt := by rw [hf_61]; rfl
    have fe_67 : fld (f_60 a_0) 9 = (v_30 : Int32).toInt := by rw [hf_61]; rfl
    have fe_68 : fld (f_60 a_0) 10 = (v_32 : Int32).toInt := by rw [hf_61]; rfl
    have fe_69 : fld (f_60 a_0) 20 = (v_39 : Int32).toInt := by rw [hf_61]; rfl
    exact hR _ _ _ _ _ _ dX12_errs_21 (Nat.le_of_ble_eq_true rfl) (Nat.le_of_ble_eq_true rfl) ⟨rfl, hW_63, ((fr_59.tr fr_64).mono rfl), (by simp only [fe_65, true_and, and_true, or_true, true_or, false_or, or_false, false_and, and_false, not_true_eq_false, not_false_eq_true] <;> first | omega | (simp only [Int32.lt_iff_toInt_lt, Int32.le_iff_toInt_le, Int32.reduceToInt, ← Int32.toInt_inj, true_and, and_true, or_true, true_or, false_or, or_false, false_and, and_false, not_true_eq_false, not_false_eq_true] <;> omega)), (by simp only [fe_66, mz_41, true_and, and_true, or_true, true_or, false_or, or_false, false_and, and_false, not_true_eq_false, not_false_eq_true] <;> first | omega | (simp only [Int32.lt_iff_toInt_lt, Int32.le_iff_toInt_le, Int32.reduceToInt, ← Int32.toInt_inj, true_and, and_true, or_true, true_or, false_or, or_false, false_and, and_false, not_true_eq_false, not_false_eq_true] <;> omega)), (by simp only [fe_67, mz_42, true_and, and_true, or_true, true_or, false_or, or_false, false_and, and_false, not_true_eq_false, not_false_eq_true] <;> first | omega | (simp only [Int32.lt_iff_toInt_lt, Int32.le_iff_toInt_le, Int32.reduceToInt, ← Int32.toInt_inj, true_and, and_true, or_true, true_or, false_or, or_false, false_and, and_false, not_true_eq_false, not_false_eq_true] <;> omega)), (by simp only [fe_68, mz_43, true_and, and_true, or_true, true_or, false_or, or_false, false_and, and_false, not_true_eq_false, not_false_eq_true] <;> first | omega | (simp only [Int32.lt_iff_toInt_lt, Int32.le_iff_toInt_le, Int32.reduceToInt, ← Int32.toInt_inj, true_and, and_true, or_true, true_or, false_or, or_false, false_and, and_false, not_true_eq_false, not_false_eq_true] <;> omega)), (by simp only [fe_69, mz_44, true_and, and_true, or_true, true_or, false_or, or_false, false_and, and_false, not_true_eq_false, not_false_eq_true] <;> first | omega | (simp only [Int32.lt_iff_toInt_lt, Int32.le_iff_toInt_le, Int32.reduceToInt, ← Int32.toInt_inj, true_and, and_true, or_true, true_or, false_or, or_false, false_and, and_false, not_true_eq_false, not_false_eq_true] <;> omega))⟩
  · simp only [Int32.lt_iff_toInt_lt, Int32.le_iff_toInt_le, Int32.reduceToInt, ← Int32.toInt_inj] at h_54
    have fe_70 : fld (f a_0) 12 = (v_35 : Int32).toInt := by rw [e_22]; rfl
    have fe_71 : fld (f a_0) 8 = (v_28 : Int32).toInt := by rw [e_22]; rfl
    have fe_72 : fld (f a_0) 9 = (v_30 : Int32).toInt := by rw [e_22]; rfl
    have fe_73 : fld (f a_0) 10 = (v_32 : Int32).toInt := by rw [e_22]; rfl
    have fe_74 : fld (f a_0) 20 = (v_39 : Int32).toInt := by rw [e_22]; rfl
    exact hR _ _ _ _ _ _ dX12_errs_7 (Nat.le_of_ble_eq_true rfl) (Nat.le_of_ble_eq_true rfl) ⟨rfl, hW, FR.rf, (by simp only [fe_70, true_and, and_true, or_true, true_or, false_or, or_false, false_and, and_false, not_true_eq_false, not_false_eq_true] <;> first | omega | (simp only [Int32.lt_iff_toInt_lt, Int32.le_iff_toInt_le, Int32.reduceToInt, ← Int32.toInt_inj, true_and, and_true, or_true, true_or, false_or, or_false, false_and, and_false, not_true_eq_false, not_false_eq_true] <;> omega)), (by simp only [fe_71, mz_41, true_and, and_true, or_true, true_or, false_or, or_false, false_and, and_false, not_true_eq_false, not_false_eq_true] <;> first | omega | (simp only [Int32.lt_iff_toInt_lt, Int32.le_iff_toInt_le, Int32.reduceToInt, ← Int32.toInt_inj, true_and, and_true, or_true, true_or, false_or, or_false, false_and, and_false, not_true_eq_false, not_false_eq_true] <;> omega)), (by simp only [fe_72, mz_42, true_and, and_true, or_true, true_or, false_or, or_false, false_and, and_false, not_true_eq_false, not_false_eq_true] <;> first | omega | (simp only [Int32.lt_iff_toInt_lt, Int32.le_iff_toInt_le, Int32.reduceToInt, ← Int32.toInt_inj, true_and, and_true, or_true, true_or, false_or, or_false, false_and, and_false, not_true_eq_false, not_false_eq_true] <;> omega)), (by simp only [fe_73, mz_43, true_and, and_true, or_true, true_or, false_or, or_false, false_and, and_false, not_true_eq_false, not_false_eq_true] <;> first | omega | (simp only [Int32.lt_iff_toInt_lt, Int32.le_iff_toInt_le, Int32.reduceToInt, ← Int32.toInt_inj, true_and, and_true, or_true, true_or, false_or, or_false, false_and, and_false, not_true_eq_false, not_false_eq_true] <;> omega)), (by simp only [fe_74, mz_44, true_and, and_true, or_true, true_or, false_or, or_false, false_and, and_false, not_true_eq_false, not_false_eq_true] <;> first | omega | (simp only [Int32.lt_iff_toInt_lt, Int32.le_iff_toInt_le, Int32.reduceToInt, ← Int32.toInt_inj, true_and, and_true, or_true, true_or, false_or, or_false, false_and, and_false, not_true_eq_false, not_false_eq_true] <;> omega))⟩
set_option maxRecDepth 100000 in
set_option maxHeartbeats 1500000 in
theorem p_X12_needs {l : Launch} {E : Ez} {L : List Nat} {f : Nat → va_E} {T : Nat → va_E → Prop} {a_0 : Nat} {a_1 : Nat} {q : Nat → Nat} (hW : WT T L f) (k_0 : isM T L E a_0 q) (ha_1 : a_1 < 77) : CV l yX12_needs cX12_needs 2 6 0 0 E [.ref a_0, .ref (eK E a_1)] L f (fun L1 f1 => L = L1 ∧ WT T L f1 ∧ FR [12] f f1 ∧ (¬ fld (f1 a_0) 12 = 0 ∨ ((iw (f a_0) (f (q 4)) a_1).toInt = 1 ∧ fld (f a_0) 8 ≤ fld (f1 a_0) 9 ∧ fld (f1 a_0) 9 ≤ fld (f1 a_0) 8)) ∧ (¬ fld (f1 a_0) 12 = 0 ∨ fld (f1 a_0) 10 = 0 ∨ fld (f1 a_0) 9 < fld (f1 a_0) 8) ∧ (¬ fld (f1 a_0) 12 = 0 ∨ fld (f a_0) 12 = 0) ∧ fld (f1 a_0) 20 = fld (f a_0) 20) := by
  refine cv_of (by decide) (Nat.le_of_ble_eq_true rfl) (fun z hz hnm hC hR => ?_)
  have hC : Cx z E cX12_needs RX12 2 6 0 0 := hC
  subst hz
  show V z E 2 0 0 L f 0 [(0, .ref a_0), (1, .ref (eK E a_1))] []
  obtain ⟨m_1, t_2, nq_21, k_3, k_4, k_5, k_6, k_7, k_8, k_9, k_10, k_11, k_12, k_13, k_14, k_15, k_16, k_17, k_18, k_19, k_20⟩ := id k_0
  obtain ⟨v_23, v_24, v_26, v_28, v_30, v_32, v_34, v_35, v_36, v_37, v_39, e_22, b_25, b_27, b_29, b_31, b_33, b_38, b_40⟩ := hW.at m_1 t_2
  have mz_41 : fld (f a_0) 8 = v_28.toInt := by rw [e_22]; rfl
  have mz_42 : fld (f a_0) 12 = v_35.toInt := by rw [e_22]; rfl
  have mz_43 : fld (f a_0) 20 = v_39.toInt := by rw [e_22]; rfl
  refine v_aload_n hC dX12_needs_0 rfl ?_
  refine v_aload_n hC dX12_needs_1 rfl ?_
  refine v_vi hC (rest := []) m_1 e_22 rfl mi_X12_takes ms_X12_takes (p_X12_takes hW k_0 ha_1) mx_X12_takes ml_X12_159 (by decide) rfl (cells1 := 0) (slots1 := 0) (by decide) (by decide) (Nat.le_of_ble_eq_true rfl) (Nat.le_of_ble_eq_true rfl) rfl (Nat.le_of_ble_eq_true rfl) dX12_needs_2 (fun r_44 L_45 f_46 h_47 => ?_)
  obtain ⟨rfl, hW_52, hF_53, rfl, x_48, x_49, x_50, x_51⟩ := h_47
  have fe_54 : fld (f a_0) 8 = (v_28 : Int32).toInt := by rw [e_22]; rfl
  have fe_55 : fld (f a_0) 9 = (v_30 : Int32).toInt := by rw [e_22]; rfl
  have fe_56 : fld (f a_0) 10 = (v_32 : Int32).toInt := by rw [e_22]; rfl
  have fe_57 : fld (f a_0) 12 = (v_35 : Int32).toInt := by rw [e_22]; rfl
  have fe_58 : fld (f a_0) 20 = (v_39 : Int32).toInt := by rw [e_22]; rfl
  have ib_59 := iw_b (f a_0) (f (q 4)) a_1
  rw [fe_57, fe_56, fe_54, fe_55] at ib_59
  obtain ⟨v_61, v_62, v_64, v_66, v_68, v_70, v_72, v_73, v_74, v_75, v_77, e_60, b_63, b_65, b_67, b_69, b_71, b_76, b_78⟩ := hW_52.at m_1 t_2
  have fe_79 : fld (f_46 a_0) 8 = (v_66 : Int32).toInt := by rw [e_60]; rfl
  have fe_80 : fld (f_46 a_0) 9 = (v_68 : Int32).toInt := by rw [e_60]; rfl
  have fe_81 : fld (f_46 a_0) 10 = (v_70 : Int32).toInt := by rw [e_60]; rfl
  have fe_82 : fld (f_46 a_0) 12 = (v_73 : Int32).toInt := by rw [e_60]; rfl
  have fe_83 : fld (f_46 a_0) 20 = (v_77 : Int32).toInt := by rw [e_60]; rfl
  rw [fe_54, fe_80, fe_79, fe_81] at x_48
  rw [fe_79, fe_54, fe_80, fe_55, fe_81, fe_56] at x_49
  rw [fe_82, fe_57] at x_50
  rw [fe_83, fe_58] at x_51
  clear fe_54 fe_55 fe_56 fe_57 fe_58 fe_79 fe_80 fe_81 fe_82 fe_83
  try simp only [Int32.reduceToInt, Int64.reduceToInt] at x_48
  try simp only [Int32.reduceToInt, Int64.reduceToInt] at x_49
  try simp only [Int32.reduceToInt, Int64.reduceToInt] at x_50
  try simp only [Int32.reduceToInt, Int64.reduceToInt] at x_51
  refine v_if_ne hC dX12_needs_5 (tgt := 13) (by decide) (fun h_84 => ?_) (fun h_84 => ?_)
  · simp only [Int32.lt_iff_toInt_lt, Int32.le_iff_toInt_le, Int32.reduceToInt, ← Int32.toInt_inj] at h_84
    have fe_85 : fld (f_46 a_0) 8 = (v_66 : Int32).toInt := by rw [e_60]; rfl
    have fe_86 : fld (f_46 a_0) 9 = (v_68 : Int32).toInt := by rw [e_60]; rfl
    have fe_87 : fld (f_46 a_0) 12 = (v_73 : Int32).toInt := by rw [e_60]; rfl
    have fe_88 : fld (f_46 a_0) 8 = (v_66 : Int32).toInt := by rw [e_60]; rfl
    have fe_89 : fld (f_46 a_0) 9 = (v_68 : Int32).toInt := by rw [e_60]; rfl
    have fe_90 : fld (f_46 a_0) 10 = (v_70 : Int32).toInt := by rw [e_60]; rfl
    have fe_91 : fld (f_46 a_0) 12 = (v_73 : Int32).toInt := by rw [e_60]; rfl
    have fe_92 : fld (f_46 a_0) 12 = (v_73 : Int32).toInt := by rw [e_60]; rfl
    have fe_93 : fld (f_46 a_0) 20 = (v_77 : Int32).toInt := by rw [e_60]; rfl
    exact hR _ _ _ _ _ _ dX12_needs_13 (Nat.le_of_ble_eq_true rfl) (Nat.le_of_ble_eq_true rfl) ⟨rfl, hW_52, (hF_53.mono rfl), (by simp only [fe_85, fe_86, fe_87, mz_41, true_and, and_true, or_true, true_or, false_or, or_false, false_and, and_false, not_true_eq_false, not_false_eq_true] <;> first | omega | (simp only [Int32.lt_iff_toInt_lt, Int32.le_iff_toInt_le, Int32.reduceToInt, ← Int32.toInt_inj, true_and, and_true, or_true, true_or, false_or, or_false, false_and, and_false, not_true_eq_false, not_false_eq_true] <;> omega)), (by simp only [fe_88, fe_89, fe_90, fe_91, true_and, and_true, or_true, true_or, false_or, or_false, false_and, and_false, not_true_eq_false, not_false_eq_true] <;> first | omega | (simp only [Int32.lt_iff_toInt_lt, Int32.le_iff_toInt_le, Int32.reduceToInt, ← Int32.toInt_inj, true_and, and_true, or_true, true_or, false_or, or_false, false_and, and_false, not_true_eq_false, not_false_eq_true] <;> omega)), (by simp only [fe_92, mz_42, true_and, and_true, or_true, true_or, false_or, or_false, false_and, and_false, not_true_eq_false, not_false_eq_true] <;> first | omega | (simp only [Int32.lt_iff_toInt_lt, Int32.le_iff_toInt_le, Int32.reduceToInt, ← Int32.toInt_inj, true_and, and_true, or_true, true_or, false_or, or_false, false_and, and_false, not_true_eq_false, not_false_eq_true] <;> omega)), (by simp only [fe_93, mz_43, true_and, and_true, or_true, true_or, false_or, or_false, false_and, and_false, not_true_eq_false, not_false_eq_true] <;> first | omega | (simp only [Int32.lt_iff_toInt_lt, Int32.le_iff_toInt_le, Int32.reduceToInt, ← Int32.toInt_inj, true_and, and_true, or_true, true_or, false_or, or_false, false_and, and_false, not_true_eq_false, not_false_eq_true] <;> omega))⟩
  · simp only [Int32.lt_iff_toInt_lt, Int32.le_iff_toInt_le, Int32.reduceToInt, ← Int32.toInt_inj] at h_84
    refine v_aload_n hC dX12_needs_8 rfl ?_
    refine v_iconst hC dX12_needs_9 (v := 1) (by decide) ?_
    refine v_vv hC (rest := []) m_1 e_60 rfl mi_X12_errs ms_X12_errs (p_X12_errs hW_52 k_0 (by decide)) mx_X12_errs ml_X12_162 (by decide) rfl (cells1 := 0) (slots1 := 0) (by decide) (by decide) (Nat.le_of_ble_eq_true rfl) (Nat.le_of_ble_eq_true rfl) rfl (Nat.le_of_ble_eq_true rfl) dX12_needs_10 (fun L_95 f_96 h_97 => ?_)
    obtain ⟨rfl, hW_103, hF_104, x_98, x_99, x_100, x_101, x_102⟩ := h_97
    have fe_105 : fld (f_46 a_0) 8 = (v_66 : Int32).toInt := by rw [e_60]; rfl
    have fe_106 : fld (f_46 a_0) 9 = (v_68 : Int32).toInt := by rw [e_60]; rfl
    have fe_107 : fld (f_46 a_0) 10 = (v_70 : Int32).toInt := by rw [e_60]; rfl
    have fe_108 : fld (f_46 a_0) 20 = (v_77 : Int32).toInt := by rw [e_60]; rfl
    obtain ⟨v_110, v_111, v_113, v_115, v_117, v_119, v_121, v_122, v_123, v_124, v_126, e_109, b_112, b_114, b_116, b_118, b_120, b_125, b_127⟩ := hW_103.at m_1 t_2
    have fe_128 : fld (f_96 a_0) 8 = (v_115 : Int32).toInt := by rw [e_109]; rfl
    have fe_129 : fld (f_96 a_0) 9 = (v_117 : Int32).toInt := by rw [e_109]; rfl
    have fe_130 : fld (f_96 a_0) 10 = (v_119 : Int32).toInt := by rw [e_109]; rfl
    have fe_131 : fld (f_96 a_0) 12 = (v_122 : Int32).toInt := by rw [e_109]; rfl
    have fe_132 : fld (f_96 a_0) 20 = (v_126 : Int32).toInt := by rw [e_109]; rfl
    rw [fe_131] at x_98
    rw [fe_128, fe_105] at x_99
    rw [fe_129, fe_106] at x_100
    rw [fe_130, fe_107] at x_101
    rw [fe_132, fe_108] at x_102
    clear fe_105 fe_106 fe_107 fe_108 fe_128 fe_129 fe_130 fe_131 fe_132
    have fe_133 : fld (f_96 a_0) 8 = (v_115 : Int32).toInt := by rw [e_109]; rfl
    have fe_134 : fld (f_96 a_0) 9 = (v_117 : Int32).toInt := by rw [e_109]; rfl
    have fe_135 : fld (f_96 a_0) 12 = (v_122 : Int32).toInt := by rw [e_109]; rfl
    have fe_136 : fld (f_96 a_0) 8 = (v_115 : Int32).toInt := by rw [e_109]; rfl
    have fe_137 : fld (f_96 a_0) 9 = (v_117 : Int32).toInt := by rw [e_109]; rfl
    have fe_138 : fld (f_96 a_0) 10 = (v_119 : Int32).toInt := by rw [e_109]; rfl
    have fe_139 : fld (f_96 a_0) 12 = (v_122 : Int32).toInt := by rw [e_109]; rfl
    have fe_140 : fld (f_96 a_0) 12 = (v_122 : Int32).toInt := by rw [e_109]; rfl
    have fe_141 : fld (f_96 a_0) 20 = (v_126 : Int32).toInt := by rw [e_109]; rfl
    exact hR _ _ _ _ _ _ dX12_needs_13 (Nat.le_of_ble_eq_true rfl) (Nat.le_of_ble_eq_true rfl) ⟨rfl, hW_103, ((hF_53.tr hF_104).mono rfl), (by simp only [fe_133, fe_134, fe_135, mz_41, true_and, and_true, or_true, true_or, false_or, or_false, false_and, and_false, not_true_eq_false, not_false_eq_true] <;> first | omega | (simp only [Int32.lt_iff_toInt_lt, Int32.le_iff_toInt_le, Int32.reduceToInt, ← Int32.toInt_inj, true_and, and_true, or_true, true_or, false_or, or_false, false_and, and_false, not_true_eq_false, not_false_eq_true] <;> omega)), (by simp only [fe_136, fe_137, fe_138, fe_139, true_and, and_true, or_true, true_or, false_or, or_false, false_and, and_false, not_true_eq_false, not_false_eq_true] <;> first | omega | (simp only [Int32.lt_iff_toInt_lt, Int32.le_iff_toInt_le, Int32.reduceToInt, ← Int32.toInt_inj, true_and, and_true, or_true, true_or, false_or, or_false, false_and, and_false, not_true_eq_false, not_false_eq_true] <;> omega)), (by simp only [fe_140, mz_42, true_and, and_true, or_true, true_or, false_or, or_false, false_and, and_false, not_true_eq_false, not_false_eq_true] <;> first | omega | (simp only [Int32.lt_iff_toInt_lt, Int32.le_iff_toInt_le, Int32.reduceToInt, ← Int32.toInt_inj, true_and, and_true, or_true, true_or, false_or, or_false, false_and, and_false, not_true_eq_false, not_false_eq_true] <;> omega)), (by simp only [fe_141, mz_43, true_and, and_true, or_true, true_or, false_or, or_false, false_and, and_false, not_true_eq_false, not_false_eq_true] <;> first | omega | (simp only [Int32.lt_iff_toInt_lt, Int32.le_iff_toInt_le, Int32.reduceToInt, ← Int32.toInt_inj, true_and, and_true, or_true, true_or, false_or, or_false, false_and, and_false, not_true_eq_false, not_false_eq_true] <;> omega))⟩
set_option maxRecDepth 100000 in
set_option maxHeartbeats 1500000 in
theorem p_X12_signOf {l : Launch} {E : Ez} {L : List Nat} {f : Nat → va_E} {T : Nat → va_E → Prop} {a_0 : Int32} (hW : WT T L f) : CI l yX12_signOf cX12_signOf 1 .int 0 0 0 E [.int a_0] L f (fun r L1 f1 => L = L1 ∧ f = f1 ∧ ((-1) ≤ r.toInt ∧ r.toInt ≤ 4) ∧ (¬ r.toInt = 0 ∨ (107 ≤ a_0.toInt ∧ a_0.toInt ≤ 107))) := by
  refine ci_of (by decide) (Nat.le_of_ble_eq_true rfl) (fun z hz hnm hC hR => ?_)
  have hC : Cx z E cX12_signOf RX12 1 0 0 0 := hC
  subst hz
  show V z E 1 0 0 L f 0 [(0, .int a_0)] []
  refine v_iload_n hC dX12_signOf_0 rfl ?_
  refine v_bipush hC dX12_signOf_1 (v := 107) (by decide) ?_
  refine v_icmp_ne hC dX12_signOf_3 (tgt := 10) (by decide) (fun h_1 => ?_) (fun h_1 => ?_)
  · simp only [Int32.lt_iff_toInt_lt, Int32.le_iff_toInt_le, Int32.reduceToInt, ← Int32.toInt_inj] at h_1
    refine v_iload_n hC dX12_signOf_10 rfl ?_
    refine v_bipush hC dX12_signOf_11 (v := 112) (by decide) ?_
    refine v_icmp_ne hC dX12_signOf_13 (tgt := 20) (by decide) (fun h_2 => ?_) (fun h_2 => ?_)
    · simp only [Int32.lt_iff_toInt_lt, Int32.le_iff_toInt_le, Int32.reduceToInt, ← Int32.toInt_inj] at h_2
      refine v_iload_n hC dX12_signOf_20 rfl ?_
      refine v_bipush hC dX12_signOf_21 (v := 102) (by decide) ?_
      refine v_icmp_ne hC dX12_signOf_23 (tgt := 30) (by decide) (fun h_3 => ?_) (fun h_3 => ?_)
      · simp only [Int32.lt_iff_toInt_lt, Int32.le_iff_toInt_le, Int32.reduceToInt, ← Int32.toInt_inj] at h_3
        refine v_iload_n hC dX12_signOf_30 rfl ?_
        refine v_bipush hC dX12_signOf_31 (v := 104) (by decide) ?_
        refine v_icmp_ne hC dX12_signOf_33 (tgt := 40) (by decide) (fun h_4 => ?_) (fun h_4 => ?_)
        · simp only [Int32.lt_iff_toInt_lt, Int32.le_iff_toInt_le, Int32.reduceToInt, ← Int32.toInt_inj] at h_4
          refine v_iload_n hC dX12_signOf_40 rfl ?_
          refine v_bipush hC dX12_signOf_41 (v := 109) (by decide) ?_
          refine v_icmp_ne hC dX12_signOf_43 (tgt := 50) (by decide) (fun h_5 => ?_) (fun h_5 => ?_)
          · simp only [Int32.lt_iff_toInt_lt, Int32.le_iff_toInt_le, Int32.reduceToInt, ← Int32.toInt_inj] at h_5
            refine v_iconst hC dX12_signOf_50 (v := (-1)) (by decide) ?_
            exact hR _ _ _ _ _ _ _ dX12_signOf_51 rfl (Nat.le_of_ble_eq_true rfl) (Nat.le_of_ble_eq_true rfl) ⟨rfl, rfl, (by decide), (.inl (by decide))⟩
          · simp only [Int32.lt_iff_toInt_lt, Int32.le_iff_toInt_le, Int32.reduceToInt, ← Int32.toInt_inj] at h_5
            refine v_iconst hC dX12_signOf_46 (v := 4) (by decide) ?_
            refine v_goto hC dX12_signOf_47 (tgt := 51) (by decide) ?_
            exact hR _ _ _ _ _ _ _ dX12_signOf_51 rfl (Nat.le_of_ble_eq_true rfl) (Nat.le_of_ble_eq_true rfl) ⟨rfl, rfl, (by decide), (.inl (by decide))⟩
        · simp only [Int32.lt_iff_toInt_lt, Int32.le_iff_toInt_le, Int32.reduceToInt, ← Int32.toInt_inj] at h_4
          refine v_iconst hC dX12_signOf_36 (v := 3) (by decide) ?_
          refine v_goto hC dX12_signOf_37 (tgt := 51) (by decide) ?_
          exact hR _ _ _ _ _ _ _ dX12_signOf_51 rfl (Nat.le_of_ble_eq_true rfl) (Nat.le_of_ble_eq_true rfl) ⟨rfl, rfl, (by decide), (.inl (by decide))⟩
      · simp only [Int32.lt_iff_toInt_lt, Int32.le_iff_toInt_le, Int32.reduceToInt, ← Int32.toInt_inj] at h_3
        refine v_iconst hC dX12_signOf_26 (v := 2) (by decide) ?_
        refine v_goto hC dX12_signOf_27 (tgt := 51) (by decide) ?_
        exact hR _ _ _ _ _ _ _ dX12_signOf_51 rfl (Nat.le_of_ble_eq_true rfl) (Nat.le_of_ble_eq_true rfl) ⟨rfl, rfl, (by decide), (.inl (by decide))⟩
    · simp only [Int32.lt_iff_toInt_lt, Int32.le_iff_toInt_le, Int32.reduceToInt, ← Int32.toInt_inj] at h_2
      refine v_iconst hC dX12_signOf_16 (v := 1) (by decide) ?_
      refine v_goto hC dX12_signOf_17 (tgt := 51) (by decide) ?_
      exact hR _ _ _ _ _ _ _ dX12_signOf_51 rfl (Nat.le_of_ble_eq_true rfl) (Nat.le_of_ble_eq_true rfl) ⟨rfl, rfl, (by decide), (.inl (by decide))⟩
  · simp only [Int32.lt_iff_toInt_lt, Int32.le_iff_toInt_le, Int32.reduceToInt, ← Int32.toInt_inj] at h_1
    refine v_iconst hC dX12_signOf_6 (v := 0) (by decide) ?_
    refine v_goto hC dX12_signOf_7 (tgt := 51) (by decide) ?_
    exact hR _ _ _ _ _ _ _ dX12_signOf_51 rfl (Nat.le_of_ble_eq_true rfl) (Nat.le_of_ble_eq_true rfl) ⟨rfl, rfl, (by decide), (.inr (by first | omega | (simp only [Int32.lt_iff_toInt_lt, Int32.le_iff_toInt_le, Int32.reduceToInt, ← Int32.toInt_inj, true_and, and_true, or_true, true_or, false_or, or_false, false_and, and_false, not_true_eq_false, not_false_eq_true] <;> omega)))⟩
set_option maxRecDepth 100000 in
set_option maxHeartbeats 1500000 in
theorem p_X12_ends {l : Launch} {E : Ez} {L : List Nat} {f : Nat → va_E} {T : Nat → va_E → Prop} {a_0 : Nat} {q : Nat → Nat} (hW : WT T L f) (k_0 : isM T L E a_0 q) : CV l yX12_ends cX12_ends 1 2 0 0 E [.ref a_0] L f (fun L1 f1 => L = L1 ∧ WT T L f1 ∧ FR [12] f f1 ∧ (¬ fld (f1 a_0) 12 = 0 ∨ fld (f a_0) 12 = 0) ∧ (¬ fld (f1 a_0) 12 = 0 ∨ (fld (f a_0) 10 = 3 ∧ fld (f a_0) 8 ≤ fld (f1 a_0) 9 ∧ fld (f1 a_0) 9 ≤ fld (f1 a_0) 8)) ∧ (¬ fld (f1 a_0) 12 = 0 ∨ fld (f1 a_0) 10 = 0 ∨ fld (f1 a_0) 9 < fld (f1 a_0) 8) ∧ fld (f1 a_0) 20 = fld (f a_0) 20) := by
  refine cv_of (by decide) (Nat.le_of_ble_eq_true rfl) (fun z hz hnm hC hR => ?_)
  have hC : Cx z E cX12_ends RX12 1 2 0 0 := hC
  subst hz
  show V z E 1 0 0 L f 0 [(0, .ref a_0)] []
  obtain ⟨m_1, t_2, nq_21, k_3, k_4, k_5, k_6, k_7, k_8, k_9, k_10, k_11, k_12, k_13, k_14, k_15, k_16, k_17, k_18, k_19, k_20⟩ := id k_0
  obtain ⟨v_23, v_24, v_26, v_28, v_30, v_32, v_34, v_35, v_36, v_37, v_39, e_22, b_25, b_27, b_29, b_31, b_33, b_38, b_40⟩ := hW.at m_1 t_2
  have mz_41 : fld (f a_0) 8 = v_28.toInt := by rw [e_22]; rfl
  have mz_42 : fld (f a_0) 10 = v_32.toInt := by rw [e_22]; rfl
  have mz_43 : fld (f a_0) 12 = v_35.toInt := by rw [e_22]; rfl
  have mz_44 : fld (f a_0) 20 = v_39.toInt := by rw [e_22]; rfl
  refine v_aload_n hC dX12_ends_0 rfl ?_
  refine v_vi hC (rest := []) m_1 e_22 rfl mi_X12_good ms_X12_good (p_X12_good hW k_0) mx_X12_good ml_X12_139 (by decide) rfl (cells1 := 0) (slots1 := 0) (by decide) (by decide) (Nat.le_of_ble_eq_true rfl) (Nat.le_of_ble_eq_true rfl) rfl (Nat.le_of_ble_eq_true rfl) dX12_ends_1 (fun r_45 L_46 f_47 h_48 => ?_)
  obtain ⟨rfl, rfl, b_49, x_50⟩ := h_48
  have fe_53 : fld (f a_0) 12 = (v_35 : Int32).toInt := by rw [e_22]; rfl
  rw [fe_53] at x_50
  clear fe_53
  try simp only [Int32.reduceToInt, Int64.reduceToInt] at x_50
  refine v_if_eq hC dX12_ends_4 (tgt := 20) (by decide) (fun h_54 => ?_) (fun h_54 => ?_)
  · simp only [Int32.lt_iff_toInt_lt, Int32.le_iff_toInt_le, Int32.reduceToInt, ← Int32.toInt_inj] at h_54
    refine v_aload_n hC dX12_ends_20 rfl ?_
    refine v_vi hC (rest := []) m_1 e_22 rfl mi_X12_good ms_X12_good (p_X12_good hW k_0) mx_X12_good ml_X12_139 (by decide) rfl (cells1 := 0) (slots1 := 0) (by decide) (by decide) (Nat.le_of_ble_eq_true rfl) (Nat.le_of_ble_eq_true rfl) rfl (Nat.le_of_ble_eq_true rfl) dX12_ends_21 (fun r_55 L_56 f_57 h_58 => ?_)
    obtain ⟨rfl, rfl, b_59, x_60⟩ := h_58
    have fe_63 : fld (f a_0) 12 = (v_35 : Int32).toInt := by rw [e_22]; rfl
    rw [fe_63] at x_60
    clear fe_63
    try simp only [Int32.reduceToInt, Int64.reduceToInt] at x_60
    refine v_if_eq hC dX12_ends_24 (tgt := 31) (by decide) (fun h_64 => ?_) (fun h_64 => ?_)
    · simp only [Int32.lt_iff_toInt_lt, Int32.le_iff_toInt_le, Int32.reduceToInt, ← Int32.toInt_inj] at h_64
      have fe_65 : fld (f a_0) 12 = (v_35 : Int32).toInt := by rw [e_22]; rfl
      have fe_66 : fld (f a_0) 8 = (v_28 : Int32).toInt := by rw [e_22]; rfl
      have fe_67 : fld (f a_0) 9 = (v_30 : Int32).toInt := by rw [e_22]; rfl
      have fe_68 : fld (f a_0) 12 = (v_35 : Int32).toInt := by rw [e_22]; rfl
      have fe_69 : fld (f a_0) 8 = (v_28 : Int32).toInt := by rw [e_22]; rfl
      have fe_70 : fld (f a_0) 9 = (v_30 : Int32).toInt := by rw [e_22]; rfl
      have fe_71 : fld (f a_0) 10 = (v_32 : Int32).toInt := by rw [e_22]; rfl
      have fe_72 : fld (f a_0) 12 = (v_35 : Int32).toInt := by rw [e_22]; rfl
      have fe_73 : fld (f a_0) 20 = (v_39 : Int32).toInt := by rw [e_22]; rfl
      exact hR _ _ _ _ _ _ dX12_ends_31 (Nat.le_of_ble_eq_true rfl) (Nat.le_of_ble_eq_true rfl) ⟨rfl, hW, FR.rf, (by simp only [fe_65, mz_43, true_and, and_true, or_true, true_or, false_or, or_false, false_and, and_false, not_true_eq_false, not_false_eq_true] <;> first | omega | (simp only [Int32.lt_iff_toInt_lt, Int32.le_iff_toInt_le, Int32.reduceToInt, ← Int32.toInt_inj, true_and, and_true, or_true, true_or, false_or, or_false, false_and, and_false, not_true_eq_false, not_false_eq_true] <;> omega)), (by simp only [fe_66, fe_67, fe_68, mz_41, mz_42, true_and, and_true, or_true, true_or, false_or, or_false, false_and, and_false, not_true_eq_false, not_false_eq_true] <;> first | omega | (simp only [Int32.lt_iff_toInt_lt, Int32.le_iff_toInt_le, Int32.reduceToInt, ← Int32.toInt_inj, true_and, and_true, or_true, true_or, false_or, or_false, false_and, and_false, not_true_eq_false, not_false_eq_true] <;> omega)), (by simp only [fe_69, fe_70, fe_71, fe_72, true_and, and_true, or_true, true_or, false_or, or_false, false_and, and_false, not_true_eq_false, not_false_eq_true] <;> first | omega | (simp only [Int32.lt_iff_toInt_lt, Int32.le_iff_toInt_le, Int32.reduceToInt, ← Int32.toInt_inj, true_and, and_true, or_true, true_or, false_or, or_false, false_and, and_false, not_true_eq_false, not_false_eq_true] <;> omega)), (by simp only [fe_73, mz_44, true_and, and_true, or_true, true_or, false_or, or_false, false_and, and_false, not_true_eq_false, not_false_eq_true] <;> first | omega | (simp only [Int32.lt_iff_toInt_lt, Int32.le_iff_toInt_le, Int32.reduceToInt, ← Int32.toInt_inj, true_and, and_true, or_true, true_or, false_or, or_false, false_and, and_false, not_true_eq_false, not_false_eq_true] <;> omega))⟩
    · simp only [Int32.lt_iff_toInt_lt, Int32.le_iff_toInt_le, Int32.reduceToInt, ← Int32.toInt_inj] at h_64
      refine v_aload_n hC dX12_ends_27 rfl ?_
      refine v_vv hC (rest := []) m_1 e_22 rfl mi_X12_advance ms_X12_advance (p_X12_advance hW k_0) mx_X12_advance ml_X12_156 (by decide) rfl (cells1 := 0) (slots1 := 0) (by decide) (by decide) (Nat.le_of_ble_eq_true rfl) (Nat.le_of_ble_eq_true rfl) rfl (Nat.le_of_ble_eq_true rfl) dX12_ends_28 (fun L_75 f_76 h_77 => ?_)
      obtain ⟨rfl, hW_82, hF_83, x_78, x_79, x_80, x_81⟩ := h_77
      have fe_84 : fld (f a_0) 8 = (v_28 : Int32).toInt := by rw [e_22]; rfl
      have fe_85 : fld (f a_0) 12 = (v_35 : Int32).toInt := by rw [e_22]; rfl
      have fe_86 : fld (f a_0) 20 = (v_39 : Int32).toInt := by rw [e_22]; rfl
      obtain ⟨v_88, v_89, v_91, v_93, v_95, v_97, v_99, v_100, v_101, v_102, v_104, e_87, b_90, b_92, b_94, b_96, b_98, b_103, b_105⟩ := hW_82.at m_1 t_2
      have fe_106 : fld (f_76 a_0) 8 = (v_93 : Int32).toInt := by rw [e_87]; rfl
      have fe_107 : fld (f_76 a_0) 9 = (v_95 : Int32).toInt := by rw [e_87]; rfl
      have fe_108 : fld (f_76 a_0) 10 = (v_97 : Int32).toInt := by rw [e_87]; rfl
      have fe_109 : fld (f_76 a_0) 12 = (v_100 : Int32).toInt := by rw [e_87]; rfl
      have fe_110 : fld (f_76 a_0) 20 = (v_104 : Int32).toInt := by rw [e_87]; rfl
      rw [fe_84, fe_107, fe_106] at x_78
      rw [fe_108, fe_107, fe_106] at x_79
      rw [fe_109, fe_85] at x_80
      rw [fe_110, fe_86] at x_81
      clear fe_84 fe_85 fe_86 fe_106 fe_107 fe_108 fe_109 fe_110
      have fe_111 : fld (f_76 a_0) 12 = (v_100 : Int32).toInt := by rw [e_87]; rfl
      have fe_112 : fld (f_76 a_0) 8 = (v_93 : Int32).toInt := by rw [e_87]; rfl
      have fe_113 : fld (f_76 a_0) 9 = (v_95 : Int32).toInt := by rw [e_87]; rfl
      have fe_114 : fld (f_76 a_0) 12 = (v_100 : Int32).toInt := by rw [e_87]; rfl
      have fe_115 : fld (f_76 a_0) 8 = (v_93 : Int32).toInt := by rw [e_87]; rfl
      have fe_116 : fld (f_76 a_0) 9 = (v_95 : Int32).toInt := by rw [e_87]; rfl
      have fe_117 : fld (f_76 a_0) 10 = (v_97 : Int32).toInt := by rw [e_87]; rfl
      have fe_118 : fld (f_76 a_0) 12 = (v_100 : Int32).toInt := by rw [e_87]; rfl
      have fe_119 : fld (f_76 a_0) 20 = (v_104 : Int32).toInt := by rw [e_87]; rfl
      exact hR _ _ _ _ _ _ dX12_ends_31 (Nat.le_of_ble_eq_true rfl) (Nat.le_of_ble_eq_true rfl) ⟨rfl, hW_82, (hF_83.mono rfl), (by simp only [fe_111, mz_43, true_and, and_true, or_true, true_or, false_or, or_false, false_and, and_false, not_true_eq_false, not_false_eq_true] <;> first | omega | (simp only [Int32.lt_iff_toInt_lt, Int32.le_iff_toInt_le, Int32.reduceToInt, ← Int32.toInt_inj, true_and, and_true, or_true, true_or, false_or, or_false, false_and, and_false, not_true_eq_false, not_false_eq_true] <;> omega)), (by simp only [fe_112, fe_113, fe_114, mz_41, mz_42, true_and, and_true, or_true, true_or, false_or, or_false, false_and, and_false, not_true_eq_false, not_false_eq_true] <;> first | omega | (simp only [Int32.lt_iff_toInt_lt, Int32.le_iff_toInt_le, Int32.reduceToInt, ← Int32.toInt_inj, true_and, and_true, or_true, true_or, false_or, or_false, false_and, and_false, not_true_eq_false, not_false_eq_true] <;> omega)), (by simp only [fe_115, fe_116, fe_117, fe_118, true_and, and_true, or_true, true_or, false_or, or_false, false_and, and_false, not_true_eq_false, not_false_eq_true] <;> first | omega | (simp only [Int32.lt_iff_toInt_lt, Int32.le_iff_toInt_le, Int32.reduceToInt, ← Int32.toInt_inj, true_and, and_true, or_true, true_or, false_or, or_false, false_and, and_false, not_true_eq_false, not_false_eq_true] <;> omega)), (by simp only [fe_119, mz_44, true_and, and_true, or_true, true_or, false_or, or_false, false_and, and_false, not_true_eq_false, not_false_eq_true] <;> first | omega | (simp only [Int32.lt_iff_toInt_lt, Int32.le_iff_toInt_le, Int32.reduceToInt, ← Int32.toInt_inj, true_and, and_true, or_true, true_or, false_or, or_false, false_and, and_false, not_true_eq_false, not_false_eq_true] <;> omega))⟩
  · simp only [Int32.lt_iff_toInt_lt, Int32.le_iff_toInt_le, Int32.reduceToInt, ← Int32.toInt_inj] at h_54
    refine v_aload_n hC dX12_ends_7 rfl ?_
    refine v_get hC fl_X12_120 m_1 e_22 rfl dX12_ends_8 ?_
    refine v_iconst hC dX12_ends_11 (v := 3) (by decide) ?_
    refine v_icmp_eq hC dX12_ends_12 (tgt := 20) (by decide) (fun h_120 => ?_) (fun h_120 => ?_)
    · simp only [Int32.lt_iff_toInt_lt, Int32.le_iff_toInt_le, Int32.reduceToInt, ← Int32.toInt_inj] at h_120
      refine v_aload_n hC dX12_ends_20 rfl ?_
      refine v_vi hC (rest := []) m_1 e_22 rfl mi_X12_good ms_X12_good (p_X12_good hW k_0) mx_X12_good ml_X12_139 (by decide) rfl (cells1 := 0) (slots1 := 0) (by decide) (by decide) (Nat.le_of_ble_eq_true rfl) (Nat.le_of_ble_eq_true rfl) rfl (Nat.le_of_ble_eq_true rfl) dX12_ends_21 (fun r_121 L_122 f_123 h_124 => ?_)
      obtain ⟨rfl, rfl, b_125, x_126⟩ := h_124
      have fe_129 : fld (f a_0) 12 = (v_35 : Int32).toInt := by rw [e_22]; rfl
      rw [fe_129] at x_126
      clear fe_129
      try simp only [Int32.reduceToInt, Int64.reduceToInt] at x_126
      refine v_if_eq hC dX12_ends_24 (tgt := 31) (by decide) (fun h_130 => ?_) (fun h_130 => ?_)
      · simp only [Int32.lt_iff_toInt_lt, Int32.le_iff_toInt_le, Int32.reduceToInt, ← Int32.toInt_inj] at h_130
        have fe_131 : fld (f a_0) 12 = (v_35 : Int32).toInt := by rw [e_22]; rfl
        have fe_132 : fld (f a_0) 8 = (v_28 : Int32).toInt := by rw [e_22]; rfl
        have fe_133 : fld (f a_0) 9 = (v_30 : Int32).toInt := by rw [e_22]; rfl
        have fe_134 : fld (f a_0) 12 = (v_35 : Int32).toInt := by rw [e_22]; rfl
        have fe_135 : fld (f a_0) 8 = (v_28 : Int32).toInt := by rw [e_22]; rfl
        have fe_136 : fld (f a_0) 9 = (v_30 : Int32).toInt := by rw [e_22]; rfl
        have fe_137 : fld (f a_0) 10 = (v_32 : Int32).toInt := by rw [e_22]; rfl
        have fe_138 : fld (f a_0) 12 = (v_35 : Int32).toInt := by rw [e_22]; rfl
        have fe_139 : fld (f a_0) 20 = (v_39 : Int32).toInt := by rw [e_22]; rfl
        exact hR _ _ _ _ _ _ dX12_ends_31 (Nat.le_of_ble_eq_true rfl) (Nat.le_of_ble_eq_true rfl) ⟨rfl, hW, FR.rf, (by simp only [fe_131, mz_43, true_and, and_true, or_true, true_or, false_or, or_false, false_and, and_false, not_true_eq_false, not_false_eq_true] <;> first | omega | (simp only [Int32.lt_iff_toInt_lt, Int32.le_iff_toInt_le, Int32.reduceToInt, ← Int32.toInt_inj, true_and, and_true, or_true, true_or, false_or, or_false, false_and, and_false, not_true_eq_false, not_false_eq_true] <;> omega)), (by simp only [fe_132, fe_133, fe_134, mz_41, mz_42, true_and, and_true, or_true, true_or, false_or, or_false, false_and, and_false, not_true_eq_false, not_false_eq_true] <;> first | omega | (simp only [Int32.lt_iff_toInt_lt, Int32.le_iff_toInt_le, Int32.reduceToInt, ← Int32.toInt_inj, true_and, and_true, or_true, true_or, false_or, or_false, false_and, and_false, not_true_eq_false, not_false_eq_true] <;> omega)), (by simp only [fe_135, fe_136, fe_137, fe_138, true_and, and_true, or_true, true_or, false_or, or_false, false_and, and_false, not_true_eq_false, not_false_eq_true] <;> first | omega | (simp only [Int32.lt_iff_toInt_lt, Int32.le_iff_toInt_le, Int32.reduceToInt, ← Int32.toInt_inj, true_and, and_true, or_true, true_or, false_or, or_false, false_and, and_false, not_true_eq_false, not_false_eq_true] <;> omega)), (by simp only [fe_139, mz_44, true_and, and_true, or_true, true_or, false_or, or_false, false_and, and_false, not_true_eq_false, not_false_eq_true] <;> first | omega | (simp only [Int32.lt_iff_toInt_lt, Int32.le_iff_toInt_le, Int32.reduceToInt, ← Int32.toInt_inj, true_and, and_true, or_true, true_or, false_or, or_false, false_and, and_false, not_true_eq_false, not_false_eq_true] <;> omega))⟩
      · simp only [Int32.lt_iff_toInt_lt, Int32.le_iff_toInt_le, Int32.reduceToInt, ← Int32.toInt_inj] at h_130
        refine v_aload_n hC dX12_ends_27 rfl ?_
        refine v_vv hC (rest := []) m_1 e_22 rfl mi_X12_advance ms_X12_advance (p_X12_advance hW k_0) mx_X12_advance ml_X12_156 (by decide) rfl (cells1 := 0) (slots1 := 0) (by decide) (by decide) (Nat.le_of_ble_eq_true rfl) (Nat.le_of_ble_eq_true rfl) rfl (Nat.le_of_ble_eq_true rfl) dX12_ends_28 (fun L_141 f_142 h_143 => ?_)
        obtain ⟨rfl, hW_148, hF_149, x_144, x_145, x_146, x_147⟩ := h_143
        have fe_150 : fld (f a_0) 8 = (v_28 : Int32).toInt := by rw [e_22]; rfl
        have fe_151 : fld (f a_0) 12 = (v_35 : Int32).toInt := by rw [e_22]; rfl
        have fe_152 : fld (f a_0) 20 = (v_39 : Int32).toInt := by rw [e_22]; rfl
        obtain ⟨v_154, v_155, v_157, v_159, v_161, v_163, v_165, v_166, v_167, v_168, v_170, e_153, b_156, b_158, b_160, b_162, b_164, b_169, b_171⟩ := hW_148.at m_1 t_2
        have fe_172 : fld (f_142 a_0) 8 = (v_159 : Int32).toInt := by rw [e_153]; rfl
        have fe_173 : fld (f_142 a_0) 9 = (v_161 : Int32).toInt := by rw [e_153]; rfl
        have fe_174 : fld (f_142 a_0) 10 = (v_163 : Int32).toInt := by rw [e_153]; rfl
        have fe_175 : fld (f_142 a_0) 12 = (v_166 : Int32).toInt := by rw [e_153]; rfl
        have fe_176 : fld (f_142 a_0) 20 = (v_170 : Int32).toInt := by rw [e_153]; rfl
        rw [fe_150, fe_173, fe_172] at x_144
        rw [fe_174, fe_173, fe_172] at x_145
        rw [fe_175, fe_151] at x_146
        rw [fe_176, fe_152] at x_147
        clear fe_150 fe_151 fe_152 fe_172 fe_173 fe_174 fe_175 fe_176
        have fe_177 : fld (f_142 a_0) 12 = (v_166 : Int32).toInt := by rw [e_153]; rfl
        have fe_178 : fld (f_142 a_0) 8 = (v_159 : Int32).toInt := by rw [e_153]; rfl
        have fe_179 : fld (f_142 a_0) 9 = (v_161 : Int32).toInt := by rw [e_153]; rfl
        have fe_180 : fld (f_142 a_0) 12 = (v_166 : Int32).toInt := by rw [e_153]; rfl
        have fe_181 : fld (f_142 a_0) 8 = (v_159 : Int32).toInt := by rw [e_153]; rfl
        have fe_182 : fld (f_142 a_0) 9 = (v_161 : Int32).toInt := by rw [e_153]; rfl
        have fe_183 : fld (f_142 a_0) 10 = (v_163 : Int32).toInt := by rw [e_153]; rfl
        have fe_184 : fld (f_142 a_0) 12 = (v_166 : Int32).toInt := by rw [e_153]; rfl
        have fe_185 : fld (f_142 a_0) 20 = (v_170 : Int32).toInt := by rw [e_153]; rfl
        exact hR _ _ _ _ _ _ dX12_ends_31 (Nat.le_of_ble_eq_true rfl) (Nat.le_of_ble_eq_true rfl) ⟨rfl, hW_148, (hF_149.mono rfl), (by simp only [fe_177, mz_43, true_and, and_true, or_true, true_or, false_or, or_false, false_and, and_false, not_true_eq_false, not_false_eq_true] <;> first | omega | (simp only [Int32.lt_iff_toInt_lt, Int32.le_iff_toInt_le, Int32.reduceToInt, ← Int32.toInt_inj, true_and, and_true, or_true, true_or, false_or, or_false, false_and, and_false, not_true_eq_false, not_false_eq_true] <;> omega)), (by simp only [fe_178, fe_179, fe_180, mz_41, mz_42, true_and, and_true, or_true, true_or, false_or, or_false, false_and, and_false, not_true_eq_false, not_false_eq_true] <;> first | omega | (simp only [Int32.lt_iff_toInt_lt, Int32.le_iff_toInt_le, Int32.reduceToInt, ← Int32.toInt_inj, true_and, and_true, or_true, true_or, false_or, or_false, false_and, and_false, not_true_eq_false, not_false_eq_true] <;> omega)), (by simp only [fe_181, fe_182, fe_183, fe_184, true_and, and_true, or_true, true_or, false_or, or_false, false_and, and_false, not_true_eq_false, not_false_eq_true] <;> first | omega | (simp only [Int32.lt_iff_toInt_lt, Int32.le_iff_toInt_le, Int32.reduceToInt, ← Int32.toInt_inj, true_and, and_true, or_true, true_or, false_or, or_false, false_and, and_false, not_true_eq_false, not_false_eq_true] <;> omega)), (by simp only [fe_185, mz_44, true_and, and_true, or_true, true_or, false_or, or_false, false_and, and_false, not_true_eq_false, not_false_eq_true] <;> first | omega | (simp only [Int32.lt_iff_toInt_lt, Int32.le_iff_toInt_le, Int32.reduceToInt, ← Int32.toInt_inj, true_and, and_true, or_true, true_or, false_or, or_false, false_and, and_false, not_true_eq_false, not_false_eq_true] <;> omega))⟩
    · simp only [Int32.lt_iff_toInt_lt, Int32.le_iff_toInt_le, Int32.reduceToInt, ← Int32.toInt_inj] at h_120
      refine v_aload_n hC dX12_ends_15 rfl ?_
      refine v_iconst hC dX12_ends_16 (v := 1) (by decide) ?_
      refine v_vv hC (rest := []) m_1 e_22 rfl mi_X12_errs ms_X12_errs (p_X12_errs hW k_0 (by decide)) mx_X12_errs ml_X12_162 (by decide) rfl (cells1 := 0) (slots1 := 0) (by decide) (by decide) (Nat.le_of_ble_eq_true rfl) (Nat.le_of_ble_eq_true rfl) rfl (Nat.le_of_ble_eq_true rfl) dX12_ends_17 (fun L_187 f_188 h_189 => ?_)
      obtain ⟨rfl, hW_195, hF_196, x_190, x_191, x_192, x_193, x_194⟩ := h_189
      have fe_197 : fld (f a_0) 8 = (v_28 : Int32).toInt := by rw [e_22]; rfl
      have fe_198 : fld (f a_0) 9 = (v_30 : Int32).toInt := by rw [e_22]; rfl
      have fe_199 : fld (f a_0) 10 = (v_32 : Int32).toInt := by rw [e_22]; rfl
      have fe_200 : fld (f a_0) 20 = (v_39 : Int32).toInt := by rw [e_22]; rfl
      obtain ⟨v_202, v_203, v_205, v_207, v_209, v_211, v_213, v_214, v_215, v_216, v_218, e_201, b_204, b_206, b_208, b_210, b_212, b_217, b_219⟩ := hW_195.at m_1 t_2
      have fe_220 : fld (f_188 a_0) 8 = (v_207 : Int32).toInt := by rw [e_201]; rfl
      have fe_221 : fld (f_188 a_0) 9 = (v_209 : Int32).toInt := by rw [e_201]; rfl
      have fe_222 : fld (f_188 a_0) 10 = (v_211 : Int32).toInt := by rw [e_201]; rfl
      have fe_223 : fld (f_188 a_0) 12 = (v_214 : Int32).toInt := by rw [e_201]; rfl
      have fe_224 : fld (f_188 a_0) 20 = (v_218 : Int32).toInt := by rw [e_201]; rfl
      rw [fe_223] at x_190
      rw [fe_220, fe_197] at x_191
      rw [fe_221, fe_198] at x_192
      rw [fe_222, fe_199] at x_193
      rw [fe_224, fe_200] at x_194
      clear fe_197 fe_198 fe_199 fe_200 fe_220 fe_221 fe_222 fe_223 fe_224
      refine v_aload_n hC dX12_ends_20 rfl ?_
      refine v_vi hC (rest := []) m_1 e_201 rfl mi_X12_good ms_X12_good (p_X12_good hW_195 k_0) mx_X12_good ml_X12_139 (by decide) rfl (cells1 := 0) (slots1 := 0) (by decide) (by decide) (Nat.le_of_ble_eq_true rfl) (Nat.le_of_ble_eq_true rfl) rfl (Nat.le_of_ble_eq_true rfl) dX12_ends_21 (fun r_225 L_226 f_227 h_228 => ?_)
      obtain ⟨rfl, rfl, b_229, x_230⟩ := h_228
      have fe_233 : fld (f_188 a_0) 12 = (v_214 : Int32).toInt := by rw [e_201]; rfl
      rw [fe_233] at x_230
      clear fe_233
      try simp only [Int32.reduceToInt, Int64.reduceToInt] at x_230
      refine v_if_eq hC dX12_ends_24 (tgt := 31) (by decide) (fun h_234 => ?_) (fun h_234 => ?_)
      · simp only [Int32.lt_iff_toInt_lt, Int32.le_iff_toInt_le, Int32.reduceToInt, ← Int32.toInt_inj] at h_234
        have fe_235 : fld (f_188 a_0) 12 = (v_214 : Int32).toInt := by rw [e_201]; rfl
        have fe_236 : fld (f_188 a_0) 8 = (v_207 : Int32).toInt := by rw [e_201]; rfl
        have fe_237 : fld (f_188 a_0) 9 = (v_209 : Int32).toInt := by rw [e_201]; rfl
        have fe_238 : fld (f_188 a_0) 12 = (v_214 : Int32).toInt := by rw [e_201]; rfl
        have fe_239 : fld (f_188 a_0) 8 = (v_207 : Int32).toInt := by rw [e_201]; rfl
        have fe_240 : fld (f_188 a_0) 9 = (v_209 : Int32).toInt := by rw [e_201]; rfl
        have fe_241 : fld (f_188 a_0) 10 = (v_211 : Int32).toInt := by rw [e_201]; rfl
        have fe_242 : fld (f_188 a_0) 12 = (v_214 : Int32).toInt := by rw [e_201]; rfl
        have fe_243 : fld (f_188 a_0) 20 = (v_218 : Int32).toInt := by rw [e_201]; rfl
        exact hR _ _ _ _ _ _ dX12_ends_31 (Nat.le_of_ble_eq_true rfl) (Nat.le_of_ble_eq_true rfl) ⟨rfl, hW_195, (hF_196.mono rfl), (by simp only [fe_235, mz_43, true_and, and_true, or_true, true_or, false_or, or_false, false_and, and_false, not_true_eq_false, not_false_eq_true] <;> first | omega | (simp only [Int32.lt_iff_toInt_lt, Int32.le_iff_toInt_le, Int32.reduceToInt, ← Int32.toInt_inj, true_and, and_true, or_true, true_or, false_or, or_false, false_and, and_false, not_true_eq_false, not_false_eq_true] <;> omega)), (by simp only [fe_236, fe_237, fe_238, mz_41, mz_42, true_and, and_true, or_true, true_or, false_or, or_false, false_and, and_false, not_true_eq_false, not_false_eq_true] <;> first | omega | (simp only [Int32.lt_iff_toInt_lt, Int32.le_iff_toInt_le, Int32.reduceToInt, ← Int32.toInt_inj, true_and, and_true, or_true, true_or, false_or, or_false, false_and, and_false, not_true_eq_false, not_false_eq_true] <;> omega)), (by simp only [fe_239, fe_240, fe_241, fe_242, true_and, and_true, or_true, true_or, false_or, or_false, false_and, and_false, not_true_eq_false, not_false_eq_true] <;> first | omega | (simp only [Int32.lt_iff_toInt_lt, Int32.le_iff_toInt_le, Int32.reduceToInt, ← Int32.toInt_inj, true_and, and_true, or_true, true_or, false_or, or_false, false_and, and_false, not_true_eq_false, not_false_eq_true] <;> omega)), (by simp only [fe_243, mz_44, true_and, and_true, or_true, true_or, false_or, or_false, false_and, and_false, not_true_eq_false, not_false_eq_true] <;> first | omega | (simp only [Int32.lt_iff_toInt_lt, Int32.le_iff_toInt_le, Int32.reduceToInt, ← Int32.toInt_inj, true_and, and_true, or_true, true_or, false_or, or_false, false_and, and_false, not_true_eq_false, not_false_eq_true] <;> omega))⟩
      · simp only [Int32.lt_iff_toInt_lt, Int32.le_iff_toInt_le, Int32.reduceToInt, ← Int32.toInt_inj] at h_234
        refine v_aload_n hC dX12_ends_27 rfl ?_
        refine v_vv hC (rest := []) m_1 e_201 rfl mi_X12_advance ms_X12_advance (p_X12_advance hW_195 k_0) mx_X12_advance ml_X12_156 (by decide) rfl (cells1 := 0) (slots1 := 0) (by decide) (by decide) (Nat.le_of_ble_eq_true rfl) (Nat.le_of_ble_eq_true rfl) rfl (Nat.le_of_ble_eq_true rfl) dX12_ends_28 (fun L_245 f_246 h_247 => ?_)
        obtain ⟨rfl, hW_252, hF_253, x_248, x_249, x_250, x_251⟩ := h_247
        have fe_254 : fld (f_188 a_0) 8 = (v_207 : Int32).toInt := by rw [e_201]; rfl
        have fe_255 : fld (f_188 a_0) 12 = (v_214 : Int32).toInt := by rw [e_201]; rfl
        have fe_256 : fld (f_188 a_0) 20 = (v_218 : Int32).toInt := by rw [e_201]; rfl
        obtain ⟨v_258, v_259, v_261, v_263, v_265, v_267, v_269, v_270, v_271, v_272, v_274, e_257, b_260, b_262, b_264, b_266, b_268, b_273, b_275⟩ := hW_252.at m_1 t_2
        have fe_276 : fld (f_246 a_0) 8 = (v_263 : Int32).toInt := by rw [e_257]; rfl
        have fe_277 : fld (f_246 a_0) 9 = (v_265 : Int32).toInt := by rw [e_257]; rfl
        have fe_278 : fld (f_246 a_0) 10 = (v_267 : Int32).toInt := by rw [e_257]; rfl
        have fe_279 : fld (f_246 a_0) 12 = (v_270 : Int32).toInt := by rw [e_257]; rfl
        have fe_280 : fld (f_246 a_0) 20 = (v_274 : Int32).toInt := by rw [e_257]; rfl
        rw [fe_254, fe_277, fe_276] at x_248
        rw [fe_278, fe_277, fe_276] at x_249
        rw [fe_279, fe_255] at x_250
        rw [fe_280, fe_256] at x_251
        clear fe_254 fe_255 fe_256 fe_276 fe_277 fe_278 fe_279 fe_280
        have fe_281 : fld (f_246 a_0) 12 = (v_270 : Int32).toInt := by rw [e_257]; rfl
        have fe_282 : fld (f_246 a_0) 8 = (v_263 : Int32).toInt := by rw [e_257]; rfl
        have fe_283 : fld (f_246 a_0) 9 = (v_265 : Int32).toInt := by rw [e_257]; rfl
        have fe_284 : fld (f_246 a_0) 12 = (v_270 : Int32).toInt := by rw [e_257]; rfl
        have fe_285 : fld (f_246 a_0) 8 = (v_263 : Int32).toInt := by rw [e_257]; rfl
        have fe_286 : fld (f_246 a_0) 9 = (v_265 : Int32).toInt := by rw [e_257]; rfl
        have fe_287 : fld (f_246 a_0) 10 = (v_267 : Int32).toInt := by rw [e_257]; rfl
        have fe_288 : fld (f_246 a_0) 12 = (v_270 : Int32).toInt := by rw [e_257]; rfl
        have fe_289 : fld (f_246 a_0) 20 = (v_274 : Int32).toInt := by rw [e_257]; rfl
        exact hR _ _ _ _ _ _ dX12_ends_31 (Nat.le_of_ble_eq_true rfl) (Nat.le_of_ble_eq_true rfl) ⟨rfl, hW_252, ((hF_196.tr hF_253).mono rfl), (by simp only [fe_281, mz_43, true_and, and_true, or_true, true_or, false_or, or_false, false_and, and_false, not_true_eq_false, not_false_eq_true] <;> first | omega | (simp only [Int32.lt_iff_toInt_lt, Int32.le_iff_toInt_le, Int32.reduceToInt, ← Int32.toInt_inj, true_and, and_true, or_true, true_or, false_or, or_false, false_and, and_false, not_true_eq_false, not_false_eq_true] <;> omega)), (by simp only [fe_282, fe_283, fe_284, mz_41, mz_42, true_and, and_true, or_true, true_or, false_or, or_false, false_and, and_false, not_true_eq_false, not_false_eq_true] <;> first | omega | (simp only [Int32.lt_iff_toInt_lt, Int32.le_iff_toInt_le, Int32.reduceToInt, ← Int32.toInt_inj, true_and, and_true, or_true, true_or, false_or, or_false, false_and, and_false, not_true_eq_false, not_false_eq_true] <;> omega)), (by simp only [fe_285, fe_286, fe_287, fe_288, true_and, and_true, or_true, true_or, false_or, or_false, false_and, and_false, not_true_eq_false, not_false_eq_true] <;> first | omega | (simp only [Int32.lt_iff_toInt_lt, Int32.le_iff_toInt_le, Int32.reduceToInt, ← Int32.toInt_inj, true_and, and_true, or_true, true_or, false_or, or_false, false_and, and_false, not_true_eq_false, not_false_eq_true] <;> omega)), (by simp only [fe_289, mz_44, true_and, and_true, or_true, true_or, false_or, or_false, false_and, and_false, not_true_eq_false, not_false_eq_true] <;> first | omega | (simp only [Int32.lt_iff_toInt_lt, Int32.le_iff_toInt_le, Int32.reduceToInt, ← Int32.toInt_inj, true_and, and_true, or_true, true_or, false_or, or_false, false_and, and_false, not_true_eq_false, not_false_eq_true] <;> omega))⟩
set_option maxRecDepth 100000 in
set_option maxHeartbeats 1500000 in
theorem p_X12_readRow {l : Launch} {E : Ez} {L : List Nat} {f : Nat → va_E} {T : Nat → va_E → Prop} {a_0 : Nat} {q : Nat → Nat} {g_f : Nat → Int32} (hW : WT T L f) (k_0 : isM T L E a_0 q) (e_f : f (q 14) = aI E 2076 g_f) (o_f : FOK g_f) (hPR : PR g_f) : CV l yX12_readRow cX12_readRow 5 7 0 0 E [.ref a_0] L f (fun L1 f1 => L = L1 ∧ WT T L f1 ∧ FR [12, 2176] f f1 ∧ (∃ g9 : Nat → Int32, f1 (q 14) = aI E 2076 g9 ∧ FOK g9 ∧ PR g9 ∧ g9 0 = g_f 0 ∧ g9 1 = g_f 1 ∧ (¬ fld (f1 a_0) 12 = 0 ∨ 1 ≤ (g9 2).toInt)) ∧ (¬ fld (f1 a_0) 12 = 0 ∨ (fld (f a_0) 12 = 0 ∧ fld (f a_0) 8 < fld (f1 a_0) 8)) ∧ fld (f1 a_0) 20 = fld (f a_0) 20) := by
  refine cv_of (by decide) (Nat.le_of_ble_eq_true rfl) (fun z hz hnm hC hR => ?_)
  have hC : Cx z E cX12_readRow RX12 5 7 0 0 := hC
  subst hz
  show V z E 5 0 0 L f 0 [(0, .ref a_0)] []
  obtain ⟨m_1, t_2, nq_21, k_3, k_4, k_5, k_6, k_7, k_8, k_9, k_10, k_11, k_12, k_13, k_14, k_15, k_16, k_17, k_18, k_19, k_20⟩ := id k_0
  obtain ⟨m_22, t_23⟩ := id k_8
  obtain ⟨v_25, v_26, v_28, v_30, v_32, v_34, v_36, v_37, v_38, v_39, v_41, e_24, b_27, b_29, b_31, b_33, b_35, b_40, b_42⟩ := hW.at m_1 t_2
  have mz_43 : fld (f a_0) 8 = v_30.toInt := by rw [e_24]; rfl
  have mz_44 : fld (f a_0) 12 = v_37.toInt := by rw [e_24]; rfl
  have mz_45 : fld (f a_0) 20 = v_41.toInt := by rw [e_24]; rfl
  have pr_1 := hPR.1
  refine v_aload_n hC dX12_readRow_0 rfl ?_
  refine v_ldcS hC sr_X12_173 dX12_readRow_1 ?_
  refine v_vi hC (rest := []) m_1 e_24 rfl mi_X12_is ms_X12_is (p_X12_is hW k_0 (by decide)) mx_X12_is ml_X12_152 (by decide) rfl (cells1 := 0) (slots1 := 0) (by decide) (by decide) (Nat.le_of_ble_eq_true rfl) (Nat.le_of_ble_eq_true rfl) rfl (Nat.le_of_ble_eq_true rfl) dX12_readRow_3 (fun r_46 L_47 f_48 h_49 => ?_)
  obtain ⟨rfl, rfl, rfl⟩ := h_49
  have fe_52 : fld (f a_0) 8 = (v_30 : Int32).toInt := by rw [e_24]; rfl
  have fe_53 : fld (f a_0) 9 = (v_32 : Int32).toInt := by rw [e_24]; rfl
  have fe_54 : fld (f a_0) 10 = (v_34 : Int32).toInt := by rw [e_24]; rfl
  have fe_55 : fld (f a_0) 12 = (v_37 : Int32).toInt := by rw [e_24]; rfl
  have ib_56 := iw_b (f a_0) (f (q 4)) 42
  have ln_57 : ((bytStr.getD 42 []).length : Int) = 3 := by rfl
  rw [fe_55, fe_54, fe_52, fe_53] at ib_56
  clear fe_52 fe_53 fe_54 fe_55
  refine v_if_eq hC dX12_readRow_6 (tgt := 25) (by decide) (fun h_58 => ?_) (fun h_58 => ?_)
  · simp only [Int32.lt_iff_toInt_lt, Int32.le_iff_toInt_le, Int32.reduceToInt, ← Int32.toInt_inj] at h_58
    refine v_aload_n hC dX12_readRow_25 rfl ?_
    refine v_ldcS hC sr_X12_173 dX12_readRow_26 ?_
    refine v_vv hC (rest := []) m_1 e_24 rfl mi_X12_needs ms_X12_needs (p_X12_needs hW k_0 (by decide)) mx_X12_needs ml_X12_166 (by decide) rfl (cells1 := 0) (slots1 := 0) (by decide) (by decide) (Nat.le_of_ble_eq_true rfl) (Nat.le_of_ble_eq_true rfl) rfl (Nat.le_of_ble_eq_true rfl) dX12_readRow_28 (fun L_60 f_61 h_62 => ?_)
    obtain ⟨rfl, hW_67, hF_68, x_63, x_64, x_65, x_66⟩ := h_62
    have fe_69 : fld (f a_0) 8 = (v_30 : Int32).toInt := by rw [e_24]; rfl
    have fe_70 : fld (f a_0) 9 = (v_32 : Int32).toInt := by rw [e_24]; rfl
    have fe_71 : fld (f a_0) 10 = (v_34 : Int32).toInt := by rw [e_24]; rfl
    have fe_72 : fld (f a_0) 12 = (v_37 : Int32).toInt := by rw [e_24]; rfl
    have fe_73 : fld (f a_0) 20 = (v_41 : Int32).toInt := by rw [e_24]; rfl
    have ib_74 := iw_b (f a_0) (f (q 4)) 42
    rw [fe_72, fe_71, fe_69, fe_70] at ib_74
    have hf_75 := hF_68.at e_f rfl
    obtain ⟨v_77, v_78, v_80, v_82, v_84, v_86, v_88, v_89, v_90, v_91, v_93, e_76, b_79, b_81, b_83, b_85, b_87, b_92, b_94⟩ := hW_67.at m_1 t_2
    have fe_95 : fld (f_61 a_0) 8 = (v_82 : Int32).toInt := by rw [e_76]; rfl
    have fe_96 : fld (f_61 a_0) 9 = (v_84 : Int32).toInt := by rw [e_76]; rfl
    have fe_97 : fld (f_61 a_0) 10 = (v_86 : Int32).toInt := by rw [e_76]; rfl
    have fe_98 : fld (f_61 a_0) 12 = (v_89 : Int32).toInt := by rw [e_76]; rfl
    have fe_99 : fld (f_61 a_0) 20 = (v_93 : Int32).toInt := by rw [e_76]; rfl
    rw [fe_98, fe_69, fe_96, fe_95] at x_63
    rw [fe_98, fe_97, fe_96, fe_95] at x_64
    rw [fe_98, fe_72] at x_65
    rw [fe_99, fe_73] at x_66
    clear fe_69 fe_70 fe_71 fe_72 fe_73 fe_95 fe_96 fe_97 fe_98 fe_99
    refine v_aload_n hC dX12_readRow_31 rfl ?_
    refine v_get hC fl_X12_108 m_1 e_76 rfl dX12_readRow_32 ?_
    refine v_aload_n hC dX12_readRow_35 rfl ?_
    refine v_get hC fl_X12_117 m_1 e_76 rfl dX12_readRow_36 ?_
    obtain ⟨v_100, h_101⟩ : ∃ v9 : Int32, v_82 - v_84 = v9 := ⟨_, rfl⟩
    refine v_isub hC dX12_readRow_39 h_101 ?_
    have h_102 := sub_v h_101 (by first | omega | (simp only [Int32.lt_iff_toInt_lt, Int32.le_iff_toInt_le, Int32.reduceToInt, ← Int32.toInt_inj, true_and, and_true, or_true, true_or, false_or, or_false, false_and, and_false, not_true_eq_false, not_false_eq_true] <;> omega)) (by first | omega | (simp only [Int32.lt_iff_toInt_lt, Int32.le_iff_toInt_le, Int32.reduceToInt, ← Int32.toInt_inj, true_and, and_true, or_true, true_or, false_or, or_false, false_and, and_false, not_true_eq_false, not_false_eq_true] <;> omega))
    refine v_istore_n hC dX12_readRow_40 (by decide) (lv' := [(1, .int v_100), (0, .ref a_0)]) rfl ?_
    refine v_aload_n hC dX12_readRow_41 rfl ?_
    refine v_get hC fl_X12_120 m_1 e_76 rfl dX12_readRow_42 ?_
    refine v_iconst hC dX12_readRow_45 (v := 1) (by decide) ?_
    have jn_105 : ∀ (v_106 : Int32) (b_107 : (0 ≤ v_106.toInt ∧ v_106.toInt ≤ 1)) (jv_108 : ((v_106 : Int32).toInt = 0 ∨ (v_100.toInt ≤ 12 ∧ fld (f_61 a_0) 10 = 1))), V z E 5 0 0 L f_61 60 [(1, .int v_100), (0, .ref a_0)] [.int v_106] := by
      intro v_106 b_107 jv_108
      have fe_109 : fld (f_61 a_0) 10 = (v_86 : Int32).toInt := by rw [e_76]; rfl
      rw [fe_109] at jv_108
      refine v_istore_n hC dX12_readRow_60 (by decide) (lv' := [(2, .int v_106), (1, .int v_100), (0, .ref a_0)]) rfl ?_
      refine v_bipush hC dX12_readRow_61 (v := 16) (by decide) ?_
      refine v_bipush hC dX12_readRow_63 (v := 13) (by decide) ?_
      refine v_aload_n hC dX12_readRow_65 rfl ?_
      refine v_get hC fl_X12_34 m_1 e_76 rfl dX12_readRow_66 ?_
      refine v_iconst hC dX12_readRow_69 (v := 2) (by decide) ?_
      refine v_iald hC m_22 hf_75 (vp_in_iff.mpr (by decide)) (v := g_f 2) rfl dX12_readRow_70 ?_
      obtain ⟨v_110, h_111⟩ : ∃ v9 : Int32, (13 : Int32) * (g_f 2) = v9 := ⟨_, rfl⟩
      refine v_imul hC dX12_readRow_71 h_111 ?_
      have h_112 := mul_v 13 8 104 h_111 (by decide) (by first | omega | (simp only [Int32.lt_iff_toInt_lt, Int32.le_iff_toInt_le, Int32.reduceToInt, ← Int32.toInt_inj, true_and, and_true, or_true, true_or, false_or, or_false, false_and, and_false, not_true_eq_false, not_false_eq_true] <;> omega)) (by decide) (by decide)
      try simp only [Int32.reduceToInt] at h_112
      obtain ⟨v_113, h_114⟩ : ∃ v9 : Int32, (16 : Int32) + v_110 = v9 := ⟨_, rfl⟩
      refine v_iadd hC dX12_readRow_72 h_114 ?_
      have h_115 := add_v h_114 (by first | omega | (simp only [Int32.lt_iff_toInt_lt, Int32.le_iff_toInt_le, Int32.reduceToInt, ← Int32.toInt_inj, true_and, and_true, or_true, true_or, false_or, or_false, false_and, and_false, not_true_eq_false, not_false_eq_true] <;> omega)) (by first | omega | (simp only [Int32.lt_iff_toInt_lt, Int32.le_iff_toInt_le, Int32.reduceToInt, ← Int32.toInt_inj, true_and, and_true, or_true, true_or, false_or, or_false, false_and, and_false, not_true_eq_false, not_false_eq_true] <;> omega))
      try simp only [Int32.reduceToInt] at h_115
      refine v_istore_n hC dX12_readRow_73 (by decide) (lv' := [(3, .int v_113), (2, .int v_106), (1, .int v_100), (0, .ref a_0)]) rfl ?_
      refine v_iconst hC dX12_readRow_74 (v := 0) (by decide) ?_
      refine v_istore hC dX12_readRow_75 (by decide) (lv' := [(4, .int 0), (3, .int v_113), (2, .int v_106), (1, .int v_100), (0, .ref a_0)]) rfl ?_
      have lp_2101 : ∀ (n_2102 : Nat) (f_2093 : Nat → va_E) (hW_2094 : WT T L f_2093) (hF_2095 : FR [2176] f_61 f_2093) (i_2091 : Int32) (b_2097 : (0 ≤ i_2091.toInt ∧ i_2091.toInt ≤ 600)) (i_2092 : Int32) (b_2098 : (0 ≤ i_2092.toInt ∧ i_2092.toInt ≤ 1)) (nv_2100 : (i_2092.toInt = 0 ∨ (v_100.toInt ≤ 12 ∧ fld (f_2093 a_0) 10 = 1))) (cv_2099 : ∃ g9 : Nat → Int32, (f_2093 (q 14)) = aI E 2076 g9 ∧ RR g_f g9) (hm_2104 : 600 - i_2091.toInt < (n_2102 : Int)), V z E 5 0 0 L f_2093 77 [(4, .int i_2091), (3, .int v_113), (2, .int i_2092), (1, .int v_100), (0, .ref a_0)] [] := by
        intro n_2102
        induction n_2102 with
        | zero =>
          intro f_2093 hW_2094 hF_2095 i_2091 b_2097 i_2092 b_2098 nv_2100 cv_2099 hm_2104
          have hf_2096 := hF_2095.at e_76 rfl
          have fe_2105 : fld (f_2093 a_0) 10 = (v_86 : Int32).toInt := by rw [hf_2096]; rfl
          rw [fe_2105] at nv_2100
          obtain ⟨g_2106, e_2107, rr_2108⟩ := cv_2099
          exfalso; omega
        | succ n_2102 ih_2103 =>
          intro f_2093 hW_2094 hF_2095 i_2091 b_2097 i_2092 b_2098 nv_2100 cv_2099 hm_2104
          have hf_2096 := hF_2095.at e_76 rfl
          have fe_2105 : fld (f_2093 a_0) 10 = (v_86 : Int32).toInt := by rw [hf_2096]; rfl
          rw [fe_2105] at nv_2100
          obtain ⟨g_2106, e_2107, rr_2108⟩ := cv_2099
          refine v_iload hC dX12_readRow_77 rfl ?_
          refine v_iload_n hC dX12_readRow_79 rfl ?_
          have jn_2208 : V z E 5 0 0 L f_2093 151 [(3, .int v_113), (2, .int i_2092), (1, .int v_100), (0, .ref a_0)] [] := by
            refine v_iload_n hC dX12_readRow_151 rfl ?_
            refine v_if_ne hC dX12_readRow_152 (tgt := 160) (by decide) (fun h_2209 => ?_) (fun h_2209 => ?_)
            · simp only [Int32.lt_iff_toInt_lt, Int32.le_iff_toInt_le, Int32.reduceToInt, ← Int32.toInt_inj] at h_2209
              refine v_aload_n hC dX12_readRow_160 rfl ?_
              refine v_vi hC (rest := []) m_1 hf_2096 rfl mi_X12_good ms_X12_good (p_X12_good hW_2094 k_0) mx_X12_good ml_X12_139 (by decide) rfl (cells1 := 0) (slots1 := 0) (by decide) (by decide) (Nat.le_of_ble_eq_true rfl) (Nat.le_of_ble_eq_true rfl) rfl (Nat.le_of_ble_eq_true rfl) dX12_readRow_161 (fun r_2210 L_2211 f_2212 h_2213 => ?_)
              obtain ⟨rfl, rfl, b_2214, x_2215⟩ := h_2213
              have fe_2218 : fld (f_2093 a_0) 12 = (v_89 : Int32).toInt := by rw [hf_2096]; rfl
              rw [fe_2218] at x_2215
              clear fe_2218
              try simp only [Int32.reduceToInt, Int64.reduceToInt] at x_2215
              refine v_if_ne hC dX12_readRow_164 (tgt := 168) (by decide) (fun h_2219 => ?_) (fun h_2219 => ?_)
              · simp only [Int32.lt_iff_toInt_lt, Int32.le_iff_toInt_le, Int32.reduceToInt, ← Int32.toInt_inj] at h_2219
                refine v_aload_n hC dX12_readRow_168 rfl ?_
                refine v_get hC fl_X12_34 m_1 hf_2096 rfl dX12_readRow_169 ?_
                refine v_iload_n hC dX12_readRow_172 rfl ?_
                refine v_iload_n hC dX12_readRow_173 rfl ?_
                refine v_iast hC m_22 e_2107 (vp_in_iff.mpr (by first | omega | (simp only [Int32.lt_iff_toInt_lt, Int32.le_iff_toInt_le, Int32.reduceToInt, ← Int32.toInt_inj, true_and, and_true, or_true, true_or, false_or, or_false, false_and, and_false, not_true_eq_false, not_false_eq_true] <;> omega))) dX12_readRow_174 (fun f_2220 hf_2221 hk_2222 => ?_)
                have hW_2224 := hW_2094.up hf_2221 hk_2222 t_23 ⟨_, rfl, (rr_2108.1.up (by first | omega | (simp only [Int32.lt_iff_toInt_lt, Int32.le_iff_toInt_le, Int32.reduceToInt, ← Int32.toInt_inj, true_and, and_true, or_true, true_or, false_or, or_false, false_and, and_false, not_true_eq_false, not_false_eq_true] <;> omega)) (fun q1 q2 => (by first | omega | (simp only [Int32.lt_iff_toInt_lt, Int32.le_iff_toInt_le, Int32.reduceToInt, ← Int32.toInt_inj] at *; omega))) (fun k9 q1 q2 q3 => (by first | omega | (simp only [Int32.lt_iff_toInt_lt, Int32.le_iff_toInt_le, Int32.reduceToInt, ← Int32.toInt_inj] at *; omega))))⟩
                obtain ⟨g_2223, hf_2221, ok_2225, eg_2226⟩ : ∃ g9, f_2220 (q 14) = aI E 2076 g9 ∧ FOK g9 ∧ g9 = upd g_2106 (v_113 : Int32).toNatClampNeg v_100 := ⟨_, hf_2221, (rr_2108.1.up (by first | omega | (simp only [Int32.lt_iff_toInt_lt, Int32.le_iff_toInt_le, Int32.reduceToInt, ← Int32.toInt_inj, true_and, and_true, or_true, true_or, false_or, or_false, false_and, and_false, not_true_eq_false, not_false_eq_true] <;> omega)) (fun q1 q2 => (by first | omega | (simp only [Int32.lt_iff_toInt_lt, Int32.le_iff_toInt_le, Int32.reduceToInt, ← Int32.toInt_inj] at *; omega))) (fun k9 q1 q2 q3 => (by first | omega | (simp only [Int32.lt_iff_toInt_lt, Int32.le_iff_toInt_le, Int32.reduceToInt, ← Int32.toInt_inj] at *; omega)))), rfl⟩
                have hf_2227 := (hk_2222 a_0 (ne_kd hf_2096 e_2107 rfl)).trans hf_2096
                have fr_2228 := FR.w hk_2222 e_2107 (k := 2176) rfl
                have g2_2229 : (g_2223 2).toInt = (g_f 2).toInt := by rw [← rr_2108.2.2.2.2, eg_2226]; unfold upd; rw [if_neg (by rw [clamp_t]; omega)]
                refine v_aload_n hC dX12_readRow_175 rfl ?_
                refine v_get hC fl_X12_34 m_1 hf_2227 rfl dX12_readRow_176 ?_
                refine v_iconst hC dX12_readRow_179 (v := 2) (by decide) ?_
                refine v_dup2 hC dX12_readRow_180 rfl rfl ?_
                refine v_iald hC m_22 hf_2221 (vp_in_iff.mpr (by decide)) (v := g_2223 2) rfl dX12_readRow_181 ?_
                refine v_iconst hC dX12_readRow_182 (v := 1) (by decide) ?_
                obtain ⟨v_2230, h_2231⟩ : ∃ v9 : Int32, (g_2223 2) + 1 = v9 := ⟨_, rfl⟩
                refine v_iadd hC dX12_readRow_183 h_2231 ?_
                refine v_iast hC m_22 hf_2221 (vp_in_iff.mpr (by decide)) dX12_readRow_184 (fun f_2233 hf_2234 hk_2235 => ?_)
                have hW_2237 := hW_2224.up hf_2234 hk_2235 t_23 ⟨_, rfl, (ok_2225.up (i := 2) (by decide) (fun q1 q2 => absurd (And.intro q1 q2) (by decide)) (fun k9 q1 q2 q3 => by simp only [Int32.reduceToInt] at q3; omega))⟩
                obtain ⟨g_2236, hf_2234, ok_2238, eg_2239⟩ : ∃ g9, f_2233 (q 14) = aI E 2076 g9 ∧ FOK g9 ∧ g9 = upd g_2223 (2 : Int32).toNatClampNeg v_2230 := ⟨_, hf_2234, (ok_2225.up (i := 2) (by decide) (fun q1 q2 => absurd (And.intro q1 q2) (by decide)) (fun k9 q1 q2 q3 => by simp only [Int32.reduceToInt] at q3; omega)), rfl⟩
                have hf_2240 := (hk_2235 a_0 (ne_kd hf_2227 hf_2221 rfl)).trans hf_2227
                have fr_2241 := FR.w hk_2235 hf_2221 (k := 2176) rfl
                have rf_2242 := rr_2108.fin eg_2226 eg_2239 (by omega) (by omega) (by omega) (by omega)
                have rf_2242_t := rf_2242.2.2.2.2
                refine v_aload_n hC dX12_readRow_185 rfl ?_
                refine v_vv hC (rest := []) m_1 hf_2240 rfl mi_X12_advance ms_X12_advance (p_X12_advance hW_2237 k_0) mx_X12_advance ml_X12_156 (by decide) rfl (cells1 := 0) (slots1 := 0) (by decide) (by decide) (Nat.le_of_ble_eq_true rfl) (Nat.le_of_ble_eq_true rfl) rfl (Nat.le_of_ble_eq_true rfl) dX12_readRow_186 (fun L_2244 f_2245 h_2246 => ?_)
                obtain ⟨rfl, hW_2251, hF_2252, x_2247, x_2248, x_2249, x_2250⟩ := h_2246
                have fe_2253 : fld (f_2233 a_0) 8 = (v_82 : Int32).toInt := by rw [hf_2240]; rfl
                have fe_2254 : fld (f_2233 a_0) 12 = (v_89 : Int32).toInt := by rw [hf_2240]; rfl
                have fe_2255 : fld (f_2233 a_0) 20 = (v_93 : Int32).toInt := by rw [hf_2240]; rfl
                have hf_2256 := hF_2252.at hf_2234 rfl
                obtain ⟨v_2258, v_2259, v_2261, v_2263, v_2265, v_2267, v_2269, v_2270, v_2271, v_2272, v_2274, e_2257, b_2260, b_2262, b_2264, b_2266, b_2268, b_2273, b_2275⟩ := hW_2251.at m_1 t_2
                have fe_2276 : fld (f_2245 a_0) 8 = (v_2263 : Int32).toInt := by rw [e_2257]; rfl
                have fe_2277 : fld (f_2245 a_0) 9 = (v_2265 : Int32).toInt := by rw [e_2257]; rfl
                have fe_2278 : fld (f_2245 a_0) 10 = (v_2267 : Int32).toInt := by rw [e_2257]; rfl
                have fe_2279 : fld (f_2245 a_0) 12 = (v_2270 : Int32).toInt := by rw [e_2257]; rfl
                have fe_2280 : fld (f_2245 a_0) 20 = (v_2274 : Int32).toInt := by rw [e_2257]; rfl
                rw [fe_2253, fe_2277, fe_2276] at x_2247
                rw [fe_2278, fe_2277, fe_2276] at x_2248
                rw [fe_2279, fe_2254] at x_2249
                rw [fe_2280, fe_2255] at x_2250
                clear fe_2253 fe_2254 fe_2255 fe_2276 fe_2277 fe_2278 fe_2279 fe_2280
                refine v_aload_n hC dX12_readRow_189 rfl ?_
                refine v_vv hC (rest := []) m_1 e_2257 rfl mi_X12_ends ms_X12_ends (p_X12_ends hW_2251 k_0) mx_X12_ends ml_X12_178 (by decide) rfl (cells1 := 0) (slots1 := 0) (by decide) (by decide) (Nat.le_of_ble_eq_true rfl) (Nat.le_of_ble_eq_true rfl) rfl (Nat.le_of_ble_eq_true rfl) dX12_readRow_190 (fun L_2282 f_2283 h_2284 => ?_)
                obtain ⟨rfl, hW_2289, hF_2290, x_2285, x_2286, x_2287, x_2288⟩ := h_2284
                have fe_2291 : fld (f_2245 a_0) 8 = (v_2263 : Int32).toInt := by rw [e_2257]; rfl
                have fe_2292 : fld (f_2245 a_0) 10 = (v_2267 : Int32).toInt := by rw [e_2257]; rfl
                have fe_2293 : fld (f_2245 a_0) 12 = (v_2270 : Int32).toInt := by rw [e_2257]; rfl
                have fe_2294 : fld (f_2245 a_0) 20 = (v_2274 : Int32).toInt := by rw [e_2257]; rfl
                have hf_2295 := hF_2290.at hf_2256 rfl
                obtain ⟨v_2297, v_2298, v_2300, v_2302, v_2304, v_2306, v_2308, v_2309, v_2310, v_2311, v_2313, e_2296, b_2299, b_2301, b_2303, b_2305, b_2307, b_2312, b_2314⟩ := hW_2289.at m_1 t_2
                have fe_2315 : fld (f_2283 a_0) 8 = (v_2302 : Int32).toInt := by rw [e_2296]; rfl
                have fe_2316 : fld (f_2283 a_0) 9 = (v_2304 : Int32).toInt := by rw [e_2296]; rfl
                have fe_2317 : fld (f_2283 a_0) 10 = (v_2306 : Int32).toInt := by rw [e_2296]; rfl
                have fe_2318 : fld (f_2283 a_0) 12 = (v_2309 : Int32).toInt := by rw [e_2296]; rfl
                have fe_2319 : fld (f_2283 a_0) 20 = (v_2313 : Int32).toInt := by rw [e_2296]; rfl
                rw [fe_2318, fe_2293] at x_2285
                rw [fe_2318, fe_2292, fe_2291, fe_2316, fe_2315] at x_2286
                rw [fe_2318, fe_2317, fe_2316, fe_2315] at x_2287
                rw [fe_2319, fe_2294] at x_2288
                clear fe_2291 fe_2292 fe_2293 fe_2294 fe_2315 fe_2316 fe_2317 fe_2318 fe_2319
                have fe_2320 : fld (f_2283 a_0) 12 = (v_2309 : Int32).toInt := by rw [e_2296]; rfl
                have fe_2321 : fld (f_2283 a_0) 8 = (v_2302 : Int32).toInt := by rw [e_2296]; rfl
                have fe_2322 : fld (f_2283 a_0) 12 = (v_2309 : Int32).toInt := by rw [e_2296]; rfl
                have fe_2323 : fld (f_2283 a_0) 20 = (v_2313 : Int32).toInt := by rw [e_2296]; rfl
                exact hR _ _ _ _ _ _ dX12_readRow_193 (Nat.le_of_ble_eq_true rfl) (Nat.le_of_ble_eq_true rfl) ⟨rfl, hW_2289, ((((((hF_68.tr hF_2095).tr fr_2228).tr fr_2241).tr hF_2252).tr hF_2290).mono rfl), ⟨_, hf_2295, rf_2242.1, rf_2242.2.1, rf_2242.2.2.1, rf_2242.2.2.2.1, (by rw [fe_2320]; first | (left; omega) | (right; omega) | omega)⟩, (by simp only [fe_2321, fe_2322, mz_43, mz_44, true_and, and_true, or_true, true_or, false_or, or_false, false_and, and_false, not_true_eq_false, not_false_eq_true] <;> first | omega | (simp only [Int32.lt_iff_toInt_lt, Int32.le_iff_toInt_le, Int32.reduceToInt, ← Int32.toInt_inj, true_and, and_true, or_true, true_or, false_or, or_false, false_and, and_false, not_true_eq_false, not_false_eq_true] <;> omega)), (by simp only [fe_2323, mz_45, true_and, and_true, or_true, true_or, false_or, or_false, false_and, and_false, not_true_eq_false, not_false_eq_true] <;> first | omega | (simp only [Int32.lt_iff_toInt_lt, Int32.le_iff_toInt_le, Int32.reduceToInt, ← Int32.toInt_inj, true_and, and_true, or_true, true_or, false_or, or_false, false_and, and_false, not_true_eq_false, not_false_eq_true] <;> omega))⟩
              · simp only [Int32.lt_iff_toInt_lt, Int32.le_iff_toInt_le, Int32.reduceToInt, ← Int32.toInt_inj] at h_2219
                have fe_2324 : fld (f_2093 a_0) 12 = (v_89 : Int32).toInt := by rw [hf_2096]; rfl
                have fe_2325 : fld (f_2093 a_0) 8 = (v_82 : Int32).toInt := by rw [hf_2096]; rfl
                have fe_2326 : fld (f_2093 a_0) 12 = (v_89 : Int32).toInt := by rw [hf_2096]; rfl
                have fe_2327 : fld (f_2093 a_0) 20 = (v_93 : Int32).toInt := by rw [hf_2096]; rfl
                exact hR _ _ _ _ _ _ dX12_readRow_167 (Nat.le_of_ble_eq_true rfl) (Nat.le_of_ble_eq_true rfl) ⟨rfl, hW_2094, ((hF_68.tr hF_2095).mono rfl), ⟨_, e_2107, rr_2108.1, rr_2108.2.1, rr_2108.2.2.1, rr_2108.2.2.2.1, (by rw [fe_2324]; first | (left; omega) | (right; omega) | omega)⟩, (by simp only [fe_2325, fe_2326, mz_43, mz_44, true_and, and_true, or_true, true_or, false_or, or_false, false_and, and_false, not_true_eq_false, not_false_eq_true] <;> first | omega | (simp only [Int32.lt_iff_toInt_lt, Int32.le_iff_toInt_le, Int32.reduceToInt, ← Int32.toInt_inj, true_and, and_true, or_true, true_or, false_or, or_false, false_and, and_false, not_true_eq_false, not_false_eq_true] <;> omega)), (by simp only [fe_2327, mz_45, true_and, and_true, or_true, true_or, false_or, or_false, false_and, and_false, not_true_eq_false, not_false_eq_true] <;> first | omega | (simp only [Int32.lt_iff_toInt_lt, Int32.le_iff_toInt_le, Int32.reduceToInt, ← Int32.toInt_inj, true_and, and_true, or_true, true_or, false_or, or_false, false_and, and_false, not_true_eq_false, not_false_eq_true] <;> omega))⟩
            · simp only [Int32.lt_iff_toInt_lt, Int32.le_iff_toInt_le, Int32.reduceToInt, ← Int32.toInt_inj] at h_2209
              refine v_aload_n hC dX12_readRow_155 rfl ?_
              refine v_iconst hC dX12_readRow_156 (v := 1) (by decide) ?_
              refine v_vv hC (rest := []) m_1 hf_2096 rfl mi_X12_errs ms_X12_errs (p_X12_errs hW_2094 k_0 (by decide)) mx_X12_errs ml_X12_162 (by decide) rfl (cells1 := 0) (slots1 := 0) (by decide) (by decide) (Nat.le_of_ble_eq_true rfl) (Nat.le_of_ble_eq_true rfl) rfl (Nat.le_of_ble_eq_true rfl) dX12_readRow_157 (fun L_2329 f_2330 h_2331 => ?_)
              obtain ⟨rfl, hW_2337, hF_2338, x_2332, x_2333, x_2334, x_2335, x_2336⟩ := h_2331
              have fe_2339 : fld (f_2093 a_0) 8 = (v_82 : Int32).toInt := by rw [hf_2096]; rfl
              have fe_2340 : fld (f_2093 a_0) 9 = (v_84 : Int32).toInt := by rw [hf_2096]; rfl
              have fe_2341 : fld (f_2093 a_0) 10 = (v_86 : Int32).toInt := by rw [hf_2096]; rfl
              have fe_2342 : fld (f_2093 a_0) 20 = (v_93 : Int32).toInt := by rw [hf_2096]; rfl
              have hf_2343 := hF_2338.at e_2107 rfl
              obtain ⟨v_2345, v_2346, v_2348, v_2350, v_2352, v_2354, v_2356, v_2357, v_2358, v_2359, v_2361, e_2344, b_2347, b_2349, b_2351, b_2353, b_2355, b_2360, b_2362⟩ := hW_2337.at m_1 t_2
              have fe_2363 : fld (f_2330 a_0) 8 = (v_2350 : Int32).toInt := by rw [e_2344]; rfl
              have fe_2364 : fld (f_2330 a_0) 9 = (v_2352 : Int32).toInt := by rw [e_2344]; rfl
              have fe_2365 : fld (f_2330 a_0) 10 = (v_2354 : Int32).toInt := by rw [e_2344]; rfl
              have fe_2366 : fld (f_2330 a_0) 12 = (v_2357 : Int32).toInt := by rw [e_2344]; rfl
              have fe_2367 : fld (f_2330 a_0) 20 = (v_2361 : Int32).toInt := by rw [e_2344]; rfl
              rw [fe_2366] at x_2332
              rw [fe_2363, fe_2339] at x_2333
              rw [fe_2364, fe_2340] at x_2334
              rw [fe_2365, fe_2341] at x_2335
              rw [fe_2367, fe_2342] at x_2336
              clear fe_2339 fe_2340 fe_2341 fe_2342 fe_2363 fe_2364 fe_2365 fe_2366 fe_2367
              refine v_aload_n hC dX12_readRow_160 rfl ?_
              refine v_vi hC (rest := []) m_1 e_2344 rfl mi_X12_good ms_X12_good (p_X12_good hW_2337 k_0) mx_X12_good ml_X12_139 (by decide) rfl (cells1 := 0) (slots1 := 0) (by decide) (by decide) (Nat.le_of_ble_eq_true rfl) (Nat.le_of_ble_eq_true rfl) rfl (Nat.le_of_ble_eq_true rfl) dX12_readRow_161 (fun r_2368 L_2369 f_2370 h_2371 => ?_)
              obtain ⟨rfl, rfl, b_2372, x_2373⟩ := h_2371
              have fe_2376 : fld (f_2330 a_0) 12 = (v_2357 : Int32).toInt := by rw [e_2344]; rfl
              rw [fe_2376] at x_2373
              clear fe_2376
              try simp only [Int32.reduceToInt, Int64.reduceToInt] at x_2373
              refine v_if_ne hC dX12_readRow_164 (tgt := 168) (by decide) (fun h_2377 => ?_) (fun h_2377 => ?_)
              · simp only [Int32.lt_iff_toInt_lt, Int32.le_iff_toInt_le, Int32.reduceToInt, ← Int32.toInt_inj] at h_2377
                refine v_aload_n hC dX12_readRow_168 rfl ?_
                refine v_get hC fl_X12_34 m_1 e_2344 rfl dX12_readRow_169 ?_
                refine v_iload_n hC dX12_readRow_172 rfl ?_
                refine v_iload_n hC dX12_readRow_173 rfl ?_
                refine v_iast hC m_22 hf_2343 (vp_in_iff.mpr (by first | omega | (simp only [Int32.lt_iff_toInt_lt, Int32.le_iff_toInt_le, Int32.reduceToInt, ← Int32.toInt_inj, true_and, and_true, or_true, true_or, false_or, or_false, false_and, and_false, not_true_eq_false, not_false_eq_true] <;> omega))) dX12_readRow_174 (fun f_2378 hf_2379 hk_2380 => ?_)
                have hW_2382 := hW_2337.up hf_2379 hk_2380 t_23 ⟨_, rfl, (rr_2108.1.up (by first | omega | (simp only [Int32.lt_iff_toInt_lt, Int32.le_iff_toInt_le, Int32.reduceToInt, ← Int32.toInt_inj, true_and, and_true, or_true, true_or, false_or, or_false, false_and, and_false, not_true_eq_false, not_false_eq_true] <;> omega)) (fun q1 q2 => (by first | omega | (simp only [Int32.lt_iff_toInt_lt, Int32.le_iff_toInt_le, Int32.reduceToInt, ← Int32.toInt_inj] at *; omega))) (fun k9 q1 q2 q3 => (by first | omega | (simp only [Int32.lt_iff_toInt_lt, Int32.le_iff_toInt_le, Int32.reduceToInt, ← Int32.toInt_inj] at *; omega))))⟩
                obtain ⟨g_2381, hf_2379, ok_2383, eg_2384⟩ : ∃ g9, f_2378 (q 14) = aI E 2076 g9 ∧ FOK g9 ∧ g9 = upd g_2106 (v_113 : Int32).toNatClampNeg v_100 := ⟨_, hf_2379, (rr_2108.1.up (by first | omega | (simp only [Int32.lt_iff_toInt_lt, Int32.le_iff_toInt_le, Int32.reduceToInt, ← Int32.toInt_inj, true_and, and_true, or_true, true_or, false_or, or_false, false_and, and_false, not_true_eq_false, not_false_eq_true] <;> omega)) (fun q1 q2 => (by first | omega | (simp only [Int32.lt_iff_toInt_lt, Int32.le_iff_toInt_le, Int32.reduceToInt, ← Int32.toInt_inj] at *; omega))) (fun k9 q1 q2 q3 => (by first | omega | (simp only [Int32.lt_iff_toInt_lt, Int32.le_iff_toInt_le, Int32.reduceToInt, ← Int32.toInt_inj] at *; omega)))), rfl⟩
                have hf_2385 := (hk_2380 a_0 (ne_kd e_2344 hf_2343 rfl)).trans e_2344
                have fr_2386 := FR.w hk_2380 hf_2343 (k := 2176) rfl
                have g2_2387 : (g_2381 2).toInt = (g_f 2).toInt := by rw [← rr_2108.2.2.2.2, eg_2384]; unfold upd; rw [if_neg (by rw [clamp_t]; omega)]
                refine v_aload_n hC dX12_readRow_175 rfl ?_
                refine v_get hC fl_X12_34 m_1 hf_2385 rfl dX12_readRow_176 ?_
                refine v_iconst hC dX12_readRow_179 (v := 2) (by decide) ?_
                refine v_dup2 hC dX12_readRow_180 rfl rfl ?_
                refine v_iald hC m_22 hf_2379 (vp_in_iff.mpr (by decide)) (v := g_2381 2) rfl dX12_readRow_181 ?_
                refine v_iconst hC dX12_readRow_182 (v := 1) (by decide) ?_
                obtain ⟨v_2388, h_2389⟩ : ∃ v9 : Int32, (g_2381 2) + 1 = v9 := ⟨_, rfl⟩
                refine v_iadd hC dX12_readRow_183 h_2389 ?_
                refine v_iast hC m_22 hf_2379 (vp_in_iff.mpr (by decide)) dX12_readRow_184 (fun f_2391 hf_2392 hk_2393 => ?_)
                have hW_2395 := hW_2382.up hf_2392 hk_2393 t_23 ⟨_, rfl, (ok_2383.up (i := 2) (by decide) (fun q1 q2 => absurd (And.intro q1 q2) (by decide)) (fun k9 q1 q2 q3 => by simp only [Int32.reduceToInt] at q3; omega))⟩
                obtain ⟨g_2394, hf_2392, ok_2396, eg_2397⟩ : ∃ g9, f_2391 (q 14) = aI E 2076 g9 ∧ FOK g9 ∧ g9 = upd g_2381 (2 : Int32).toNatClampNeg v_2388 := ⟨_, hf_2392, (ok_2383.up (i := 2) (by decide) (fun q1 q2 => absurd (And.intro q1 q2) (by decide)) (fun k9 q1 q2 q3 => by simp only [Int32.reduceToInt] at q3; omega)), rfl⟩
                have hf_2398 := (hk_2393 a_0 (ne_kd hf_2385 hf_2379 rfl)).trans hf_2385
                have fr_2399 := FR.w hk_2393 hf_2379 (k := 2176) rfl
                have rf_2400 := rr_2108.fin eg_2384 eg_2397 (by omega) (by omega) (by omega) (by omega)
                have rf_2400_t := rf_2400.2.2.2.2
                refine v_aload_n hC dX12_readRow_185 rfl ?_
                refine v_vv hC (rest := []) m_1 hf_2398 rfl mi_X12_advance ms_X12_advance (p_X12_advance hW_2395 k_0) mx_X12_advance ml_X12_156 (by decide) rfl (cells1 := 0) (slots1 := 0) (by decide) (by decide) (Nat.le_of_ble_eq_true rfl) (Nat.le_of_ble_eq_true rfl) rfl (Nat.le_of_ble_eq_true rfl) dX12_readRow_186 (fun L_2402 f_2403 h_2404 => ?_)
                obtain ⟨rfl, hW_2409, hF_2410, x_2405, x_2406, x_2407, x_2408⟩ := h_2404
                have fe_2411 : fld (f_2391 a_0) 8 = (v_2350 : Int32).toInt := by rw [hf_2398]; rfl
                have fe_2412 : fld (f_2391 a_0) 12 = (v_2357 : Int32).toInt := by rw [hf_2398]; rfl
                have fe_2413 : fld (f_2391 a_0) 20 = (v_2361 : Int32).toInt := by rw [hf_2398]; rfl
                have hf_2414 := hF_2410.at hf_2392 rfl
                obtain ⟨v_2416, v_2417, v_2419, v_2421, v_2423, v_2425, v_2427, v_2428, v_2429, v_2430, v_2432, e_2415, b_2418, b_2420, b_2422, b_2424, b_2426, b_2431, b_2433⟩ := hW_2409.at m_1 t_2
                have fe_2434 : fld (f_2403 a_0) 8 = (v_2421 : Int32).toInt := by rw [e_2415]; rfl
                have fe_2435 : fld (f_2403 a_0) 9 = (v_2423 : Int32).toInt := by rw [e_2415]; rfl
                have fe_2436 : fld (f_2403 a_0) 10 = (v_2425 : Int32).toInt := by rw [e_2415]; rfl
                have fe_2437 : fld (f_2403 a_0) 12 = (v_2428 : Int32).toInt := by rw [e_2415]; rfl
                have fe_2438 : fld (f_2403 a_0) 20 = (v_2432 : Int32).toInt := by rw [e_2415]; rfl
                rw [fe_2411, fe_2435, fe_2434] at x_2405
                rw [fe_2436, fe_2435, fe_2434] at x_2406
                rw [fe_2437, fe_2412] at x_2407
                rw [fe_2438, fe_2413] at x_2408
                clear fe_2411 fe_2412 fe_2413 fe_2434 fe_2435 fe_2436 fe_2437 fe_2438
                refine v_aload_n hC dX12_readRow_189 rfl ?_
                refine v_vv hC (rest := []) m_1 e_2415 rfl mi_X12_ends ms_X12_ends (p_X12_ends hW_2409 k_0) mx_X12_ends ml_X12_178 (by decide) rfl (cells1 := 0) (slots1 := 0) (by decide) (by decide) (Nat.le_of_ble_eq_true rfl) (Nat.le_of_ble_eq_true rfl) rfl (Nat.le_of_ble_eq_true rfl) dX12_readRow_190 (fun L_2440 f_2441 h_2442 => ?_)
                obtain ⟨rfl, hW_2447, hF_2448, x_2443, x_2444, x_2445, x_2446⟩ := h_2442
                have fe_2449 : fld (f_2403 a_0) 8 = (v_2421 : Int32).toInt := by rw [e_2415]; rfl
                have fe_2450 : fld (f_2403 a_0) 10 = (v_2425 : Int32).toInt := by rw [e_2415]; rfl
                have fe_2451 : fld (f_2403 a_0) 12 = (v_2428 : Int32).toInt := by rw [e_2415]; rfl
                have fe_2452 : fld (f_2403 a_0) 20 = (v_2432 : Int32).toInt := by rw [e_2415]; rfl
                have hf_2453 := hF_2448.at hf_2414 rfl
                obtain ⟨v_2455, v_2456, v_2458, v_2460, v_2462, v_2464, v_2466, v_2467, v_2468, v_2469, v_2471, e_2454, b_2457, b_2459, b_2461, b_2463, b_2465, b_2470, b_2472⟩ := hW_2447.at m_1 t_2
                have fe_2473 : fld (f_2441 a_0) 8 = (v_2460 : Int32).toInt := by rw [e_2454]; rfl
                have fe_2474 : fld (f_2441 a_0) 9 = (v_2462 : Int32).toInt := by rw [e_2454]; rfl
                have fe_2475 : fld (f_2441 a_0) 10 = (v_2464 : Int32).toInt := by rw [e_2454]; rfl
                have fe_2476 : fld (f_2441 a_0) 12 = (v_2467 : Int32).toInt := by rw [e_2454]; rfl
                have fe_2477 : fld (f_2441 a_0) 20 = (v_2471 : Int32).toInt := by rw [e_2454]; rfl
                rw [fe_2476, fe_2451] at x_2443
                rw [fe_2476, fe_2450, fe_2449, fe_2474, fe_2473] at x_2444
                rw [fe_2476, fe_2475, fe_2474, fe_2473] at x_2445
                rw [fe_2477, fe_2452] at x_2446
                clear fe_2449 fe_2450 fe_2451 fe_2452 fe_2473 fe_2474 fe_2475 fe_2476 fe_2477
                have fe_2478 : fld (f_2441 a_0) 12 = (v_2467 : Int32).toInt := by rw [e_2454]; rfl
                have fe_2479 : fld (f_2441 a_0) 8 = (v_2460 : Int32).toInt := by rw [e_2454]; rfl
                have fe_2480 : fld (f_2441 a_0) 12 = (v_2467 : Int32).toInt := by rw [e_2454]; rfl
                have fe_2481 : fld (f_2441 a_0) 20 = (v_2471 : Int32).toInt := by rw [e_2454]; rfl
                exact hR _ _ _ _ _ _ dX12_readRow_193 (Nat.le_of_ble_eq_true rfl) (Nat.le_of_ble_eq_true rfl) ⟨rfl, hW_2447, (((((((hF_68.tr hF_2095).tr hF_2338).tr fr_2386).tr fr_2399).tr hF_2410).tr hF_2448).mono rfl), ⟨_, hf_2453, rf_2400.1, rf_2400.2.1, rf_2400.2.2.1, rf_2400.2.2.2.1, (by rw [fe_2478]; first | (left; omega) | (right; omega) | omega)⟩, (by simp only [fe_2479, fe_2480, mz_43, mz_44, true_and, and_true, or_true, true_or, false_or, or_false, false_and, and_false, not_true_eq_false, not_false_eq_true] <;> first | omega | (simp only [Int32.lt_iff_toInt_lt, Int32.le_iff_toInt_le, Int32.reduceToInt, ← Int32.toInt_inj, true_and, and_true, or_true, true_or, false_or, or_false, false_and, and_false, not_true_eq_false, not_false_eq_true] <;> omega)), (by simp only [fe_2481, mz_45, true_and, and_true, or_true, true_or, false_or, or_false, false_and, and_false, not_true_eq_false, not_false_eq_true] <;> first | omega | (simp only [Int32.lt_iff_toInt_lt, Int32.le_iff_toInt_le, Int32.reduceToInt, ← Int32.toInt_inj, true_and, and_true, or_true, true_or, false_or, or_false, false_and, and_false, not_true_eq_false, not_false_eq_true] <;> omega))⟩
              · simp only [Int32.lt_iff_toInt_lt, Int32.le_iff_toInt_le, Int32.reduceToInt, ← Int32.toInt_inj] at h_2377
                have fe_2482 : fld (f_2330 a_0) 12 = (v_2357 : Int32).toInt := by rw [e_2344]; rfl
                have fe_2483 : fld (f_2330 a_0) 8 = (v_2350 : Int32).toInt := by rw [e_2344]; rfl
                have fe_2484 : fld (f_2330 a_0) 12 = (v_2357 : Int32).toInt := by rw [e_2344]; rfl
                have fe_2485 : fld (f_2330 a_0) 20 = (v_2361 : Int32).toInt := by rw [e_2344]; rfl
                exact hR _ _ _ _ _ _ dX12_readRow_167 (Nat.le_of_ble_eq_true rfl) (Nat.le_of_ble_eq_true rfl) ⟨rfl, hW_2337, (((hF_68.tr hF_2095).tr hF_2338).mono rfl), ⟨_, hf_2343, rr_2108.1, rr_2108.2.1, rr_2108.2.2.1, rr_2108.2.2.2.1, (by rw [fe_2482]; first | (left; omega) | (right; omega) | omega)⟩, (by simp only [fe_2483, fe_2484, mz_43, mz_44, true_and, and_true, or_true, true_or, false_or, or_false, false_and, and_false, not_true_eq_false, not_false_eq_true] <;> first | omega | (simp only [Int32.lt_iff_toInt_lt, Int32.le_iff_toInt_le, Int32.reduceToInt, ← Int32.toInt_inj, true_and, and_true, or_true, true_or, false_or, or_false, false_and, and_false, not_true_eq_false, not_false_eq_true] <;> omega)), (by simp only [fe_2485, mz_45, true_and, and_true, or_true, true_or, false_or, or_false, false_and, and_false, not_true_eq_false, not_false_eq_true] <;> first | omega | (simp only [Int32.lt_iff_toInt_lt, Int32.le_iff_toInt_le, Int32.reduceToInt, ← Int32.toInt_inj, true_and, and_true, or_true, true_or, false_or, or_false, false_and, and_false, not_true_eq_false, not_false_eq_true] <;> omega))⟩
          refine v_icmp_ge hC dX12_readRow_80 (tgt := 151) (by decide) (fun h_2109 => ?_) (fun h_2109 => ?_)
          · simp only [Int32.lt_iff_toInt_lt, Int32.le_iff_toInt_le, Int32.reduceToInt, ← Int32.toInt_inj] at h_2109
            refine v_pick [1, 2, 3, 4] rfl ?_
            exact jn_2208 
          · simp only [Int32.lt_iff_toInt_lt, Int32.le_iff_toInt_le, Int32.reduceToInt, ← Int32.toInt_inj] at h_2109
            refine v_iload_n hC dX12_readRow_83 rfl ?_
            refine v_if_eq hC dX12_readRow_84 (tgt := 151) (by decide) (fun h_2486 => ?_) (fun h_2486 => ?_)
            · simp only [Int32.lt_iff_toInt_lt, Int32.le_iff_toInt_le, Int32.reduceToInt, ← Int32.toInt_inj] at h_2486
              refine v_pick [1, 2, 3, 4] rfl ?_
              exact jn_2208 
            · simp only [Int32.lt_iff_toInt_lt, Int32.le_iff_toInt_le, Int32.reduceToInt, ← Int32.toInt_inj] at h_2486
              refine v_aload_n hC dX12_readRow_87 rfl ?_
              refine v_vi hC (rest := []) m_1 hf_2096 rfl mi_X12_good ms_X12_good (p_X12_good hW_2094 k_0) mx_X12_good ml_X12_139 (by decide) rfl (cells1 := 0) (slots1 := 0) (by decide) (by decide) (Nat.le_of_ble_eq_true rfl) (Nat.le_of_ble_eq_true rfl) rfl (Nat.le_of_ble_eq_true rfl) dX12_readRow_88 (fun r_2487 L_2488 f_2489 h_2490 => ?_)
              obtain ⟨rfl, rfl, b_2491, x_2492⟩ := h_2490
              have fe_2495 : fld (f_2093 a_0) 12 = (v_89 : Int32).toInt := by rw [hf_2096]; rfl
              rw [fe_2495] at x_2492
              clear fe_2495
              try simp only [Int32.reduceToInt, Int64.reduceToInt] at x_2492
              refine v_if_eq hC dX12_readRow_91 (tgt := 151) (by decide) (fun h_2496 => ?_) (fun h_2496 => ?_)
              · simp only [Int32.lt_iff_toInt_lt, Int32.le_iff_toInt_le, Int32.reduceToInt, ← Int32.toInt_inj] at h_2496
                refine v_pick [1, 2, 3, 4] rfl ?_
                exact jn_2208 
              · simp only [Int32.lt_iff_toInt_lt, Int32.le_iff_toInt_le, Int32.reduceToInt, ← Int32.toInt_inj] at h_2496
                refine v_aload_n hC dX12_readRow_94 rfl ?_
                refine v_get hC fl_X12_24 m_1 hf_2096 rfl dX12_readRow_95 ?_
                refine v_aload_n hC dX12_readRow_98 rfl ?_
                refine v_get hC fl_X12_117 m_1 hf_2096 rfl dX12_readRow_99 ?_
                refine v_iload hC dX12_readRow_102 rfl ?_
                obtain ⟨v_2497, h_2498⟩ : ∃ v9 : Int32, v_84 + i_2091 = v9 := ⟨_, rfl⟩
                refine v_iadd hC dX12_readRow_104 h_2498 ?_
                have h_2499 := add_v h_2498 (by first | omega | (simp only [Int32.lt_iff_toInt_lt, Int32.le_iff_toInt_le, Int32.reduceToInt, ← Int32.toInt_inj, true_and, and_true, or_true, true_or, false_or, or_false, false_and, and_false, not_true_eq_false, not_false_eq_true] <;> omega)) (by first | omega | (simp only [Int32.lt_iff_toInt_lt, Int32.le_iff_toInt_le, Int32.reduceToInt, ← Int32.toInt_inj, true_and, and_true, or_true, true_or, false_or, or_false, false_and, and_false, not_true_eq_false, not_false_eq_true] <;> omega))
                obtain ⟨m_2500, t_2501⟩ := id k_6
                obtain ⟨g_2503, e_2502, fit_2504⟩ := hW_2094.at m_2500 t_2501
                obtain ⟨v_2505, h_2506⟩ : ∃ v9 : Int32, g_2503 (v_2497 : Int32).toNatClampNeg = v9 := ⟨_, rfl⟩
                refine v_bald hC m_2500 e_2502 (vp_in_iff.mpr (by first | omega | (simp only [Int32.lt_iff_toInt_lt, Int32.le_iff_toInt_le, Int32.reduceToInt, ← Int32.toInt_inj, true_and, and_true, or_true, true_or, false_or, or_false, false_and, and_false, not_true_eq_false, not_false_eq_true] <;> omega))) h_2506 dX12_readRow_105 ?_
                refine v_si hC (rest := []) mt_X12_signOf (p_X12_signOf hW_2094) mx_X12_signOf ml_X12_175 (by decide) rfl (cells1 := 0) (slots1 := 0) (by decide) (by decide) (Nat.le_of_ble_eq_true rfl) (Nat.le_of_ble_eq_true rfl) rfl (Nat.le_of_ble_eq_true rfl) dX12_readRow_106 (fun r_2507 L_2508 f_2509 h_2510 => ?_)
                obtain ⟨rfl, rfl, b_2511, h_2512⟩ := h_2510
                refine v_iconst hC dX12_readRow_109 (v := (-1)) (by decide) ?_
                refine v_icmp_eq hC dX12_readRow_110 (tgt := 117) (by decide) (fun h_2515 => ?_) (fun h_2515 => ?_)
                · simp only [Int32.lt_iff_toInt_lt, Int32.le_iff_toInt_le, Int32.reduceToInt, ← Int32.toInt_inj] at h_2515
                  refine v_iconst hC dX12_readRow_117 (v := 0) (by decide) ?_
                  refine v_istore_n hC dX12_readRow_118 (by decide) (lv' := [(2, .int 0), (4, .int i_2091), (3, .int v_113), (1, .int v_100), (0, .ref a_0)]) rfl ?_
                  refine v_aload_n hC dX12_readRow_119 rfl ?_
                  refine v_get hC fl_X12_34 m_1 hf_2096 rfl dX12_readRow_120 ?_
                  refine v_iload_n hC dX12_readRow_123 rfl ?_
                  refine v_iconst hC dX12_readRow_124 (v := 1) (by decide) ?_
                  obtain ⟨v_2516, h_2517⟩ : ∃ v9 : Int32, v_113 + 1 = v9 := ⟨_, rfl⟩
                  refine v_iadd hC dX12_readRow_125 h_2517 ?_
                  have h_2518 := add_v h_2517 (by first | omega | (simp only [Int32.lt_iff_toInt_lt, Int32.le_iff_toInt_le, Int32.reduceToInt, ← Int32.toInt_inj, true_and, and_true, or_true, true_or, false_or, or_false, false_and, and_false, not_true_eq_false, not_false_eq_true] <;> omega)) (by first | omega | (simp only [Int32.lt_iff_toInt_lt, Int32.le_iff_toInt_le, Int32.reduceToInt, ← Int32.toInt_inj, true_and, and_true, or_true, true_or, false_or, or_false, false_and, and_false, not_true_eq_false, not_false_eq_true] <;> omega))
                  try simp only [Int32.reduceToInt] at h_2518
                  refine v_iload hC dX12_readRow_126 rfl ?_
                  obtain ⟨v_2519, h_2520⟩ : ∃ v9 : Int32, v_2516 + i_2091 = v9 := ⟨_, rfl⟩
                  refine v_iadd hC dX12_readRow_128 h_2520 ?_
                  have h_2521 := add_v h_2520 (by first | omega | (simp only [Int32.lt_iff_toInt_lt, Int32.le_iff_toInt_le, Int32.reduceToInt, ← Int32.toInt_inj, true_and, and_true, or_true, true_or, false_or, or_false, false_and, and_false, not_true_eq_false, not_false_eq_true] <;> omega)) (by first | omega | (simp only [Int32.lt_iff_toInt_lt, Int32.le_iff_toInt_le, Int32.reduceToInt, ← Int32.toInt_inj, true_and, and_true, or_true, true_or, false_or, or_false, false_and, and_false, not_true_eq_false, not_false_eq_true] <;> omega))
                  refine v_aload_n hC dX12_readRow_129 rfl ?_
                  refine v_get hC fl_X12_24 m_1 hf_2096 rfl dX12_readRow_130 ?_
                  refine v_aload_n hC dX12_readRow_133 rfl ?_
                  refine v_get hC fl_X12_117 m_1 hf_2096 rfl dX12_readRow_134 ?_
                  refine v_iload hC dX12_readRow_137 rfl ?_
                  obtain ⟨v_2522, h_2523⟩ : ∃ v9 : Int32, v_84 + i_2091 = v9 := ⟨_, rfl⟩
                  refine v_iadd hC dX12_readRow_139 h_2523 ?_
                  have h_2524 := add_v h_2523 (by first | omega | (simp only [Int32.lt_iff_toInt_lt, Int32.le_iff_toInt_le, Int32.reduceToInt, ← Int32.toInt_inj, true_and, and_true, or_true, true_or, false_or, or_false, false_and, and_false, not_true_eq_false, not_false_eq_true] <;> omega)) (by first | omega | (simp only [Int32.lt_iff_toInt_lt, Int32.le_iff_toInt_le, Int32.reduceToInt, ← Int32.toInt_inj, true_and, and_true, or_true, true_or, false_or, or_false, false_and, and_false, not_true_eq_false, not_false_eq_true] <;> omega))
                  obtain ⟨v_2525, h_2526⟩ : ∃ v9 : Int32, g_2503 (v_2522 : Int32).toNatClampNeg = v9 := ⟨_, rfl⟩
                  refine v_bald hC m_2500 e_2502 (vp_in_iff.mpr (by first | omega | (simp only [Int32.lt_iff_toInt_lt, Int32.le_iff_toInt_le, Int32.reduceToInt, ← Int32.toInt_inj, true_and, and_true, or_true, true_or, false_or, or_false, false_and, and_false, not_true_eq_false, not_false_eq_true] <;> omega))) h_2526 dX12_readRow_140 ?_
                  refine v_si hC (rest := [.int v_2519, .ref (q 14)]) mt_X12_signOf (p_X12_signOf hW_2094) mx_X12_signOf ml_X12_175 (by decide) rfl (cells1 := 0) (slots1 := 0) (by decide) (by decide) (Nat.le_of_ble_eq_true rfl) (Nat.le_of_ble_eq_true rfl) rfl (Nat.le_of_ble_eq_true rfl) dX12_readRow_141 (fun r_2527 L_2528 f_2529 h_2530 => ?_)
                  obtain ⟨rfl, rfl, b_2531, h_2532⟩ := h_2530
                  refine v_iast hC m_22 e_2107 (vp_in_iff.mpr (by first | omega | (simp only [Int32.lt_iff_toInt_lt, Int32.le_iff_toInt_le, Int32.reduceToInt, ← Int32.toInt_inj, true_and, and_true, or_true, true_or, false_or, or_false, false_and, and_false, not_true_eq_false, not_false_eq_true] <;> omega))) dX12_readRow_144 (fun f_2535 hf_2536 hk_2537 => ?_)
                  have hW_2539 := hW_2094.up hf_2536 hk_2537 t_23 ⟨_, rfl, (rr_2108.st (j := i_2091.toInt) (by omega) (by omega) (by omega) (by omega)).1⟩
                  obtain ⟨g_2538, hf_2536, ok_2540, eg_2541⟩ : ∃ g9, f_2535 (q 14) = aI E 2076 g9 ∧ FOK g9 ∧ g9 = upd g_2106 (v_2519 : Int32).toNatClampNeg r_2527 := ⟨_, hf_2536, (rr_2108.st (j := i_2091.toInt) (by omega) (by omega) (by omega) (by omega)).1, rfl⟩
                  have hf_2542 := (hk_2537 a_0 (ne_kd hf_2096 e_2107 rfl)).trans hf_2096
                  have hf_2543 := (hk_2537 (q 4) (ne_kd e_2502 e_2107 rfl)).trans e_2502
                  have fr_2544 := FR.w hk_2537 e_2107 (k := 2176) rfl
                  have rr_2545 : RR g_f g_2538 := by rw [eg_2541]; exact rr_2108.st (j := i_2091.toInt) (by omega) (by omega) (by omega) (by omega)
                  obtain ⟨v_2546, h_2547⟩ : ∃ v9 : Int32, i_2091 + Int32.ofInt 1 = v9 := ⟨_, rfl⟩
                  have h_2548 := add_v (b := 1) h_2547 (by first | omega | (simp only [Int32.lt_iff_toInt_lt, Int32.le_iff_toInt_le, Int32.reduceToInt, ← Int32.toInt_inj, true_and, and_true, or_true, true_or, false_or, or_false, false_and, and_false, not_true_eq_false, not_false_eq_true] <;> omega)) (by first | omega | (simp only [Int32.lt_iff_toInt_lt, Int32.le_iff_toInt_le, Int32.reduceToInt, ← Int32.toInt_inj, true_and, and_true, or_true, true_or, false_or, or_false, false_and, and_false, not_true_eq_false, not_false_eq_true] <;> omega))
                  simp only [Int32.reduceToInt] at h_2548
                  refine v_iinc hC dX12_readRow_145 (k := 1) rfl (v := v_2546) h_2547 (by decide) (lv' := [(4, .int v_2546), (2, .int 0), (3, .int v_113), (1, .int v_100), (0, .ref a_0)]) rfl ?_
                  refine v_goto hC dX12_readRow_148 (tgt := 77) (by decide) ?_
                  refine v_pick [0, 2, 1, 3, 4] rfl ?_
                  have fe_2549 : fld (f_2535 a_0) 10 = (v_86 : Int32).toInt := by rw [hf_2542]; rfl
                  exact ih_2103 f_2535 hW_2539 ((hF_2095.tr fr_2544).mono rfl) v_2546 (by first | omega | (simp only [Int32.lt_iff_toInt_lt, Int32.le_iff_toInt_le, Int32.reduceToInt, ← Int32.toInt_inj, true_and, and_true, or_true, true_or, false_or, or_false, false_and, and_false, not_true_eq_false, not_false_eq_true] <;> omega)) 0 (by decide) (by rw [fe_2549] <;> first | omega | (simp only [Int32.lt_iff_toInt_lt, Int32.le_iff_toInt_le, Int32.reduceToInt, ← Int32.toInt_inj, true_and, and_true, or_true, true_or, false_or, or_false, false_and, and_false, not_true_eq_false, not_false_eq_true] <;> omega)) ⟨_, hf_2536, rr_2545⟩ (by first | omega | (simp only [Int32.lt_iff_toInt_lt, Int32.le_iff_toInt_le, Int32.reduceToInt, ← Int32.toInt_inj, true_and, and_true, or_true, true_or, false_or, or_false, false_and, and_false, not_true_eq_false, not_false_eq_true] <;> omega))
                · simp only [Int32.lt_iff_toInt_lt, Int32.le_iff_toInt_le, Int32.reduceToInt, ← Int32.toInt_inj] at h_2515
                  refine v_iconst hC dX12_readRow_113 (v := 1) (by decide) ?_
                  refine v_goto hC dX12_readRow_114 (tgt := 118) (by decide) ?_
                  refine v_istore_n hC dX12_readRow_118 (by decide) (lv' := [(2, .int 1), (4, .int i_2091), (3, .int v_113), (1, .int v_100), (0, .ref a_0)]) rfl ?_
                  refine v_aload_n hC dX12_readRow_119 rfl ?_
                  refine v_get hC fl_X12_34 m_1 hf_2096 rfl dX12_readRow_120 ?_
                  refine v_iload_n hC dX12_readRow_123 rfl ?_
                  refine v_iconst hC dX12_readRow_124 (v := 1) (by decide) ?_
                  obtain ⟨v_2550, h_2551⟩ : ∃ v9 : Int32, v_113 + 1 = v9 := ⟨_, rfl⟩
                  refine v_iadd hC dX12_readRow_125 h_2551 ?_
                  have h_2552 := add_v h_2551 (by first | omega | (simp only [Int32.lt_iff_toInt_lt, Int32.le_iff_toInt_le, Int32.reduceToInt, ← Int32.toInt_inj, true_and, and_true, or_true, true_or, false_or, or_false, false_and, and_false, not_true_eq_false, not_false_eq_true] <;> omega)) (by first | omega | (simp only [Int32.lt_iff_toInt_lt, Int32.le_iff_toInt_le, Int32.reduceToInt, ← Int32.toInt_inj, true_and, and_true, or_true, true_or, false_or, or_false, false_and, and_false, not_true_eq_false, not_false_eq_true] <;> omega))
                  try simp only [Int32.reduceToInt] at h_2552
                  refine v_iload hC dX12_readRow_126 rfl ?_
                  obtain ⟨v_2553, h_2554⟩ : ∃ v9 : Int32, v_2550 + i_2091 = v9 := ⟨_, rfl⟩
                  refine v_iadd hC dX12_readRow_128 h_2554 ?_
                  have h_2555 := add_v h_2554 (by first | omega | (simp only [Int32.lt_iff_toInt_lt, Int32.le_iff_toInt_le, Int32.reduceToInt, ← Int32.toInt_inj, true_and, and_true, or_true, true_or, false_or, or_false, false_and, and_false, not_true_eq_false, not_false_eq_true] <;> omega)) (by first | omega | (simp only [Int32.lt_iff_toInt_lt, Int32.le_iff_toInt_le, Int32.reduceToInt, ← Int32.toInt_inj, true_and, and_true, or_true, true_or, false_or, or_false, false_and, and_false, not_true_eq_false, not_false_eq_true] <;> omega))
                  refine v_aload_n hC dX12_readRow_129 rfl ?_
                  refine v_get hC fl_X12_24 m_1 hf_2096 rfl dX12_readRow_130 ?_
                  refine v_aload_n hC dX12_readRow_133 rfl ?_
                  refine v_get hC fl_X12_117 m_1 hf_2096 rfl dX12_readRow_134 ?_
                  refine v_iload hC dX12_readRow_137 rfl ?_
                  obtain ⟨v_2556, h_2557⟩ : ∃ v9 : Int32, v_84 + i_2091 = v9 := ⟨_, rfl⟩
                  refine v_iadd hC dX12_readRow_139 h_2557 ?_
                  have h_2558 := add_v h_2557 (by first | omega | (simp only [Int32.lt_iff_toInt_lt, Int32.le_iff_toInt_le, Int32.reduceToInt, ← Int32.toInt_inj, true_and, and_true, or_true, true_or, false_or, or_false, false_and, and_false, not_true_eq_false, not_false_eq_true] <;> omega)) (by first | omega | (simp only [Int32.lt_iff_toInt_lt, Int32.le_iff_toInt_le, Int32.reduceToInt, ← Int32.toInt_inj, true_and, and_true, or_true, true_or, false_or, or_false, false_and, and_false, not_true_eq_false, not_false_eq_true] <;> omega))
                  obtain ⟨v_2559, h_2560⟩ : ∃ v9 : Int32, g_2503 (v_2556 : Int32).toNatClampNeg = v9 := ⟨_, rfl⟩
                  refine v_bald hC m_2500 e_2502 (vp_in_iff.mpr (by first | omega | (simp only [Int32.lt_iff_toInt_lt, Int32.le_iff_toInt_le, Int32.reduceToInt, ← Int32.toInt_inj, true_and, and_true, or_true, true_or, false_or, or_false, false_and, and_false, not_true_eq_false, not_false_eq_true] <;> omega))) h_2560 dX12_readRow_140 ?_
                  refine v_si hC (rest := [.int v_2553, .ref (q 14)]) mt_X12_signOf (p_X12_signOf hW_2094) mx_X12_signOf ml_X12_175 (by decide) rfl (cells1 := 0) (slots1 := 0) (by decide) (by decide) (Nat.le_of_ble_eq_true rfl) (Nat.le_of_ble_eq_true rfl) rfl (Nat.le_of_ble_eq_true rfl) dX12_readRow_141 (fun r_2561 L_2562 f_2563 h_2564 => ?_)
                  obtain ⟨rfl, rfl, b_2565, h_2566⟩ := h_2564
                  refine v_iast hC m_22 e_2107 (vp_in_iff.mpr (by first | omega | (simp only [Int32.lt_iff_toInt_lt, Int32.le_iff_toInt_le, Int32.reduceToInt, ← Int32.toInt_inj, true_and, and_true, or_true, true_or, false_or, or_false, false_and, and_false, not_true_eq_false, not_false_eq_true] <;> omega))) dX12_readRow_144 (fun f_2569 hf_2570 hk_2571 => ?_)
                  have hW_2573 := hW_2094.up hf_2570 hk_2571 t_23 ⟨_, rfl, (rr_2108.st (j := i_2091.toInt) (by omega) (by omega) (by omega) (by omega)).1⟩
                  obtain ⟨g_2572, hf_2570, ok_2574, eg_2575⟩ : ∃ g9, f_2569 (q 14) = aI E 2076 g9 ∧ FOK g9 ∧ g9 = upd g_2106 (v_2553 : Int32).toNatClampNeg r_2561 := ⟨_, hf_2570, (rr_2108.st (j := i_2091.toInt) (by omega) (by omega) (by omega) (by omega)).1, rfl⟩
                  have hf_2576 := (hk_2571 a_0 (ne_kd hf_2096 e_2107 rfl)).trans hf_2096
                  have hf_2577 := (hk_2571 (q 4) (ne_kd e_2502 e_2107 rfl)).trans e_2502
                  have fr_2578 := FR.w hk_2571 e_2107 (k := 2176) rfl
                  have rr_2579 : RR g_f g_2572 := by rw [eg_2575]; exact rr_2108.st (j := i_2091.toInt) (by omega) (by omega) (by omega) (by omega)
                  obtain ⟨v_2580, h_2581⟩ : ∃ v9 : Int32, i_2091 + Int32.ofInt 1 = v9 := ⟨_, rfl⟩
                  have h_2582 := add_v (b := 1) h_2581 (by first | omega | (simp only [Int32.lt_iff_toInt_lt, Int32.le_iff_toInt_le, Int32.reduceToInt, ← Int32.toInt_inj, true_and, and_true, or_true, true_or, false_or, or_false, false_and, and_false, not_true_eq_false, not_false_eq_true] <;> omega)) (by first | omega | (simp only [Int32.lt_iff_toInt_lt, Int32.le_iff_toInt_le, Int32.reduceToInt, ← Int32.toInt_inj, true_and, and_true, or_true, true_or, false_or, or_false, false_and, and_false, not_true_eq_false, not_false_eq_true] <;> omega))
                  simp only [Int32.reduceToInt] at h_2582
                  refine v_iinc hC dX12_readRow_145 (k := 1) rfl (v := v_2580) h_2581 (by decide) (lv' := [(4, .int v_2580), (2, .int 1), (3, .int v_113), (1, .int v_100), (0, .ref a_0)]) rfl ?_
                  refine v_goto hC dX12_readRow_148 (tgt := 77) (by decide) ?_
                  refine v_pick [0, 2, 1, 3, 4] rfl ?_
                  have fe_2583 : fld (f_2569 a_0) 10 = (v_86 : Int32).toInt := by rw [hf_2576]; rfl
                  exact ih_2103 f_2569 hW_2573 ((hF_2095.tr fr_2578).mono rfl) v_2580 (by first | omega | (simp only [Int32.lt_iff_toInt_lt, Int32.le_iff_toInt_le, Int32.reduceToInt, ← Int32.toInt_inj, true_and, and_true, or_true, true_or, false_or, or_false, false_and, and_false, not_true_eq_false, not_false_eq_true] <;> omega)) 1 (by decide) (by rw [fe_2583] <;> first | omega | (simp only [Int32.lt_iff_toInt_lt, Int32.le_iff_toInt_le, Int32.reduceToInt, ← Int32.toInt_inj, true_and, and_true, or_true, true_or, false_or, or_false, false_and, and_false, not_true_eq_false, not_false_eq_true] <;> omega)) ⟨_, hf_2570, rr_2579⟩ (by first | omega | (simp only [Int32.lt_iff_toInt_lt, Int32.le_iff_toInt_le, Int32.reduceToInt, ← Int32.toInt_inj, true_and, and_true, or_true, true_or, false_or, or_false, false_and, and_false, not_true_eq_false, not_false_eq_true] <;> omega))
      refine v_pick [0, 1, 2, 3, 4] rfl ?_
      have fe_2584 : fld (f_61 a_0) 10 = (v_86 : Int32).toInt := by rw [e_76]; rfl
      exact lp_2101 602 f_61 hW_67 FR.rf 0 (by decide) v_106 (by first | omega | (simp only [Int32.lt_iff_toInt_lt, Int32.le_iff_toInt_le, Int32.reduceToInt, ← Int32.toInt_inj, true_and, and_true, or_true, true_or, false_or, or_false, false_and, and_false, not_true_eq_false, not_false_eq_true] <;> omega)) (by rw [fe_2584] <;> first | omega | (simp only [Int32.lt_iff_toInt_lt, Int32.le_iff_toInt_le, Int32.reduceToInt, ← Int32.toInt_inj, true_and, and_true, or_true, true_or, false_or, or_false, false_and, and_false, not_true_eq_false, not_false_eq_true] <;> omega)) ⟨_, hf_75, (RR.rf o_f hPR)⟩ (by decide)
    refine v_icmp_ne hC dX12_readRow_46 (tgt := 59) (by decide) (fun h_103 => ?_) (fun h_103 => ?_)
    · simp only [Int32.lt_iff_toInt_lt, Int32.le_iff_toInt_le, Int32.reduceToInt, ← Int32.toInt_inj] at h_103
      refine v_iconst hC dX12_readRow_59 (v := 0) (by decide) ?_
      refine v_pick [0, 1] rfl ?_
      have fe_2585 : fld (f_61 a_0) 10 = (v_86 : Int32).toInt := by rw [e_76]; rfl
      exact jn_105 0 (by decide) (by rw [fe_2585] <;> first | omega | (simp only [Int32.lt_iff_toInt_lt, Int32.le_iff_toInt_le, Int32.reduceToInt, ← Int32.toInt_inj, true_and, and_true, or_true, true_or, false_or, or_false, false_and, and_false, not_true_eq_false, not_false_eq_true] <;> omega))
    · simp only [Int32.lt_iff_toInt_lt, Int32.le_iff_toInt_le, Int32.reduceToInt, ← Int32.toInt_inj] at h_103
      refine v_iload_n hC dX12_readRow_49 rfl ?_
      refine v_bipush hC dX12_readRow_50 (v := 12) (by decide) ?_
      refine v_icmp_gt hC dX12_readRow_52 (tgt := 59) (by decide) (fun h_2586 => ?_) (fun h_2586 => ?_)
      · simp only [Int32.lt_iff_toInt_lt, Int32.le_iff_toInt_le, Int32.reduceToInt, ← Int32.toInt_inj] at h_2586
        refine v_iconst hC dX12_readRow_59 (v := 0) (by decide) ?_
        refine v_pick [0, 1] rfl ?_
        have fe_2587 : fld (f_61 a_0) 10 = (v_86 : Int32).toInt := by rw [e_76]; rfl
        exact jn_105 0 (by decide) (by rw [fe_2587] <;> first | omega | (simp only [Int32.lt_iff_toInt_lt, Int32.le_iff_toInt_le, Int32.reduceToInt, ← Int32.toInt_inj, true_and, and_true, or_true, true_or, false_or, or_false, false_and, and_false, not_true_eq_false, not_false_eq_true] <;> omega))
      · simp only [Int32.lt_iff_toInt_lt, Int32.le_iff_toInt_le, Int32.reduceToInt, ← Int32.toInt_inj] at h_2586
        refine v_iconst hC dX12_readRow_55 (v := 1) (by decide) ?_
        refine v_goto hC dX12_readRow_56 (tgt := 60) (by decide) ?_
        refine v_pick [0, 1] rfl ?_
        have fe_2588 : fld (f_61 a_0) 10 = (v_86 : Int32).toInt := by rw [e_76]; rfl
        exact jn_105 1 (by decide) (by rw [fe_2588] <;> first | omega | (simp only [Int32.lt_iff_toInt_lt, Int32.le_iff_toInt_le, Int32.reduceToInt, ← Int32.toInt_inj, true_and, and_true, or_true, true_or, false_or, or_false, false_and, and_false, not_true_eq_false, not_false_eq_true] <;> omega))
  · simp only [Int32.lt_iff_toInt_lt, Int32.le_iff_toInt_le, Int32.reduceToInt, ← Int32.toInt_inj] at h_58
    refine v_aload_n hC dX12_readRow_9 rfl ?_
    refine v_get hC fl_X12_34 m_1 e_24 rfl dX12_readRow_10 ?_
    refine v_iconst hC dX12_readRow_13 (v := 2) (by decide) ?_
    refine v_iald hC m_22 e_f (vp_in_iff.mpr (by decide)) (v := g_f 2) rfl dX12_readRow_14 ?_
    refine v_bipush hC dX12_readRow_15 (v := 8) (by decide) ?_
    refine v_icmp_ne hC dX12_readRow_17 (tgt := 25) (by decide) (fun h_2589 => ?_) (fun h_2589 => ?_)
    · simp only [Int32.lt_iff_toInt_lt, Int32.le_iff_toInt_le, Int32.reduceToInt, ← Int32.toInt_inj] at h_2589
      refine v_aload_n hC dX12_readRow_25 rfl ?_
      refine v_ldcS hC sr_X12_173 dX12_readRow_26 ?_
      refine v_vv hC (rest := []) m_1 e_24 rfl mi_X12_needs ms_X12_needs (p_X12_needs hW k_0 (by decide)) mx_X12_needs ml_X12_166 (by decide) rfl (cells1 := 0) (slots1 := 0) (by decide) (by decide) (Nat.le_of_ble_eq_true rfl) (Nat.le_of_ble_eq_true rfl) rfl (Nat.le_of_ble_eq_true rfl) dX12_readRow_28 (fun L_2591 f_2592 h_2593 => ?_)
      obtain ⟨rfl, hW_2598, hF_2599, x_2594, x_2595, x_2596, x_2597⟩ := h_2593
      have fe_2600 : fld (f a_0) 8 = (v_30 : Int32).toInt := by rw [e_24]; rfl
      have fe_2601 : fld (f a_0) 9 = (v_32 : Int32).toInt := by rw [e_24]; rfl
      have fe_2602 : fld (f a_0) 10 = (v_34 : Int32).toInt := by rw [e_24]; rfl
      have fe_2603 : fld (f a_0) 12 = (v_37 : Int32).toInt := by rw [e_24]; rfl
      have fe_2604 : fld (f a_0) 20 = (v_41 : Int32).toInt := by rw [e_24]; rfl
      have ib_2605 := iw_b (f a_0) (f (q 4)) 42
      rw [fe_2603, fe_2602, fe_2600, fe_2601] at ib_2605
      have hf_2606 := hF_2599.at e_f rfl
      obtain ⟨v_2608, v_2609, v_2611, v_2613, v_2615, v_2617, v_2619, v_2620, v_2621, v_2622, v_2624, e_2607, b_2610, b_2612, b_2614, b_2616, b_2618, b_2623, b_2625⟩ := hW_2598.at m_1 t_2
      have fe_2626 : fld (f_2592 a_0) 8 = (v_2613 : Int32).toInt := by rw [e_2607]; rfl
      have fe_2627 : fld (f_2592 a_0) 9 = (v_2615 : Int32).toInt := by rw [e_2607]; rfl
      have fe_2628 : fld (f_2592 a_0) 10 = (v_2617 : Int32).toInt := by rw [e_2607]; rfl
      have fe_2629 : fld (f_2592 a_0) 12 = (v_2620 : Int32).toInt := by rw [e_2607]; rfl
      have fe_2630 : fld (f_2592 a_0) 20 = (v_2624 : Int32).toInt := by rw [e_2607]; rfl
      rw [fe_2629, fe_2600, fe_2627, fe_2626] at x_2594
      rw [fe_2629, fe_2628, fe_2627, fe_2626] at x_2595
      rw [fe_2629, fe_2603] at x_2596
      rw [fe_2630, fe_2604] at x_2597
      clear fe_2600 fe_2601 fe_2602 fe_2603 fe_2604 fe_2626 fe_2627 fe_2628 fe_2629 fe_2630
      refine v_aload_n hC dX12_readRow_31 rfl ?_
      refine v_get hC fl_X12_108 m_1 e_2607 rfl dX12_readRow_32 ?_
      refine v_aload_n hC dX12_readRow_35 rfl ?_
      refine v_get hC fl_X12_117 m_1 e_2607 rfl dX12_readRow_36 ?_
      obtain ⟨v_2631, h_2632⟩ : ∃ v9 : Int32, v_2613 - v_2615 = v9 := ⟨_, rfl⟩
      refine v_isub hC dX12_readRow_39 h_2632 ?_
      have h_2633 := sub_v h_2632 (by first | omega | (simp only [Int32.lt_iff_toInt_lt, Int32.le_iff_toInt_le, Int32.reduceToInt, ← Int32.toInt_inj, true_and, and_true, or_true, true_or, false_or, or_false, false_and, and_false, not_true_eq_false, not_false_eq_true] <;> omega)) (by first | omega | (simp only [Int32.lt_iff_toInt_lt, Int32.le_iff_toInt_le, Int32.reduceToInt, ← Int32.toInt_inj, true_and, and_true, or_true, true_or, false_or, or_false, false_and, and_false, not_true_eq_false, not_false_eq_true] <;> omega))
      refine v_istore_n hC dX12_readRow_40 (by decide) (lv' := [(1, .int v_2631), (0, .ref a_0)]) rfl ?_
      refine v_aload_n hC dX12_readRow_41 rfl ?_
      refine v_get hC fl_X12_120 m_1 e_2607 rfl dX12_readRow_42 ?_
      refine v_iconst hC dX12_readRow_45 (v := 1) (by decide) ?_
      have jn_2636 : ∀ (v_2637 : Int32) (b_2638 : (0 ≤ v_2637.toInt ∧ v_2637.toInt ≤ 1)) (jv_2639 : ((v_2637 : Int32).toInt = 0 ∨ (v_2631.toInt ≤ 12 ∧ fld (f_2592 a_0) 10 = 1))), V z E 5 0 0 L f_2592 60 [(1, .int v_2631), (0, .ref a_0)] [.int v_2637] := by
        intro v_2637 b_2638 jv_2639
        have fe_2640 : fld (f_2592 a_0) 10 = (v_2617 : Int32).toInt := by rw [e_2607]; rfl
        rw [fe_2640] at jv_2639
        refine v_istore_n hC dX12_readRow_60 (by decide) (lv' := [(2, .int v_2637), (1, .int v_2631), (0, .ref a_0)]) rfl ?_
        refine v_bipush hC dX12_readRow_61 (v := 16) (by decide) ?_
        refine v_bipush hC dX12_readRow_63 (v := 13) (by decide) ?_
        refine v_aload_n hC dX12_readRow_65 rfl ?_
        refine v_get hC fl_X12_34 m_1 e_2607 rfl dX12_readRow_66 ?_
        refine v_iconst hC dX12_readRow_69 (v := 2) (by decide) ?_
        refine v_iald hC m_22 hf_2606 (vp_in_iff.mpr (by decide)) (v := g_f 2) rfl dX12_readRow_70 ?_
        obtain ⟨v_2641, h_2642⟩ : ∃ v9 : Int32, (13 : Int32) * (g_f 2) = v9 := ⟨_, rfl⟩
        refine v_imul hC dX12_readRow_71 h_2642 ?_
        have h_2643 := mul_v 13 7 91 h_2642 (by decide) (by first | omega | (simp only [Int32.lt_iff_toInt_lt, Int32.le_iff_toInt_le, Int32.reduceToInt, ← Int32.toInt_inj, true_and, and_true, or_true, true_or, false_or, or_false, false_and, and_false, not_true_eq_false, not_false_eq_true] <;> omega)) (by decide) (by decide)
        try simp only [Int32.reduceToInt] at h_2643
        obtain ⟨v_2644, h_2645⟩ : ∃ v9 : Int32, (16 : Int32) + v_2641 = v9 := ⟨_, rfl⟩
        refine v_iadd hC dX12_readRow_72 h_2645 ?_
        have h_2646 := add_v h_2645 (by first | omega | (simp only [Int32.lt_iff_toInt_lt, Int32.le_iff_toInt_le, Int32.reduceToInt, ← Int32.toInt_inj, true_and, and_true, or_true, true_or, false_or, or_false, false_and, and_false, not_true_eq_false, not_false_eq_true] <;> omega)) (by first | omega | (simp only [Int32.lt_iff_toInt_lt, Int32.le_iff_toInt_le, Int32.reduceToInt, ← Int32.toInt_inj, true_and, and_true, or_true, true_or, false_or, or_false, false_and, and_false, not_true_eq_false, not_false_eq_true] <;> omega))
        try simp only [Int32.reduceToInt] at h_2646
        refine v_istore_n hC dX12_readRow_73 (by decide) (lv' := [(3, .int v_2644), (2, .int v_2637), (1, .int v_2631), (0, .ref a_0)]) rfl ?_
        refine v_iconst hC dX12_readRow_74 (v := 0) (by decide) ?_
        refine v_istore hC dX12_readRow_75 (by decide) (lv' := [(4, .int 0), (3, .int v_2644), (2, .int v_2637), (1, .int v_2631), (0, .ref a_0)]) rfl ?_
        have lp_4632 : ∀ (n_4633 : Nat) (f_4624 : Nat → va_E) (hW_4625 : WT T L f_4624) (hF_4626 : FR [2176] f_2592 f_4624) (i_4622 : Int32) (b_4628 : (0 ≤ i_4622.toInt ∧ i_4622.toInt ≤ 600)) (i_4623 : Int32) (b_4629 : (0 ≤ i_4623.toInt ∧ i_4623.toInt ≤ 1)) (nv_4631 : (i_4623.toInt = 0 ∨ (v_2631.toInt ≤ 12 ∧ fld (f_4624 a_0) 10 = 1))) (cv_4630 : ∃ g9 : Nat → Int32, (f_4624 (q 14)) = aI E 2076 g9 ∧ RR g_f g9) (hm_4635 : 600 - i_4622.toInt < (n_4633 : Int)), V z E 5 0 0 L f_4624 77 [(4, .int i_4622), (3, .int v_2644), (2, .int i_4623), (1, .int v_2631), (0, .ref a_0)] [] := by
          intro n_4633
          induction n_4633 with
          | zero =>
            intro f_4624 hW_4625 hF_4626 i_4622 b_4628 i_4623 b_4629 nv_4631 cv_4630 hm_4635
            have hf_4627 := hF_4626.at e_2607 rfl
            have fe_4636 : fld (f_4624 a_0) 10 = (v_2617 : Int32).toInt := by rw [hf_4627]; rfl
            rw [fe_4636] at nv_4631
            obtain ⟨g_4637, e_4638, rr_4639⟩ := cv_4630
            exfalso; omega
          | succ n_4633 ih_4634 =>
            intro f_4624 hW_4625 hF_4626 i_4622 b_4628 i_4623 b_4629 nv_4631 cv_4630 hm_4635
            have hf_4627 := hF_4626.at e_2607 rfl
            have fe_4636 : fld (f_4624 a_0) 10 = (v_2617 : Int32).toInt := by rw [hf_4627]; rfl
            rw [fe_4636] at nv_4631
            obtain ⟨g_4637, e_4638, rr_4639⟩ := cv_4630
            refine v_iload hC dX12_readRow_77 rfl ?_
            refine v_iload_n hC dX12_readRow_79 rfl ?_
            have jn_4739 : V z E 5 0 0 L f_4624 151 [(3, .int v_2644), (2, .int i_4623), (1, .int v_2631), (0, .ref a_0)] [] := by
              refine v_iload_n hC dX12_readRow_151 rfl ?_
              refine v_if_ne hC dX12_readRow_152 (tgt := 160) (by decide) (fun h_4740 => ?_) (fun h_4740 => ?_)
              · simp only [Int32.lt_iff_toInt_lt, Int32.le_iff_toInt_le, Int32.reduceToInt, ← Int32.toInt_inj] at h_4740
                refine v_aload_n hC dX12_readRow_160 rfl ?_
                refine v_vi hC (rest := []) m_1 hf_4627 rfl mi_X12_good ms_X12_good (p_X12_good hW_4625 k_0) mx_X12_good ml_X12_139 (by decide) rfl (cells1 := 0) (slots1 := 0) (by decide) (by decide) (Nat.le_of_ble_eq_true rfl) (Nat.le_of_ble_eq_true rfl) rfl (Nat.le_of_ble_eq_true rfl) dX12_readRow_161 (fun r_4741 L_4742 f_4743 h_4744 => ?_)
                obtain ⟨rfl, rfl, b_4745, x_4746⟩ := h_4744
                have fe_4749 : fld (f_4624 a_0) 12 = (v_2620 : Int32).toInt := by rw [hf_4627]; rfl
                rw [fe_4749] at x_4746
                clear fe_4749
                try simp only [Int32.reduceToInt, Int64.reduceToInt] at x_4746
                refine v_if_ne hC dX12_readRow_164 (tgt := 168) (by decide) (fun h_4750 => ?_) (fun h_4750 => ?_)
                · simp only [Int32.lt_iff_toInt_lt, Int32.le_iff_toInt_le, Int32.reduceToInt, ← Int32.toInt_inj] at h_4750
                  refine v_aload_n hC dX12_readRow_168 rfl ?_
                  refine v_get hC fl_X12_34 m_1 hf_4627 rfl dX12_readRow_169 ?_
                  refine v_iload_n hC dX12_readRow_172 rfl ?_
                  refine v_iload_n hC dX12_readRow_173 rfl ?_
                  refine v_iast hC m_22 e_4638 (vp_in_iff.mpr (by first | omega | (simp only [Int32.lt_iff_toInt_lt, Int32.le_iff_toInt_le, Int32.reduceToInt, ← Int32.toInt_inj, true_and, and_true, or_true, true_or, false_or, or_false, false_and, and_false, not_true_eq_false, not_false_eq_true] <;> omega))) dX12_readRow_174 (fun f_4751 hf_4752 hk_4753 => ?_)
                  have hW_4755 := hW_4625.up hf_4752 hk_4753 t_23 ⟨_, rfl, (rr_4639.1.up (by first | omega | (simp only [Int32.lt_iff_toInt_lt, Int32.le_iff_toInt_le, Int32.reduceToInt, ← Int32.toInt_inj, true_and, and_true, or_true, true_or, false_or, or_false, false_and, and_false, not_true_eq_false, not_false_eq_true] <;> omega)) (fun q1 q2 => (by first | omega | (simp only [Int32.lt_iff_toInt_lt, Int32.le_iff_toInt_le, Int32.reduceToInt, ← Int32.toInt_inj] at *; omega))) (fun k9 q1 q2 q3 => (by first | omega | (simp only [Int32.lt_iff_toInt_lt, Int32.le_iff_toInt_le, Int32.reduceToInt, ← Int32.toInt_inj] at *; omega))))⟩
                  obtain ⟨g_4754, hf_4752, ok_4756, eg_4757⟩ : ∃ g9, f_4751 (q 14) = aI E 2076 g9 ∧ FOK g9 ∧ g9 = upd g_4637 (v_2644 : Int32).toNatClampNeg v_2631 := ⟨_, hf_4752, (rr_4639.1.up (by first | omega | (simp only [Int32.lt_iff_toInt_lt, Int32.le_iff_toInt_le, Int32.reduceToInt, ← Int32.toInt_inj, true_and, and_true, or_true, true_or, false_or, or_false, false_and, and_false, not_true_eq_false, not_false_eq_true] <;> omega)) (fun q1 q2 => (by first | omega | (simp only [Int32.lt_iff_toInt_lt, Int32.le_iff_toInt_le, Int32.reduceToInt, ← Int32.toInt_inj] at *; omega))) (fun k9 q1 q2 q3 => (by first | omega | (simp only [Int32.lt_iff_toInt_lt, Int32.le_iff_toInt_le, Int32.reduceToInt, ← Int32.toInt_inj] at *; omega)))), rfl⟩
                  have hf_4758 := (hk_4753 a_0 (ne_kd hf_4627 e_4638 rfl)).trans hf_4627
                  have fr_4759 := FR.w hk_4753 e_4638 (k := 2176) rfl
                  have g2_4760 : (g_4754 2).toInt = (g_f 2).toInt := by rw [← rr_4639.2.2.2.2, eg_4757]; unfold upd; rw [if_neg (by rw [clamp_t]; omega)]
                  refine v_aload_n hC dX12_readRow_175 rfl ?_
                  refine v_get hC fl_X12_34 m_1 hf_4758 rfl dX12_readRow_176 ?_
                  refine v_iconst hC dX12_readRow_179 (v := 2) (by decide) ?_
                  refine v_dup2 hC dX12_readRow_180 rfl rfl ?_
                  refine v_iald hC m_22 hf_4752 (vp_in_iff.mpr (by decide)) (v := g_4754 2) rfl dX12_readRow_181 ?_
                  refine v_iconst hC dX12_readRow_182 (v := 1) (by decide) ?_
                  obtain ⟨v_4761, h_4762⟩ : ∃ v9 : Int32, (g_4754 2) + 1 = v9 := ⟨_, rfl⟩
                  refine v_iadd hC dX12_readRow_183 h_4762 ?_
                  refine v_iast hC m_22 hf_4752 (vp_in_iff.mpr (by decide)) dX12_readRow_184 (fun f_4764 hf_4765 hk_4766 => ?_)
                  have hW_4768 := hW_4755.up hf_4765 hk_4766 t_23 ⟨_, rfl, (ok_4756.up (i := 2) (by decide) (fun q1 q2 => absurd (And.intro q1 q2) (by decide)) (fun k9 q1 q2 q3 => by simp only [Int32.reduceToInt] at q3; omega))⟩
                  obtain ⟨g_4767, hf_4765, ok_4769, eg_4770⟩ : ∃ g9, f_4764 (q 14) = aI E 2076 g9 ∧ FOK g9 ∧ g9 = upd g_4754 (2 : Int32).toNatClampNeg v_4761 := ⟨_, hf_4765, (ok_4756.up (i := 2) (by decide) (fun q1 q2 => absurd (And.intro q1 q2) (by decide)) (fun k9 q1 q2 q3 => by simp only [Int32.reduceToInt] at q3; omega)), rfl⟩
                  have hf_4771 := (hk_4766 a_0 (ne_kd hf_4758 hf_4752 rfl)).trans hf_4758
                  have fr_4772 := FR.w hk_4766 hf_4752 (k := 2176) rfl
                  have rf_4773 := rr_4639.fin eg_4757 eg_4770 (by omega) (by omega) (by omega) (by omega)
                  have rf_4773_t := rf_4773.2.2.2.2
                  refine v_aload_n hC dX12_readRow_185 rfl ?_
                  refine v_vv hC (rest := []) m_1 hf_4771 rfl mi_X12_advance ms_X12_advance (p_X12_advance hW_4768 k_0) mx_X12_advance ml_X12_156 (by decide) rfl (cells1 := 0) (slots1 := 0) (by decide) (by decide) (Nat.le_of_ble_eq_true rfl) (Nat.le_of_ble_eq_true rfl) rfl (Nat.le_of_ble_eq_true rfl) dX12_readRow_186 (fun L_4775 f_4776 h_4777 => ?_)
                  obtain ⟨rfl, hW_4782, hF_4783, x_4778, x_4779, x_4780, x_4781⟩ := h_4777
                  have fe_4784 : fld (f_4764 a_0) 8 = (v_2613 : Int32).toInt := by rw [hf_4771]; rfl
                  have fe_4785 : fld (f_4764 a_0) 12 = (v_2620 : Int32).toInt := by rw [hf_4771]; rfl
                  have fe_4786 : fld (f_4764 a_0) 20 = (v_2624 : Int32).toInt := by rw [hf_4771]; rfl
                  have hf_4787 := hF_4783.at hf_4765 rfl
                  obtain ⟨v_4789, v_4790, v_4792, v_4794, v_4796, v_4798, v_4800, v_4801, v_4802, v_4803, v_4805, e_4788, b_4791, b_4793, b_4795, b_4797, b_4799, b_4804, b_4806⟩ := hW_4782.at m_1 t_2
                  have fe_4807 : fld (f_4776 a_0) 8 = (v_4794 : Int32).toInt := by rw [e_4788]; rfl
                  have fe_4808 : fld (f_4776 a_0) 9 = (v_4796 : Int32).toInt := by rw [e_4788]; rfl
                  have fe_4809 : fld (f_4776 a_0) 10 = (v_4798 : Int32).toInt := by rw [e_4788]; rfl
                  have fe_4810 : fld (f_4776 a_0) 12 = (v_4801 : Int32).toInt := by rw [e_4788]; rfl
                  have fe_4811 : fld (f_4776 a_0) 20 = (v_4805 : Int32).toInt := by rw [e_4788]; rfl
                  rw [fe_4784, fe_4808, fe_4807] at x_4778
                  rw [fe_4809, fe_4808, fe_4807] at x_4779
                  rw [fe_4810, fe_4785] at x_4780
                  rw [fe_4811, fe_4786] at x_4781
                  clear fe_4784 fe_4785 fe_4786 fe_4807 fe_4808 fe_4809 fe_4810 fe_4811
                  refine v_aload_n hC dX12_readRow_189 rfl ?_
                  refine v_vv hC (rest := []) m_1 e_4788 rfl mi_X12_ends ms_X12_ends (p_X12_ends hW_4782 k_0) mx_X12_ends ml_X12_178 (by decide) rfl (cells1 := 0) (slots1 := 0) (by decide) (by decide) (Nat.le_of_ble_eq_true rfl) (Nat.le_of_ble_eq_true rfl) rfl (Nat.le_of_ble_eq_true rfl) dX12_readRow_190 (fun L_4813 f_4814 h_4815 => ?_)
                  obtain ⟨rfl, hW_4820, hF_4821, x_4816, x_4817, x_4818, x_4819⟩ := h_4815
                  have fe_4822 : fld (f_4776 a_0) 8 = (v_4794 : Int32).toInt := by rw [e_4788]; rfl
                  have fe_4823 : fld (f_4776 a_0) 10 = (v_4798 : Int32).toInt := by rw [e_4788]; rfl
                  have fe_4824 : fld (f_4776 a_0) 12 = (v_4801 : Int32).toInt := by rw [e_4788]; rfl
                  have fe_4825 : fld (f_4776 a_0) 20 = (v_4805 : Int32).toInt := by rw [e_4788]; rfl
                  have hf_4826 := hF_4821.at hf_4787 rfl
                  obtain ⟨v_4828, v_4829, v_4831, v_4833, v_4835, v_4837, v_4839, v_4840, v_4841, v_4842, v_4844, e_4827, b_4830, b_4832, b_4834, b_4836, b_4838, b_4843, b_4845⟩ := hW_4820.at m_1 t_2
                  have fe_4846 : fld (f_4814 a_0) 8 = (v_4833 : Int32).toInt := by rw [e_4827]; rfl
                  have fe_4847 : fld (f_4814 a_0) 9 = (v_4835 : Int32).toInt := by rw [e_4827]; rfl
                  have fe_4848 : fld (f_4814 a_0) 10 = (v_4837 : Int32).toInt := by rw [e_4827]; rfl
                  have fe_4849 : fld (f_4814 a_0) 12 = (v_4840 : Int32).toInt := by rw [e_4827]; rfl
                  have fe_4850 : fld (f_4814 a_0) 20 = (v_4844 : Int32).toInt := by rw [e_4827]; rfl
                  rw [fe_4849, fe_4824] at x_4816
                  rw [fe_4849, fe_4823, fe_4822, fe_4847, fe_4846] at x_4817
                  rw [fe_4849, fe_4848, fe_4847, fe_4846] at x_4818
                  rw [fe_4850, fe_4825] at x_4819
                  clear fe_4822 fe_4823 fe_4824 fe_4825 fe_4846 fe_4847 fe_4848 fe_4849 fe_4850
                  have fe_4851 : fld (f_4814 a_0) 12 = (v_4840 : Int32).toInt := by rw [e_4827]; rfl
                  have fe_4852 : fld (f_4814 a_0) 8 = (v_4833 : Int32).toInt := by rw [e_4827]; rfl
                  have fe_4853 : fld (f_4814 a_0) 12 = (v_4840 : Int32).toInt := by rw [e_4827]; rfl
                  have fe_4854 : fld (f_4814 a_0) 20 = (v_4844 : Int32).toInt := by rw [e_4827]; rfl
                  exact hR _ _ _ _ _ _ dX12_readRow_193 (Nat.le_of_ble_eq_true rfl) (Nat.le_of_ble_eq_true rfl) ⟨rfl, hW_4820, ((((((hF_2599.tr hF_4626).tr fr_4759).tr fr_4772).tr hF_4783).tr hF_4821).mono rfl), ⟨_, hf_4826, rf_4773.1, rf_4773.2.1, rf_4773.2.2.1, rf_4773.2.2.2.1, (by rw [fe_4851]; first | (left; omega) | (right; omega) | omega)⟩, (by simp only [fe_4852, fe_4853, mz_43, mz_44, true_and, and_true, or_true, true_or, false_or, or_false, false_and, and_false, not_true_eq_false, not_false_eq_true] <;> first | omega | (simp only [Int32.lt_iff_toInt_lt, Int32.le_iff_toInt_le, Int32.reduceToInt, ← Int32.toInt_inj, true_and, and_true, or_true, true_or, false_or, or_false, false_and, and_false, not_true_eq_false, not_false_eq_true] <;> omega)), (by simp only [fe_4854, mz_45, true_and, and_true, or_true, true_or, false_or, or_false, false_and, and_false, not_true_eq_false, not_false_eq_true] <;> first | omega | (simp only [Int32.lt_iff_toInt_lt, Int32.le_iff_toInt_le, Int32.reduceToInt, ← Int32.toInt_inj, true_and, and_true, or_true, true_or, false_or, or_false, false_and, and_false, not_true_eq_false, not_false_eq_true] <;> omega))⟩
                · simp only [Int32.lt_iff_toInt_lt, Int32.le_iff_toInt_le, Int32.reduceToInt, ← Int32.toInt_inj] at h_4750
                  have fe_4855 : fld (f_4624 a_0) 12 = (v_2620 : Int32).toInt := by rw [hf_4627]; rfl
                  have fe_4856 : fld (f_4624 a_0) 8 = (v_2613 : Int32).toInt := by rw [hf_4627]; rfl
                  have fe_4857 : fld (f_4624 a_0) 12 = (v_2620 : Int32).toInt := by rw [hf_4627]; rfl
                  have fe_4858 : fld (f_4624 a_0) 20 = (v_2624 : Int32).toInt := by rw [hf_4627]; rfl
                  exact hR _ _ _ _ _ _ dX12_readRow_167 (Nat.le_of_ble_eq_true rfl) (Nat.le_of_ble_eq_true rfl) ⟨rfl, hW_4625, ((hF_2599.tr hF_4626).mono rfl), ⟨_, e_4638, rr_4639.1, rr_4639.2.1, rr_4639.2.2.1, rr_4639.2.2.2.1, (by rw [fe_4855]; first | (left; omega) | (right; omega) | omega)⟩, (by simp only [fe_4856, fe_4857, mz_43, mz_44, true_and, and_true, or_true, true_or, false_or, or_false, false_and, and_false, not_true_eq_false, not_false_eq_true] <;> first | omega | (simp only [Int32.lt_iff_toInt_lt, Int32.le_iff_toInt_le, Int32.reduceToInt, ← Int32.toInt_inj, true_and, and_true, or_true, true_or, false_or, or_false, false_and, and_false, not_true_eq_false, not_false_eq_true] <;> omega)), (by simp only [fe_4858, mz_45, true_and, and_true, or_true, true_or, false_or, or_false, false_and, and_false, not_true_eq_false, not_false_eq_true] <;> first | omega | (simp only [Int32.lt_iff_toInt_lt, Int32.le_iff_toInt_le, Int32.reduceToInt, ← Int32.toInt_inj, true_and, and_true, or_true, true_or, false_or, or_false, false_and, and_false, not_true_eq_false, not_false_eq_true] <;> omega))⟩
              · simp only [Int32.lt_iff_toInt_lt, Int32.le_iff_toInt_le, Int32.reduceToInt, ← Int32.toInt_inj] at h_4740
                refine v_aload_n hC dX12_readRow_155 rfl ?_
                refine v_iconst hC dX12_readRow_156 (v := 1) (by decide) ?_
                refine v_vv hC (rest := []) m_1 hf_4627 rfl mi_X12_errs ms_X12_errs (p_X12_errs hW_4625 k_0 (by decide)) mx_X12_errs ml_X12_162 (by decide) rfl (cells1 := 0) (slots1 := 0) (by decide) (by decide) (Nat.le_of_ble_eq_true rfl) (Nat.le_of_ble_eq_true rfl) rfl (Nat.le_of_ble_eq_true rfl) dX12_readRow_157 (fun L_4860 f_4861 h_4862 => ?_)
                obtain ⟨rfl, hW_4868, hF_4869, x_4863, x_4864, x_4865, x_4866, x_4867⟩ := h_4862
                have fe_4870 : fld (f_4624 a_0) 8 = (v_2613 : Int32).toInt := by rw [hf_4627]; rfl
                have fe_4871 : fld (f_4624 a_0) 9 = (v_2615 : Int32).toInt := by rw [hf_4627]; rfl
                have fe_4872 : fld (f_4624 a_0) 10 = (v_2617 : Int32).toInt := by rw [hf_4627]; rfl
                have fe_4873 : fld (f_4624 a_0) 20 = (v_2624 : Int32).toInt := by rw [hf_4627]; rfl
                have hf_4874 := hF_4869.at e_4638 rfl
                obtain ⟨v_4876, v_4877, v_4879, v_4881, v_4883, v_4885, v_4887, v_4888, v_4889, v_4890, v_4892, e_4875, b_4878, b_4880, b_4882, b_4884, b_4886, b_4891, b_4893⟩ := hW_4868.at m_1 t_2
                have fe_4894 : fld (f_4861 a_0) 8 = (v_4881 : Int32).toInt := by rw [e_4875]; rfl
                have fe_4895 : fld (f_4861 a_0) 9 = (v_4883 : Int32).toInt := by rw [e_4875]; rfl
                have fe_4896 : fld (f_4861 a_0) 10 = (v_4885 : Int32).toInt := by rw [e_4875]; rfl
                have fe_4897 : fld (f_4861 a_0) 12 = (v_4888 : Int32).toInt := by rw [e_4875]; rfl
                have fe_4898 : fld (f_4861 a_0) 20 = (v_4892 : Int32).toInt := by rw [e_4875]; rfl
                rw [fe_4897] at x_4863
                rw [fe_4894, fe_4870] at x_4864
                rw [fe_4895, fe_4871] at x_4865
                rw [fe_4896, fe_4872] at x_4866
                rw [fe_4898, fe_4873] at x_4867
                clear fe_4870 fe_4871 fe_4872 fe_4873 fe_4894 fe_4895 fe_4896 fe_4897 fe_4898
                refine v_aload_n hC dX12_readRow_160 rfl ?_
                refine v_vi hC (rest := []) m_1 e_4875 rfl mi_X12_good ms_X12_good (p_X12_good hW_4868 k_0) mx_X12_good ml_X12_139 (by decide) rfl (cells1 := 0) (slots1 := 0) (by decide) (by decide) (Nat.le_of_ble_eq_true rfl) (Nat.le_of_ble_eq_true rfl) rfl (Nat.le_of_ble_eq_true rfl) dX12_readRow_161 (fun r_4899 L_4900 f_4901 h_4902 => ?_)
                obtain ⟨rfl, rfl, b_4903, x_4904⟩ := h_4902
                have fe_4907 : fld (f_4861 a_0) 12 = (v_4888 : Int32).toInt := by rw [e_4875]; rfl
                rw [fe_4907] at x_4904
                clear fe_4907
                try simp only [Int32.reduceToInt, Int64.reduceToInt] at x_4904
                refine v_if_ne hC dX12_readRow_164 (tgt := 168) (by decide) (fun h_4908 => ?_) (fun h_4908 => ?_)
                · simp only [Int32.lt_iff_toInt_lt, Int32.le_iff_toInt_le, Int32.reduceToInt, ← Int32.toInt_inj] at h_4908
                  refine v_aload_n hC dX12_readRow_168 rfl ?_
                  refine v_get hC fl_X12_34 m_1 e_4875 rfl dX12_readRow_169 ?_
                  refine v_iload_n hC dX12_readRow_172 rfl ?_
                  refine v_iload_n hC dX12_readRow_173 rfl ?_
                  refine v_iast hC m_22 hf_4874 (vp_in_iff.mpr (by first | omega | (simp only [Int32.lt_iff_toInt_lt, Int32.le_iff_toInt_le, Int32.reduceToInt, ← Int32.toInt_inj, true_and, and_true, or_true, true_or, false_or, or_false, false_and, and_false, not_true_eq_false, not_false_eq_true] <;> omega))) dX12_readRow_174 (fun f_4909 hf_4910 hk_4911 => ?_)
                  have hW_4913 := hW_4868.up hf_4910 hk_4911 t_23 ⟨_, rfl, (rr_4639.1.up (by first | omega | (simp only [Int32.lt_iff_toInt_lt, Int32.le_iff_toInt_le, Int32.reduceToInt, ← Int32.toInt_inj, true_and, and_true, or_true, true_or, false_or, or_false, false_and, and_false, not_true_eq_false, not_false_eq_true] <;> omega)) (fun q1 q2 => (by first | omega | (simp only [Int32.lt_iff_toInt_lt, Int32.le_iff_toInt_le, Int32.reduceToInt, ← Int32.toInt_inj] at *; omega))) (fun k9 q1 q2 q3 => (by first | omega | (simp only [Int32.lt_iff_toInt_lt, Int32.le_iff_toInt_le, Int32.reduceToInt, ← Int32.toInt_inj] at *; omega))))⟩
                  obtain ⟨g_4912, hf_4910, ok_4914, eg_4915⟩ : ∃ g9, f_4909 (q 14) = aI E 2076 g9 ∧ FOK g9 ∧ g9 = upd g_4637 (v_2644 : Int32).toNatClampNeg v_2631 := ⟨_, hf_4910, (rr_4639.1.up (by first | omega | (simp only [Int32.lt_iff_toInt_lt, Int32.le_iff_toInt_le, Int32.reduceToInt, ← Int32.toInt_inj, true_and, and_true, or_true, true_or, false_or, or_false, false_and, and_false, not_true_eq_false, not_false_eq_true] <;> omega)) (fun q1 q2 => (by first | omega | (simp only [Int32.lt_iff_toInt_lt, Int32.le_iff_toInt_le, Int32.reduceToInt, ← Int32.toInt_inj] at *; omega))) (fun k9 q1 q2 q3 => (by first | omega | (simp only [Int32.lt_iff_toInt_lt, Int32.le_iff_toInt_le, Int32.reduceToInt, ← Int32.toInt_inj] at *; omega)))), rfl⟩
                  have hf_4916 := (hk_4911 a_0 (ne_kd e_4875 hf_4874 rfl)).trans e_4875
                  have fr_4917 := FR.w hk_4911 hf_4874 (k := 2176) rfl
                  have g2_4918 : (g_4912 2).toInt = (g_f 2).toInt := by rw [← rr_4639.2.2.2.2, eg_4915]; unfold upd; rw [if_neg (by rw [clamp_t]; omega)]
                  refine v_aload_n hC dX12_readRow_175 rfl ?_
                  refine v_get hC fl_X12_34 m_1 hf_4916 rfl dX12_readRow_176 ?_
                  refine v_iconst hC dX12_readRow_179 (v := 2) (by decide) ?_
                  refine v_dup2 hC dX12_readRow_180 rfl rfl ?_
                  refine v_iald hC m_22 hf_4910 (vp_in_iff.mpr (by decide)) (v := g_4912 2) rfl dX12_readRow_181 ?_
                  refine v_iconst hC dX12_readRow_182 (v := 1) (by decide) ?_
                  obtain ⟨v_4919, h_4920⟩ : ∃ v9 : Int32, (g_4912 2) + 1 = v9 := ⟨_, rfl⟩
                  refine v_iadd hC dX12_readRow_183 h_4920 ?_
                  refine v_iast hC m_22 hf_4910 (vp_in_iff.mpr (by decide)) dX12_readRow_184 (fun f_4922 hf_4923 hk_4924 => ?_)
                  have hW_4926 := hW_4913.up hf_4923 hk_4924 t_23 ⟨_, rfl, (ok_4914.up (i := 2) (by decide) (fun q1 q2 => absurd (And.intro q1 q2) (by decide)) (fun k9 q1 q2 q3 => by simp only [Int32.reduceToInt] at q3; omega))⟩
                  obtain ⟨g_4925, hf_4923, ok_4927, eg_4928⟩ : ∃ g9, f_4922 (q 14) = aI E 2076 g9 ∧ FOK g9 ∧ g9 = upd g_4912 (2 : Int32).toNatClampNeg v_4919 := ⟨_, hf_4923, (ok_4914.up (i := 2) (by decide) (fun q1 q2 => absurd (And.intro q1 q2) (by decide)) (fun k9 q1 q2 q3 => by simp only [Int32.reduceToInt] at q3; omega)), rfl⟩
                  have hf_4929 := (hk_4924 a_0 (ne_kd hf_4916 hf_4910 rfl)).trans hf_4916
                  have fr_4930 := FR.w hk_4924 hf_4910 (k := 2176) rfl
                  have rf_4931 := rr_4639.fin eg_4915 eg_4928 (by omega) (by omega) (by omega) (by omega)
                  have rf_4931_t := rf_4931.2.2.2.2
                  refine v_aload_n hC dX12_readRow_185 rfl ?_
                  refine v_vv hC (rest := []) m_1 hf_4929 rfl mi_X12_advance ms_X12_advance (p_X12_advance hW_4926 k_0) mx_X12_advance ml_X12_156 (by decide) rfl (cells1 := 0) (slots1 := 0) (by decide) (by decide) (Nat.le_of_ble_eq_true rfl) (Nat.le_of_ble_eq_true rfl) rfl (Nat.le_of_ble_eq_true rfl) dX12_readRow_186 (fun L_4933 f_4934 h_4935 => ?_)
                  obtain ⟨rfl, hW_4940, hF_4941, x_4936, x_4937, x_4938, x_4939⟩ := h_4935
                  have fe_4942 : fld (f_4922 a_0) 8 = (v_4881 : Int32).toInt := by rw [hf_4929]; rfl
                  have fe_4943 : fld (f_4922 a_0) 12 = (v_4888 : Int32).toInt := by rw [hf_4929]; rfl
                  have fe_4944 : fld (f_4922 a_0) 20 = (v_4892 : Int32).toInt := by rw [hf_4929]; rfl
                  have hf_4945 := hF_4941.at hf_4923 rfl
                  obtain ⟨v_4947, v_4948, v_4950, v_4952, v_4954, v_4956, v_4958, v_4959, v_4960, v_4961, v_4963, e_4946, b_4949, b_4951, b_4953, b_4955, b_4957, b_4962, b_4964⟩ := hW_4940.at m_1 t_2
                  have fe_4965 : fld (f_4934 a_0) 8 = (v_4952 : Int32).toInt := by rw [e_4946]; rfl
                  have fe_4966 : fld (f_4934 a_0) 9 = (v_4954 : Int32).toInt := by rw [e_4946]; rfl
                  have fe_4967 : fld (f_4934 a_0) 10 = (v_4956 : Int32).toInt := by rw [e_4946]; rfl
                  have fe_4968 : fld (f_4934 a_0) 12 = (v_4959 : Int32).toInt := by rw [e_4946]; rfl
                  have fe_4969 : fld (f_4934 a_0) 20 = (v_4963 : Int32).toInt := by rw [e_4946]; rfl
                  rw [fe_4942, fe_4966, fe_4965] at x_4936
                  rw [fe_4967, fe_4966, fe_4965] at x_4937
                  rw [fe_4968, fe_4943] at x_4938
                  rw [fe_4969, fe_4944] at x_4939
                  clear fe_4942 fe_4943 fe_4944 fe_4965 fe_4966 fe_4967 fe_4968 fe_4969
                  refine v_aload_n hC dX12_readRow_189 rfl ?_
                  refine v_vv hC (rest := []) m_1 e_4946 rfl mi_X12_ends ms_X12_ends (p_X12_ends hW_4940 k_0) mx_X12_ends ml_X12_178 (by decide) rfl (cells1 := 0) (slots1 := 0) (by decide) (by decide) (Nat.le_of_ble_eq_true rfl) (Nat.le_of_ble_eq_true rfl) rfl (Nat.le_of_ble_eq_true rfl) dX12_readRow_190 (fun L_4971 f_4972 h_4973 => ?_)
                  obtain ⟨rfl, hW_4978, hF_4979, x_4974, x_4975, x_4976, x_4977⟩ := h_4973
                  have fe_4980 : fld (f_4934 a_0) 8 = (v_4952 : Int32).toInt := by rw [e_4946]; rfl
                  have fe_4981 : fld (f_4934 a_0) 10 = (v_4956 : Int32).toInt := by rw [e_4946]; rfl
                  have fe_4982 : fld (f_4934 a_0) 12 = (v_4959 : Int32).toInt := by rw [e_4946]; rfl
                  have fe_4983 : fld (f_4934 a_0) 20 = (v_4963 : Int32).toInt := by rw [e_4946]; rfl
                  have hf_4984 := hF_4979.at hf_4945 rfl
                  obtain ⟨v_4986, v_4987, v_4989, v_4991, v_4993, v_4995, v_4997, v_4998, v_4999, v_5000, v_5002, e_4985, b_4988, b_4990, b_4992, b_4994, b_4996, b_5001, b_5003⟩ := hW_4978.at m_1 t_2
                  have fe_5004 : fld (f_4972 a_0) 8 = (v_4991 : Int32).toInt := by rw [e_4985]; rfl
                  have fe_5005 : fld (f_4972 a_0) 9 = (v_4993 : Int32).toInt := by rw [e_4985]; rfl
                  have fe_5006 : fld (f_4972 a_0) 10 = (v_4995 : Int32).toInt := by rw [e_4985]; rfl
                  have fe_5007 : fld (f_4972 a_0) 12 = (v_4998 : Int32).toInt := by rw [e_4985]; rfl
                  have fe_5008 : fld (f_4972 a_0) 20 = (v_5002 : Int32).toInt := by rw [e_4985]; rfl
                  rw [fe_5007, fe_4982] at x_4974
                  rw [fe_5007, fe_4981, fe_4980, fe_5005, fe_5004] at x_4975
                  rw [fe_5007, fe_5006, fe_5005, fe_5004] at x_4976
                  rw [fe_5008, fe_4983] at x_4977
                  clear fe_4980 fe_4981 fe_4982 fe_4983 fe_5004 fe_5005 fe_5006 fe_5007 fe_5008
                  have fe_5009 : fld (f_4972 a_0) 12 = (v_4998 : Int32).toInt := by rw [e_4985]; rfl
                  have fe_5010 : fld (f_4972 a_0) 8 = (v_4991 : Int32).toInt := by rw [e_4985]; rfl
                  have fe_5011 : fld (f_4972 a_0) 12 = (v_4998 : Int32).toInt := by rw [e_4985]; rfl
                  have fe_5012 : fld (f_4972 a_0) 20 = (v_5002 : Int32).toInt := by rw [e_4985]; rfl
                  exact hR _ _ _ _ _ _ dX12_readRow_193 (Nat.le_of_ble_eq_true rfl) (Nat.le_of_ble_eq_true rfl) ⟨rfl, hW_4978, (((((((hF_2599.tr hF_4626).tr hF_4869).tr fr_4917).tr fr_4930).tr hF_4941).tr hF_4979).mono rfl), ⟨_, hf_4984, rf_4931.1, rf_4931.2.1, rf_4931.2.2.1, rf_4931.2.2.2.1, (by rw [fe_5009]; first | (left; omega) | (right; omega) | omega)⟩, (by simp only [fe_5010, fe_5011, mz_43, mz_44, true_and, and_true, or_true, true_or, false_or, or_false, false_and, and_false, not_true_eq_false, not_false_eq_true] <;> first | omega | (simp only [Int32.lt_iff_toInt_lt, Int32.le_iff_toInt_le, Int32.reduceToInt, ← Int32.toInt_inj, true_and, and_true, or_true, true_or, false_or, or_false, false_and, and_false, not_true_eq_false, not_false_eq_true] <;> omega)), (by simp only [fe_5012, mz_45, true_and, and_true, or_true, true_or, false_or, or_false, false_and, and_false, not_true_eq_false, not_false_eq_true] <;> first | omega | (simp only [Int32.lt_iff_toInt_lt, Int32.le_iff_toInt_le, Int32.reduceToInt, ← Int32.toInt_inj, true_and, and_true, or_true, true_or, false_or, or_false, false_and, and_false, not_true_eq_false, not_false_eq_true] <;> omega))⟩
                · simp only [Int32.lt_iff_toInt_lt, Int32.le_iff_toInt_le, Int32.reduceToInt, ← Int32.toInt_inj] at h_4908
                  have fe_5013 : fld (f_4861 a_0) 12 = (v_4888 : Int32).toInt := by rw [e_4875]; rfl
                  have fe_5014 : fld (f_4861 a_0) 8 = (v_4881 : Int32).toInt := by rw [e_4875]; rfl
                  have fe_5015 : fld (f_4861 a_0) 12 = (v_4888 : Int32).toInt := by rw [e_4875]; rfl
                  have fe_5016 : fld (f_4861 a_0) 20 = (v_4892 : Int32).toInt := by rw [e_4875]; rfl
                  exact hR _ _ _ _ _ _ dX12_readRow_167 (Nat.le_of_ble_eq_true rfl) (Nat.le_of_ble_eq_true rfl) ⟨rfl, hW_4868, (((hF_2599.tr hF_4626).tr hF_4869).mono rfl), ⟨_, hf_4874, rr_4639.1, rr_4639.2.1, rr_4639.2.2.1, rr_4639.2.2.2.1, (by rw [fe_5013]; first | (left; omega) | (right; omega) | omega)⟩, (by simp only [fe_5014, fe_5015, mz_43, mz_44, true_and, and_true, or_true, true_or, false_or, or_false, false_and, and_false, not_true_eq_false, not_false_eq_true] <;> first | omega | (simp only [Int32.lt_iff_toInt_lt, Int32.le_iff_toInt_le, Int32.reduceToInt, ← Int32.toInt_inj, true_and, and_true, or_true, true_or, false_or, or_false, false_and, and_false, not_true_eq_false, not_false_eq_true] <;> omega)), (by simp only [fe_5016, mz_45, true_and, and_true, or_true, true_or, false_or, or_false, false_and, and_false, not_true_eq_false, not_false_eq_true] <;> first | omega | (simp only [Int32.lt_iff_toInt_lt, Int32.le_iff_toInt_le, Int32.reduceToInt, ← Int32.toInt_inj, true_and, and_true, or_true, true_or, false_or, or_false, false_and, and_false, not_true_eq_false, not_false_eq_true] <;> omega))⟩
            refine v_icmp_ge hC dX12_readRow_80 (tgt := 151) (by decide) (fun h_4640 => ?_) (fun h_4640 => ?_)
            · simp only [Int32.lt_iff_toInt_lt, Int32.le_iff_toInt_le, Int32.reduceToInt, ← Int32.toInt_inj] at h_4640
              refine v_pick [1, 2, 3, 4] rfl ?_
              exact jn_4739 
            · simp only [Int32.lt_iff_toInt_lt, Int32.le_iff_toInt_le, Int32.reduceToInt, ← Int32.toInt_inj] at h_4640
              refine v_iload_n hC dX12_readRow_83 rfl ?_
              refine v_if_eq hC dX12_readRow_84 (tgt := 151) (by decide) (fun h_5017 => ?_) (fun h_5017 => ?_)
              · simp only [Int32.lt_iff_toInt_lt, Int32.le_iff_toInt_le, Int32.reduceToInt, ← Int32.toInt_inj] at h_5017
                refine v_pick [1, 2, 3, 4] rfl ?_
                exact jn_4739 
              · simp only [Int32.lt_iff_toInt_lt, Int32.le_iff_toInt_le, Int32.reduceToInt, ← Int32.toInt_inj] at h_5017
                refine v_aload_n hC dX12_readRow_87 rfl ?_
                refine v_vi hC (rest := []) m_1 hf_4627 rfl mi_X12_good ms_X12_good (p_X12_good hW_4625 k_0) mx_X12_good ml_X12_139 (by decide) rfl (cells1 := 0) (slots1 := 0) (by decide) (by decide) (Nat.le_of_ble_eq_true rfl) (Nat.le_of_ble_eq_true rfl) rfl (Nat.le_of_ble_eq_true rfl) dX12_readRow_88 (fun r_5018 L_5019 f_5020 h_5021 => ?_)
                obtain ⟨rfl, rfl, b_5022, x_5023⟩ := h_5021
                have fe_5026 : fld (f_4624 a_0) 12 = (v_2620 : Int32).toInt := by rw [hf_4627]; rfl
                rw [fe_5026] at x_5023
                clear fe_5026
                try simp only [Int32.reduceToInt, Int64.reduceToInt] at x_5023
                refine v_if_eq hC dX12_readRow_91 (tgt := 151) (by decide) (fun h_5027 => ?_) (fun h_5027 => ?_)
                · simp only [Int32.lt_iff_toInt_lt, Int32.le_iff_toInt_le, Int32.reduceToInt, ← Int32.toInt_inj] at h_5027
                  refine v_pick [1, 2, 3, 4] rfl ?_
                  exact jn_4739 
                · simp only [Int32.lt_iff_toInt_lt, Int32.le_iff_toInt_le, Int32.reduceToInt, ← Int32.toInt_inj] at h_5027
                  refine v_aload_n hC dX12_readRow_94 rfl ?_
                  refine v_get hC fl_X12_24 m_1 hf_4627 rfl dX12_readRow_95 ?_
                  refine v_aload_n hC dX12_readRow_98 rfl ?_
                  refine v_get hC fl_X12_117 m_1 hf_4627 rfl dX12_readRow_99 ?_
                  refine v_iload hC dX12_readRow_102 rfl ?_
                  obtain ⟨v_5028, h_5029⟩ : ∃ v9 : Int32, v_2615 + i_4622 = v9 := ⟨_, rfl⟩
                  refine v_iadd hC dX12_readRow_104 h_5029 ?_
                  have h_5030 := add_v h_5029 (by first | omega | (simp only [Int32.lt_iff_toInt_lt, Int32.le_iff_toInt_le, Int32.reduceToInt, ← Int32.toInt_inj, true_and, and_true, or_true, true_or, false_or, or_false, false_and, and_false, not_true_eq_false, not_false_eq_true] <;> omega)) (by first | omega | (simp only [Int32.lt_iff_toInt_lt, Int32.le_iff_toInt_le, Int32.reduceToInt, ← Int32.toInt_inj, true_and, and_true, or_true, true_or, false_or, or_false, false_and, and_false, not_true_eq_false, not_false_eq_true] <;> omega))
                  obtain ⟨m_5031, t_5032⟩ := id k_6
                  obtain ⟨g_5034, e_5033, fit_5035⟩ := hW_4625.at m_5031 t_5032
                  obtain ⟨v_5036, h_5037⟩ : ∃ v9 : Int32, g_5034 (v_5028 : Int32).toNatClampNeg = v9 := ⟨_, rfl⟩
                  refine v_bald hC m_5031 e_5033 (vp_in_iff.mpr (by first | omega | (simp only [Int32.lt_iff_toInt_lt, Int32.le_iff_toInt_le, Int32.reduceToInt, ← Int32.toInt_inj, true_and, and_true, or_true, true_or, false_or, or_false, false_and, and_false, not_true_eq_false, not_false_eq_true] <;> omega))) h_5037 dX12_readRow_105 ?_
                  refine v_si hC (rest := []) mt_X12_signOf (p_X12_signOf hW_4625) mx_X12_signOf ml_X12_175 (by decide) rfl (cells1 := 0) (slots1 := 0) (by decide) (by decide) (Nat.le_of_ble_eq_true rfl) (Nat.le_of_ble_eq_true rfl) rfl (Nat.le_of_ble_eq_true rfl) dX12_readRow_106 (fun r_5038 L_5039 f_5040 h_5041 => ?_)
                  obtain ⟨rfl, rfl, b_5042, h_5043⟩ := h_5041
                  refine v_iconst hC dX12_readRow_109 (v := (-1)) (by decide) ?_
                  refine v_icmp_eq hC dX12_readRow_110 (tgt := 117) (by decide) (fun h_5046 => ?_) (fun h_5046 => ?_)
                  · simp only [Int32.lt_iff_toInt_lt, Int32.le_iff_toInt_le, Int32.reduceToInt, ← Int32.toInt_inj] at h_5046
                    refine v_iconst hC dX12_readRow_117 (v := 0) (by decide) ?_
                    refine v_istore_n hC dX12_readRow_118 (by decide) (lv' := [(2, .int 0), (4, .int i_4622), (3, .int v_2644), (1, .int v_2631), (0, .ref a_0)]) rfl ?_
                    refine v_aload_n hC dX12_readRow_119 rfl ?_
                    refine v_get hC fl_X12_34 m_1 hf_4627 rfl dX12_readRow_120 ?_
                    refine v_iload_n hC dX12_readRow_123 rfl ?_
                    refine v_iconst hC dX12_readRow_124 (v := 1) (by decide) ?_
                    obtain ⟨v_5047, h_5048⟩ : ∃ v9 : Int32, v_2644 + 1 = v9 := ⟨_, rfl⟩
                    refine v_iadd hC dX12_readRow_125 h_5048 ?_
                    have h_5049 := add_v h_5048 (by first | omega | (simp only [Int32.lt_iff_toInt_lt, Int32.le_iff_toInt_le, Int32.reduceToInt, ← Int32.toInt_inj, true_and, and_true, or_true, true_or, false_or, or_false, false_and, and_false, not_true_eq_false, not_false_eq_true] <;> omega)) (by first | omega | (simp only [Int32.lt_iff_toInt_lt, Int32.le_iff_toInt_le, Int32.reduceToInt, ← Int32.toInt_inj, true_and, and_true, or_true, true_or, false_or, or_false, false_and, and_false, not_true_eq_false, not_false_eq_true] <;> omega))
                    try simp only [Int32.reduceToInt] at h_5049
                    refine v_iload hC dX12_readRow_126 rfl ?_
                    obtain ⟨v_5050, h_5051⟩ : ∃ v9 : Int32, v_5047 + i_4622 = v9 := ⟨_, rfl⟩
                    refine v_iadd hC dX12_readRow_128 h_5051 ?_
                    have h_5052 := add_v h_5051 (by first | omega | (simp only [Int32.lt_iff_toInt_lt, Int32.le_iff_toInt_le, Int32.reduceToInt, ← Int32.toInt_inj, true_and, and_true, or_true, true_or, false_or, or_false, false_and, and_false, not_true_eq_false, not_false_eq_true] <;> omega)) (by first | omega | (simp only [Int32.lt_iff_toInt_lt, Int32.le_iff_toInt_le, Int32.reduceToInt, ← Int32.toInt_inj, true_and, and_true, or_true, true_or, false_or, or_false, false_and, and_false, not_true_eq_false, not_false_eq_true] <;> omega))
                    refine v_aload_n hC dX12_readRow_129 rfl ?_
                    refine v_get hC fl_X12_24 m_1 hf_4627 rfl dX12_readRow_130 ?_
                    refine v_aload_n hC dX12_readRow_133 rfl ?_
                    refine v_get hC fl_X12_117 m_1 hf_4627 rfl dX12_readRow_134 ?_
                    refine v_iload hC dX12_readRow_137 rfl ?_
                    obtain ⟨v_5053, h_5054⟩ : ∃ v9 : Int32, v_2615 + i_4622 = v9 := ⟨_, rfl⟩
                    refine v_iadd hC dX12_readRow_139 h_5054 ?_
                    have h_5055 := add_v h_5054 (by first | omega | (simp only [Int32.lt_iff_toInt_lt, Int32.le_iff_toInt_le, Int32.reduceToInt, ← Int32.toInt_inj, true_and, and_true, or_true, true_or, false_or, or_false, false_and, and_false, not_true_eq_false, not_false_eq_true] <;> omega)) (by first | omega | (simp only [Int32.lt_iff_toInt_lt, Int32.le_iff_toInt_le, Int32.reduceToInt, ← Int32.toInt_inj, true_and, and_true, or_true, true_or, false_or, or_false, false_and, and_false, not_true_eq_false, not_false_eq_true] <;> omega))
                    obtain ⟨v_5056, h_5057⟩ : ∃ v9 : Int32, g_5034 (v_5053 : Int32).toNatClampNeg = v9 := ⟨_, rfl⟩
                    refine v_bald hC m_5031 e_5033 (vp_in_iff.mpr (by first | omega | (simp only [Int32.lt_iff_toInt_lt, Int32.le_iff_toInt_le, Int32.reduceToInt, ← Int32.toInt_inj, true_and, and_true, or_true, true_or, false_or, or_false, false_and, and_false, not_true_eq_false, not_false_eq_true] <;> omega))) h_5057 dX12_readRow_140 ?_
                    refine v_si hC (rest := [.int v_5050, .ref (q 14)]) mt_X12_signOf (p_X12_signOf hW_4625) mx_X12_signOf ml_X12_175 (by decide) rfl (cells1 := 0) (slots1 := 0) (by decide) (by decide) (Nat.le_of_ble_eq_true rfl) (Nat.le_of_ble_eq_true rfl) rfl (Nat.le_of_ble_eq_true rfl) dX12_readRow_141 (fun r_5058 L_5059 f_5060 h_5061 => ?_)
                    obtain ⟨rfl, rfl, b_5062, h_5063⟩ := h_5061
                    refine v_iast hC m_22 e_4638 (vp_in_iff.mpr (by first | omega | (simp only [Int32.lt_iff_toInt_lt, Int32.le_iff_toInt_le, Int32.reduceToInt, ← Int32.toInt_inj, true_and, and_true, or_true, true_or, false_or, or_false, false_and, and_false, not_true_eq_false, not_false_eq_true] <;> omega))) dX12_readRow_144 (fun f_5066 hf_5067 hk_5068 => ?_)
                    have hW_5070 := hW_4625.up hf_5067 hk_5068 t_23 ⟨_, rfl, (rr_4639.st (j := i_4622.toInt) (by omega) (by omega) (by omega) (by omega)).1⟩
                    obtain ⟨g_5069, hf_5067, ok_5071, eg_5072⟩ : ∃ g9, f_5066 (q 14) = aI E 2076 g9 ∧ FOK g9 ∧ g9 = upd g_4637 (v_5050 : Int32).toNatClampNeg r_5058 := ⟨_, hf_5067, (rr_4639.st (j := i_4622.toInt) (by omega) (by omega) (by omega) (by omega)).1, rfl⟩
                    have hf_5073 := (hk_5068 a_0 (ne_kd hf_4627 e_4638 rfl)).trans hf_4627
                    have hf_5074 := (hk_5068 (q 4) (ne_kd e_5033 e_4638 rfl)).trans e_5033
                    have fr_5075 := FR.w hk_5068 e_4638 (k := 2176) rfl
                    have rr_5076 : RR g_f g_5069 := by rw [eg_5072]; exact rr_4639.st (j := i_4622.toInt) (by omega) (by omega) (by omega) (by omega)
                    obtain ⟨v_5077, h_5078⟩ : ∃ v9 : Int32, i_4622 + Int32.ofInt 1 = v9 := ⟨_, rfl⟩
                    have h_5079 := add_v (b := 1) h_5078 (by first | omega | (simp only [Int32.lt_iff_toInt_lt, Int32.le_iff_toInt_le, Int32.reduceToInt, ← Int32.toInt_inj, true_and, and_true, or_true, true_or, false_or, or_false, false_and, and_false, not_true_eq_false, not_false_eq_true] <;> omega)) (by first | omega | (simp only [Int32.lt_iff_toInt_lt, Int32.le_iff_toInt_le, Int32.reduceToInt, ← Int32.toInt_inj, true_and, and_true, or_true, true_or, false_or, or_false, false_and, and_false, not_true_eq_false, not_false_eq_true] <;> omega))
                    simp only [Int32.reduceToInt] at h_5079
                    refine v_iinc hC dX12_readRow_145 (k := 1) rfl (v := v_5077) h_5078 (by decide) (lv' := [(4, .int v_5077), (2, .int 0), (3, .int v_2644), (1, .int v_2631), (0, .ref a_0)]) rfl ?_
                    refine v_goto hC dX12_readRow_148 (tgt := 77) (by decide) ?_
                    refine v_pick [0, 2, 1, 3, 4] rfl ?_
                    have fe_5080 : fld (f_5066 a_0) 10 = (v_2617 : Int32).toInt := by rw [hf_5073]; rfl
                    exact ih_4634 f_5066 hW_5070 ((hF_4626.tr fr_5075).mono rfl) v_5077 (by first | omega | (simp only [Int32.lt_iff_toInt_lt, Int32.le_iff_toInt_le, Int32.reduceToInt, ← Int32.toInt_inj, true_and, and_true, or_true, true_or, false_or, or_false, false_and, and_false, not_true_eq_false, not_false_eq_true] <;> omega)) 0 (by decide) (by rw [fe_5080] <;> first | omega | (simp only [Int32.lt_iff_toInt_lt, Int32.le_iff_toInt_le, Int32.reduceToInt, ← Int32.toInt_inj, true_and, and_true, or_true, true_or, false_or, or_false, false_and, and_false, not_true_eq_false, not_false_eq_true] <;> omega)) ⟨_, hf_5067, rr_5076⟩ (by first | omega | (simp only [Int32.lt_iff_toInt_lt, Int32.le_iff_toInt_le, Int32.reduceToInt, ← Int32.toInt_inj, true_and, and_true, or_true, true_or, false_or, or_false, false_and, and_false, not_true_eq_false, not_false_eq_true] <;> omega))
                  · simp only [Int32.lt_iff_toInt_lt, Int32.le_iff_toInt_le, Int32.reduceToInt, ← Int32.toInt_inj] at h_5046
                    refine v_iconst hC dX12_readRow_113 (v := 1) (by decide) ?_
                    refine v_goto hC dX12_readRow_114 (tgt := 118) (by decide) ?_
                    refine v_istore_n hC dX12_readRow_118 (by decide) (lv' := [(2, .int 1), (4, .int i_4622), (3, .int v_2644), (1, .int v_2631), (0, .ref a_0)]) rfl ?_
                    refine v_aload_n hC dX12_readRow_119 rfl ?_
                    refine v_get hC fl_X12_34 m_1 hf_4627 rfl dX12_readRow_120 ?_
                    refine v_iload_n hC dX12_readRow_123 rfl ?_
                    refine v_iconst hC dX12_readRow_124 (v := 1) (by decide) ?_
                    obtain ⟨v_5081, h_5082⟩ : ∃ v9 : Int32, v_2644 + 1 = v9 := ⟨_, rfl⟩
                    refine v_iadd hC dX12_readRow_125 h_5082 ?_
                    have h_5083 := add_v h_5082 (by first | omega | (simp only [Int32.lt_iff_toInt_lt, Int32.le_iff_toInt_le, Int32.reduceToInt, ← Int32.toInt_inj, true_and, and_true, or_true, true_or, false_or, or_false, false_and, and_false, not_true_eq_false, not_false_eq_true] <;> omega)) (by first | omega | (simp only [Int32.lt_iff_toInt_lt, Int32.le_iff_toInt_le, Int32.reduceToInt, ← Int32.toInt_inj, true_and, and_true, or_true, true_or, false_or, or_false, false_and, and_false, not_true_eq_false, not_false_eq_true] <;> omega))
                    try simp only [Int32.reduceToInt] at h_5083
                    refine v_iload hC dX12_readRow_126 rfl ?_
                    obtain ⟨v_5084, h_5085⟩ : ∃ v9 : Int32, v_5081 + i_4622 = v9 := ⟨_, rfl⟩
                    refine v_iadd hC dX12_readRow_128 h_5085 ?_
                    have h_5086 := add_v h_5085 (by first | omega | (simp only [Int32.lt_iff_toInt_lt, Int32.le_iff_toInt_le, Int32.reduceToInt, ← Int32.toInt_inj, true_and, and_true, or_true, true_or, false_or, or_false, false_and, and_false, not_true_eq_false, not_false_eq_true] <;> omega)) (by first | omega | (simp only [Int32.lt_iff_toInt_lt, Int32.le_iff_toInt_le, Int32.reduceToInt, ← Int32.toInt_inj, true_and, and_true, or_true, true_or, false_or, or_false, false_and, and_false, not_true_eq_false, not_false_eq_true] <;> omega))
                    refine v_aload_n hC dX12_readRow_129 rfl ?_
                    refine v_get hC fl_X12_24 m_1 hf_4627 rfl dX12_readRow_130 ?_
                    refine v_aload_n hC dX12_readRow_133 rfl ?_
                    refine v_get hC fl_X12_117 m_1 hf_4627 rfl dX12_readRow_134 ?_
                    refine v_iload hC dX12_readRow_137 rfl ?_
                    obtain ⟨v_5087, h_5088⟩ : ∃ v9 : Int32, v_2615 + i_4622 = v9 := ⟨_, rfl⟩
                    refine v_iadd hC dX12_readRow_139 h_5088 ?_
                    have h_5089 := add_v h_5088 (by first | omega | (simp only [Int32.lt_iff_toInt_lt, Int32.le_iff_toInt_le, Int32.reduceToInt, ← Int32.toInt_inj, true_and, and_true, or_true, true_or, false_or, or_false, false_and, and_false, not_true_eq_false, not_false_eq_true] <;> omega)) (by first | omega | (simp only [Int32.lt_iff_toInt_lt, Int32.le_iff_toInt_le, Int32.reduceToInt, ← Int32.toInt_inj, true_and, and_true, or_true, true_or, false_or, or_false, false_and, and_false, not_true_eq_false, not_false_eq_true] <;> omega))
                    obtain ⟨v_5090, h_5091⟩ : ∃ v9 : Int32, g_5034 (v_5087 : Int32).toNatClampNeg = v9 := ⟨_, rfl⟩
                    refine v_bald hC m_5031 e_5033 (vp_in_iff.mpr (by first | omega | (simp only [Int32.lt_iff_toInt_lt, Int32.le_iff_toInt_le, Int32.reduceToInt, ← Int32.toInt_inj, true_and, and_true, or_true, true_or, false_or, or_false, false_and, and_false, not_true_eq_false, not_false_eq_true] <;> omega))) h_5091 dX12_readRow_140 ?_
                    refine v_si hC (rest := [.int v_5084, .ref (q 14)]) mt_X12_signOf (p_X12_signOf hW_4625) mx_X12_signOf ml_X12_175 (by decide) rfl (cells1 := 0) (slots1 := 0) (by decide) (by decide) (Nat.le_of_ble_eq_true rfl) (Nat.le_of_ble_eq_true rfl) rfl (Nat.le_of_ble_eq_true rfl) dX12_readRow_141 (fun r_5092 L_5093 f_5094 h_5095 => ?_)
                    obtain ⟨rfl, rfl, b_5096, h_5097⟩ := h_5095
                    refine v_iast hC m_22 e_4638 (vp_in_iff.mpr (by first | omega | (simp only [Int32.lt_iff_toInt_lt, Int32.le_iff_toInt_le, Int32.reduceToInt, ← Int32.toInt_inj, true_and, and_true, or_true, true_or, false_or, or_false, false_and, and_false, not_true_eq_false, not_false_eq_true] <;> omega))) dX12_readRow_144 (fun f_5100 hf_5101 hk_5102 => ?_)
                    have hW_5104 := hW_4625.up hf_5101 hk_5102 t_23 ⟨_, rfl, (rr_4639.st (j := i_4622.toInt) (by omega) (by omega) (by omega) (by omega)).1⟩
                    obtain ⟨g_5103, hf_5101, ok_5105, eg_5106⟩ : ∃ g9, f_5100 (q 14) = aI E 2076 g9 ∧ FOK g9 ∧ g9 = upd g_4637 (v_5084 : Int32).toNatClampNeg r_5092 := ⟨_, hf_5101, (rr_4639.st (j := i_4622.toInt) (by omega) (by omega) (by omega) (by omega)).1, rfl⟩
                    have hf_5107 := (hk_5102 a_0 (ne_kd hf_4627 e_4638 rfl)).trans hf_4627
                    have hf_5108 := (hk_5102 (q 4) (ne_kd e_5033 e_4638 rfl)).trans e_5033
                    have fr_5109 := FR.w hk_5102 e_4638 (k := 2176) rfl
                    have rr_5110 : RR g_f g_5103 := by rw [eg_5106]; exact rr_4639.st (j := i_4622.toInt) (by omega) (by omega) (by omega) (by omega)
                    obtain ⟨v_5111, h_5112⟩ : ∃ v9 : Int32, i_4622 + Int32.ofInt 1 = v9 := ⟨_, rfl⟩
                    have h_5113 := add_v (b := 1) h_5112 (by first | omega | (simp only [Int32.lt_iff_toInt_lt, Int32.le_iff_toInt_le, Int32.reduceToInt, ← Int32.toInt_inj, true_and, and_true, or_true, true_or, false_or, or_false, false_and, and_false, not_true_eq_false, not_false_eq_true] <;> omega)) (by first | omega | (simp only [Int32.lt_iff_toInt_lt, Int32.le_iff_toInt_le, Int32.reduceToInt, ← Int32.toInt_inj, true_and, and_true, or_true, true_or, false_or, or_false, false_and, and_false, not_true_eq_false, not_false_eq_true] <;> omega))
                    simp only [Int32.reduceToInt] at h_5113
                    refine v_iinc hC dX12_readRow_145 (k := 1) rfl (v := v_5111) h_5112 (by decide) (lv' := [(4, .int v_5111), (2, .int 1), (3, .int v_2644), (1, .int v_2631), (0, .ref a_0)]) rfl ?_
                    refine v_goto hC dX12_readRow_148 (tgt := 77) (by decide) ?_
                    refine v_pick [0, 2, 1, 3, 4] rfl ?_
                    have fe_5114 : fld (f_5100 a_0) 10 = (v_2617 : Int32).toInt := by rw [hf_5107]; rfl
                    exact ih_4634 f_5100 hW_5104 ((hF_4626.tr fr_5109).mono rfl) v_5111 (by first | omega | (simp only [Int32.lt_iff_toInt_lt, Int32.le_iff_toInt_le, Int32.reduceToInt, ← Int32.toInt_inj, true_and, and_true, or_true, true_or, false_or, or_false, false_and, and_false, not_true_eq_false, not_false_eq_true] <;> omega)) 1 (by decide) (by rw [fe_5114] <;> first | omega | (simp only [Int32.lt_iff_toInt_lt, Int32.le_iff_toInt_le, Int32.reduceToInt, ← Int32.toInt_inj, true_and, and_true, or_true, true_or, false_or, or_false, false_and, and_false, not_true_eq_false, not_false_eq_true] <;> omega)) ⟨_, hf_5101, rr_5110⟩ (by first | omega | (simp only [Int32.lt_iff_toInt_lt, Int32.le_iff_toInt_le, Int32.reduceToInt, ← Int32.toInt_inj, true_and, and_true, or_true, true_or, false_or, or_false, false_and, and_false, not_true_eq_false, not_false_eq_true] <;> omega))
        refine v_pick [0, 1, 2, 3, 4] rfl ?_
        have fe_5115 : fld (f_2592 a_0) 10 = (v_2617 : Int32).toInt := by rw [e_2607]; rfl
        exact lp_4632 602 f_2592 hW_2598 FR.rf 0 (by decide) v_2637 (by first | omega | (simp only [Int32.lt_iff_toInt_lt, Int32.le_iff_toInt_le, Int32.reduceToInt, ← Int32.toInt_inj, true_and, and_true, or_true, true_or, false_or, or_false, false_and, and_false, not_true_eq_false, not_false_eq_true] <;> omega)) (by rw [fe_5115] <;> first | omega | (simp only [Int32.lt_iff_toInt_lt, Int32.le_iff_toInt_le, Int32.reduceToInt, ← Int32.toInt_inj, true_and, and_true, or_true, true_or, false_or, or_false, false_and, and_false, not_true_eq_false, not_false_eq_true] <;> omega)) ⟨_, hf_2606, (RR.rf o_f hPR)⟩ (by decide)
      refine v_icmp_ne hC dX12_readRow_46 (tgt := 59) (by decide) (fun h_2634 => ?_) (fun h_2634 => ?_)
      · simp only [Int32.lt_iff_toInt_lt, Int32.le_iff_toInt_le, Int32.reduceToInt, ← Int32.toInt_inj] at h_2634
        refine v_iconst hC dX12_readRow_59 (v := 0) (by decide) ?_
        refine v_pick [0, 1] rfl ?_
        have fe_5116 : fld (f_2592 a_0) 10 = (v_2617 : Int32).toInt := by rw [e_2607]; rfl
        exact jn_2636 0 (by decide) (by rw [fe_5116] <;> first | omega | (simp only [Int32.lt_iff_toInt_lt, Int32.le_iff_toInt_le, Int32.reduceToInt, ← Int32.toInt_inj, true_and, and_true, or_true, true_or, false_or, or_false, false_and, and_false, not_true_eq_false, not_false_eq_true] <;> omega))
      · simp only [Int32.lt_iff_toInt_lt, Int32.le_iff_toInt_le, Int32.reduceToInt, ← Int32.toInt_inj] at h_2634
        refine v_iload_n hC dX12_readRow_49 rfl ?_
        refine v_bipush hC dX12_readRow_50 (v := 12) (by decide) ?_
        refine v_icmp_gt hC dX12_readRow_52 (tgt := 59) (by decide) (fun h_5117 => ?_) (fun h_5117 => ?_)
        · simp only [Int32.lt_iff_toInt_lt, Int32.le_iff_toInt_le, Int32.reduceToInt, ← Int32.toInt_inj] at h_5117
          refine v_iconst hC dX12_readRow_59 (v := 0) (by decide) ?_
          refine v_pick [0, 1] rfl ?_
          have fe_5118 : fld (f_2592 a_0) 10 = (v_2617 : Int32).toInt := by rw [e_2607]; rfl
          exact jn_2636 0 (by decide) (by rw [fe_5118] <;> first | omega | (simp only [Int32.lt_iff_toInt_lt, Int32.le_iff_toInt_le, Int32.reduceToInt, ← Int32.toInt_inj, true_and, and_true, or_true, true_or, false_or, or_false, false_and, and_false, not_true_eq_false, not_false_eq_true] <;> omega))
        · simp only [Int32.lt_iff_toInt_lt, Int32.le_iff_toInt_le, Int32.reduceToInt, ← Int32.toInt_inj] at h_5117
          refine v_iconst hC dX12_readRow_55 (v := 1) (by decide) ?_
          refine v_goto hC dX12_readRow_56 (tgt := 60) (by decide) ?_
          refine v_pick [0, 1] rfl ?_
          have fe_5119 : fld (f_2592 a_0) 10 = (v_2617 : Int32).toInt := by rw [e_2607]; rfl
          exact jn_2636 1 (by decide) (by rw [fe_5119] <;> first | omega | (simp only [Int32.lt_iff_toInt_lt, Int32.le_iff_toInt_le, Int32.reduceToInt, ← Int32.toInt_inj, true_and, and_true, or_true, true_or, false_or, or_false, false_and, and_false, not_true_eq_false, not_false_eq_true] <;> omega))
    · simp only [Int32.lt_iff_toInt_lt, Int32.le_iff_toInt_le, Int32.reduceToInt, ← Int32.toInt_inj] at h_2589
      refine v_aload_n hC dX12_readRow_20 rfl ?_
      refine v_iconst hC dX12_readRow_21 (v := 3) (by decide) ?_
      refine v_vv hC (rest := []) m_1 e_24 rfl mi_X12_errs ms_X12_errs (p_X12_errs hW k_0 (by decide)) mx_X12_errs ml_X12_162 (by decide) rfl (cells1 := 0) (slots1 := 0) (by decide) (by decide) (Nat.le_of_ble_eq_true rfl) (Nat.le_of_ble_eq_true rfl) rfl (Nat.le_of_ble_eq_true rfl) dX12_readRow_22 (fun L_5121 f_5122 h_5123 => ?_)
      obtain ⟨rfl, hW_5129, hF_5130, x_5124, x_5125, x_5126, x_5127, x_5128⟩ := h_5123
      have fe_5131 : fld (f a_0) 8 = (v_30 : Int32).toInt := by rw [e_24]; rfl
      have fe_5132 : fld (f a_0) 9 = (v_32 : Int32).toInt := by rw [e_24]; rfl
      have fe_5133 : fld (f a_0) 10 = (v_34 : Int32).toInt := by rw [e_24]; rfl
      have fe_5134 : fld (f a_0) 20 = (v_41 : Int32).toInt := by rw [e_24]; rfl
      have hf_5135 := hF_5130.at e_f rfl
      obtain ⟨v_5137, v_5138, v_5140, v_5142, v_5144, v_5146, v_5148, v_5149, v_5150, v_5151, v_5153, e_5136, b_5139, b_5141, b_5143, b_5145, b_5147, b_5152, b_5154⟩ := hW_5129.at m_1 t_2
      have fe_5155 : fld (f_5122 a_0) 8 = (v_5142 : Int32).toInt := by rw [e_5136]; rfl
      have fe_5156 : fld (f_5122 a_0) 9 = (v_5144 : Int32).toInt := by rw [e_5136]; rfl
      have fe_5157 : fld (f_5122 a_0) 10 = (v_5146 : Int32).toInt := by rw [e_5136]; rfl
      have fe_5158 : fld (f_5122 a_0) 12 = (v_5149 : Int32).toInt := by rw [e_5136]; rfl
      have fe_5159 : fld (f_5122 a_0) 20 = (v_5153 : Int32).toInt := by rw [e_5136]; rfl
      rw [fe_5158] at x_5124
      rw [fe_5155, fe_5131] at x_5125
      rw [fe_5156, fe_5132] at x_5126
      rw [fe_5157, fe_5133] at x_5127
      rw [fe_5159, fe_5134] at x_5128
      clear fe_5131 fe_5132 fe_5133 fe_5134 fe_5155 fe_5156 fe_5157 fe_5158 fe_5159
      refine v_aload_n hC dX12_readRow_25 rfl ?_
      refine v_ldcS hC sr_X12_173 dX12_readRow_26 ?_
      refine v_vv hC (rest := []) m_1 e_5136 rfl mi_X12_needs ms_X12_needs (p_X12_needs hW_5129 k_0 (by decide)) mx_X12_needs ml_X12_166 (by decide) rfl (cells1 := 0) (slots1 := 0) (by decide) (by decide) (Nat.le_of_ble_eq_true rfl) (Nat.le_of_ble_eq_true rfl) rfl (Nat.le_of_ble_eq_true rfl) dX12_readRow_28 (fun L_5161 f_5162 h_5163 => ?_)
      obtain ⟨rfl, hW_5168, hF_5169, x_5164, x_5165, x_5166, x_5167⟩ := h_5163
      have fe_5170 : fld (f_5122 a_0) 8 = (v_5142 : Int32).toInt := by rw [e_5136]; rfl
      have fe_5171 : fld (f_5122 a_0) 9 = (v_5144 : Int32).toInt := by rw [e_5136]; rfl
      have fe_5172 : fld (f_5122 a_0) 10 = (v_5146 : Int32).toInt := by rw [e_5136]; rfl
      have fe_5173 : fld (f_5122 a_0) 12 = (v_5149 : Int32).toInt := by rw [e_5136]; rfl
      have fe_5174 : fld (f_5122 a_0) 20 = (v_5153 : Int32).toInt := by rw [e_5136]; rfl
      have ib_5175 := iw_b (f_5122 a_0) (f_5122 (q 4)) 42
      rw [fe_5173, fe_5172, fe_5170, fe_5171] at ib_5175
      have hf_5176 := hF_5169.at hf_5135 rfl
      obtain ⟨v_5178, v_5179, v_5181, v_5183, v_5185, v_5187, v_5189, v_5190, v_5191, v_5192, v_5194, e_5177, b_5180, b_5182, b_5184, b_5186, b_5188, b_5193, b_5195⟩ := hW_5168.at m_1 t_2
      have fe_5196 : fld (f_5162 a_0) 8 = (v_5183 : Int32).toInt := by rw [e_5177]; rfl
      have fe_5197 : fld (f_5162 a_0) 9 = (v_5185 : Int32).toInt := by rw [e_5177]; rfl
      have fe_5198 : fld (f_5162 a_0) 10 = (v_5187 : Int32).toInt := by rw [e_5177]; rfl
      have fe_5199 : fld (f_5162 a_0) 12 = (v_5190 : Int32).toInt := by rw [e_5177]; rfl
      have fe_5200 : fld (f_5162 a_0) 20 = (v_5194 : Int32).toInt := by rw [e_5177]; rfl
      rw [fe_5199, fe_5170, fe_5197, fe_5196] at x_5164
      rw [fe_5199, fe_5198, fe_5197, fe_5196] at x_5165
      rw [fe_5199, fe_5173] at x_5166
      rw [fe_5200, fe_5174] at x_5167
      clear fe_5170 fe_5171 fe_5172 fe_5173 fe_5174 fe_5196 fe_5197 fe_5198 fe_5199 fe_5200
      refine v_aload_n hC dX12_readRow_31 rfl ?_
      refine v_get hC fl_X12_108 m_1 e_5177 rfl dX12_readRow_32 ?_
      refine v_aload_n hC dX12_readRow_35 rfl ?_
      refine v_get hC fl_X12_117 m_1 e_5177 rfl dX12_readRow_36 ?_
      obtain ⟨v_5201, h_5202⟩ : ∃ v9 : Int32, v_5183 - v_5185 = v9 := ⟨_, rfl⟩
      refine v_isub hC dX12_readRow_39 h_5202 ?_
      have h_5203 := sub_v h_5202 (by first | omega | (simp only [Int32.lt_iff_toInt_lt, Int32.le_iff_toInt_le, Int32.reduceToInt, ← Int32.toInt_inj, true_and, and_true, or_true, true_or, false_or, or_false, false_and, and_false, not_true_eq_false, not_false_eq_true] <;> omega)) (by first | omega | (simp only [Int32.lt_iff_toInt_lt, Int32.le_iff_toInt_le, Int32.reduceToInt, ← Int32.toInt_inj, true_and, and_true, or_true, true_or, false_or, or_false, false_and, and_false, not_true_eq_false, not_false_eq_true] <;> omega))
      refine v_istore_n hC dX12_readRow_40 (by decide) (lv' := [(1, .int v_5201), (0, .ref a_0)]) rfl ?_
      refine v_aload_n hC dX12_readRow_41 rfl ?_
      refine v_get hC fl_X12_120 m_1 e_5177 rfl dX12_readRow_42 ?_
      refine v_iconst hC dX12_readRow_45 (v := 1) (by decide) ?_
      have jn_5206 : ∀ (v_5207 : Int32) (b_5208 : (0 ≤ v_5207.toInt ∧ v_5207.toInt ≤ 1)) (jv_5209 : ((v_5207 : Int32).toInt = 0 ∨ (v_5201.toInt ≤ 12 ∧ fld (f_5162 a_0) 10 = 1))), V z E 5 0 0 L f_5162 60 [(1, .int v_5201), (0, .ref a_0)] [.int v_5207] := by
        intro v_5207 b_5208 jv_5209
        have fe_5210 : fld (f_5162 a_0) 10 = (v_5187 : Int32).toInt := by rw [e_5177]; rfl
        rw [fe_5210] at jv_5209
        refine v_istore_n hC dX12_readRow_60 (by decide) (lv' := [(2, .int v_5207), (1, .int v_5201), (0, .ref a_0)]) rfl ?_
        refine v_bipush hC dX12_readRow_61 (v := 16) (by decide) ?_
        refine v_bipush hC dX12_readRow_63 (v := 13) (by decide) ?_
        refine v_aload_n hC dX12_readRow_65 rfl ?_
        refine v_get hC fl_X12_34 m_1 e_5177 rfl dX12_readRow_66 ?_
        refine v_iconst hC dX12_readRow_69 (v := 2) (by decide) ?_
        refine v_iald hC m_22 hf_5176 (vp_in_iff.mpr (by decide)) (v := g_f 2) rfl dX12_readRow_70 ?_
        obtain ⟨v_5211, h_5212⟩ : ∃ v9 : Int32, (13 : Int32) * (g_f 2) = v9 := ⟨_, rfl⟩
        refine v_imul hC dX12_readRow_71 h_5212 ?_
        have h_5213 := mul_v 13 8 104 h_5212 (by decide) (by first | omega | (simp only [Int32.lt_iff_toInt_lt, Int32.le_iff_toInt_le, Int32.reduceToInt, ← Int32.toInt_inj, true_and, and_true, or_true, true_or, false_or, or_false, false_and, and_false, not_true_eq_false, not_false_eq_true] <;> omega)) (by decide) (by decide)
        try simp only [Int32.reduceToInt] at h_5213
        have h_5214 : 1 ≤ v_5211.toInt := by rw [h_5213.1]; exact Int.mul_le_mul (a := 1) (b := 1) (by first | omega | (simp only [Int32.lt_iff_toInt_lt, Int32.le_iff_toInt_le, Int32.reduceToInt, ← Int32.toInt_inj, true_and, and_true, or_true, true_or, false_or, or_false, false_and, and_false, not_true_eq_false, not_false_eq_true] <;> omega)) (by first | omega | (simp only [Int32.lt_iff_toInt_lt, Int32.le_iff_toInt_le, Int32.reduceToInt, ← Int32.toInt_inj, true_and, and_true, or_true, true_or, false_or, or_false, false_and, and_false, not_true_eq_false, not_false_eq_true] <;> omega)) (by decide) (by first | omega | (simp only [Int32.lt_iff_toInt_lt, Int32.le_iff_toInt_le, Int32.reduceToInt, ← Int32.toInt_inj, true_and, and_true, or_true, true_or, false_or, or_false, false_and, and_false, not_true_eq_false, not_false_eq_true] <;> omega))
        obtain ⟨v_5215, h_5216⟩ : ∃ v9 : Int32, (16 : Int32) + v_5211 = v9 := ⟨_, rfl⟩
        refine v_iadd hC dX12_readRow_72 h_5216 ?_
        have h_5217 := add_v h_5216 (by first | omega | (simp only [Int32.lt_iff_toInt_lt, Int32.le_iff_toInt_le, Int32.reduceToInt, ← Int32.toInt_inj, true_and, and_true, or_true, true_or, false_or, or_false, false_and, and_false, not_true_eq_false, not_false_eq_true] <;> omega)) (by first | omega | (simp only [Int32.lt_iff_toInt_lt, Int32.le_iff_toInt_le, Int32.reduceToInt, ← Int32.toInt_inj, true_and, and_true, or_true, true_or, false_or, or_false, false_and, and_false, not_true_eq_false, not_false_eq_true] <;> omega))
        try simp only [Int32.reduceToInt] at h_5217
        refine v_istore_n hC dX12_readRow_73 (by decide) (lv' := [(3, .int v_5215), (2, .int v_5207), (1, .int v_5201), (0, .ref a_0)]) rfl ?_
        refine v_iconst hC dX12_readRow_74 (v := 0) (by decide) ?_
        refine v_istore hC dX12_readRow_75 (by decide) (lv' := [(4, .int 0), (3, .int v_5215), (2, .int v_5207), (1, .int v_5201), (0, .ref a_0)]) rfl ?_
        have lp_7203 : ∀ (n_7204 : Nat) (f_7195 : Nat → va_E) (hW_7196 : WT T L f_7195) (hF_7197 : FR [2176] f_5162 f_7195) (i_7193 : Int32) (b_7199 : (0 ≤ i_7193.toInt ∧ i_7193.toInt ≤ 600)) (i_7194 : Int32) (b_7200 : (0 ≤ i_7194.toInt ∧ i_7194.toInt ≤ 1)) (nv_7202 : (i_7194.toInt = 0 ∨ (v_5201.toInt ≤ 12 ∧ fld (f_7195 a_0) 10 = 1))) (cv_7201 : ∃ g9 : Nat → Int32, (f_7195 (q 14)) = aI E 2076 g9 ∧ RR g_f g9) (hm_7206 : 600 - i_7193.toInt < (n_7204 : Int)), V z E 5 0 0 L f_7195 77 [(4, .int i_7193), (3, .int v_5215), (2, .int i_7194), (1, .int v_5201), (0, .ref a_0)] [] := by
          intro n_7204
          induction n_7204 with
          | zero =>
            intro f_7195 hW_7196 hF_7197 i_7193 b_7199 i_7194 b_7200 nv_7202 cv_7201 hm_7206
            have hf_7198 := hF_7197.at e_5177 rfl
            have fe_7207 : fld (f_7195 a_0) 10 = (v_5187 : Int32).toInt := by rw [hf_7198]; rfl
            rw [fe_7207] at nv_7202
            obtain ⟨g_7208, e_7209, rr_7210⟩ := cv_7201
            exfalso; omega
          | succ n_7204 ih_7205 =>
            intro f_7195 hW_7196 hF_7197 i_7193 b_7199 i_7194 b_7200 nv_7202 cv_7201 hm_7206
            have hf_7198 := hF_7197.at e_5177 rfl
            have fe_7207 : fld (f_7195 a_0) 10 = (v_5187 : Int32).toInt := by rw [hf_7198]; rfl
            rw [fe_7207] at nv_7202
            obtain ⟨g_7208, e_7209, rr_7210⟩ := cv_7201
            refine v_iload hC dX12_readRow_77 rfl ?_
            refine v_iload_n hC dX12_readRow_79 rfl ?_
            have jn_7310 : V z E 5 0 0 L f_7195 151 [(3, .int v_5215), (2, .int i_7194), (1, .int v_5201), (0, .ref a_0)] [] := by
              refine v_iload_n hC dX12_readRow_151 rfl ?_
              refine v_if_ne hC dX12_readRow_152 (tgt := 160) (by decide) (fun h_7311 => ?_) (fun h_7311 => ?_)
              · simp only [Int32.lt_iff_toInt_lt, Int32.le_iff_toInt_le, Int32.reduceToInt, ← Int32.toInt_inj] at h_7311
                refine v_aload_n hC dX12_readRow_160 rfl ?_
                refine v_vi hC (rest := []) m_1 hf_7198 rfl mi_X12_good ms_X12_good (p_X12_good hW_7196 k_0) mx_X12_good ml_X12_139 (by decide) rfl (cells1 := 0) (slots1 := 0) (by decide) (by decide) (Nat.le_of_ble_eq_true rfl) (Nat.le_of_ble_eq_true rfl) rfl (Nat.le_of_ble_eq_true rfl) dX12_readRow_161 (fun r_7312 L_7313 f_7314 h_7315 => ?_)
                obtain ⟨rfl, rfl, b_7316, x_7317⟩ := h_7315
                have fe_7320 : fld (f_7195 a_0) 12 = (v_5190 : Int32).toInt := by rw [hf_7198]; rfl
                rw [fe_7320] at x_7317
                clear fe_7320
                try simp only [Int32.reduceToInt, Int64.reduceToInt] at x_7317
                refine v_if_ne hC dX12_readRow_164 (tgt := 168) (by decide) (fun h_7321 => ?_) (fun h_7321 => ?_)
                · simp only [Int32.lt_iff_toInt_lt, Int32.le_iff_toInt_le, Int32.reduceToInt, ← Int32.toInt_inj] at h_7321
                  refine v_aload_n hC dX12_readRow_168 rfl ?_
                  refine v_get hC fl_X12_34 m_1 hf_7198 rfl dX12_readRow_169 ?_
                  refine v_iload_n hC dX12_readRow_172 rfl ?_
                  refine v_iload_n hC dX12_readRow_173 rfl ?_
                  refine v_iast hC m_22 e_7209 (vp_in_iff.mpr (by first | omega | (simp only [Int32.lt_iff_toInt_lt, Int32.le_iff_toInt_le, Int32.reduceToInt, ← Int32.toInt_inj, true_and, and_true, or_true, true_or, false_or, or_false, false_and, and_false, not_true_eq_false, not_false_eq_true] <;> omega))) dX12_readRow_174 (fun f_7322 hf_7323 hk_7324 => ?_)
                  have hW_7326 := hW_7196.up hf_7323 hk_7324 t_23 ⟨_, rfl, (rr_7210.1.up (by first | omega | (simp only [Int32.lt_iff_toInt_lt, Int32.le_iff_toInt_le, Int32.reduceToInt, ← Int32.toInt_inj, true_and, and_true, or_true, true_or, false_or, or_false, false_and, and_false, not_true_eq_false, not_false_eq_true] <;> omega)) (fun q1 q2 => (by first | omega | (simp only [Int32.lt_iff_toInt_lt, Int32.le_iff_toInt_le, Int32.reduceToInt, ← Int32.toInt_inj] at *; omega))) (fun k9 q1 q2 q3 => (by first | omega | (simp only [Int32.lt_iff_toInt_lt, Int32.le_iff_toInt_le, Int32.reduceToInt, ← Int32.toInt_inj] at *; omega))))⟩
                  obtain ⟨g_7325, hf_7323, ok_7327, eg_7328⟩ : ∃ g9, f_7322 (q 14) = aI E 2076 g9 ∧ FOK g9 ∧ g9 = upd g_7208 (v_5215 : Int32).toNatClampNeg v_5201 := ⟨_, hf_7323, (rr_7210.1.up (by first | omega | (simp only [Int32.lt_iff_toInt_lt, Int32.le_iff_toInt_le, Int32.reduceToInt, ← Int32.toInt_inj, true_and, and_true, or_true, true_or, false_or, or_false, false_and, and_false, not_true_eq_false, not_false_eq_true] <;> omega)) (fun q1 q2 => (by first | omega | (simp only [Int32.lt_iff_toInt_lt, Int32.le_iff_toInt_le, Int32.reduceToInt, ← Int32.toInt_inj] at *; omega))) (fun k9 q1 q2 q3 => (by first | omega | (simp only [Int32.lt_iff_toInt_lt, Int32.le_iff_toInt_le, Int32.reduceToInt, ← Int32.toInt_inj] at *; omega)))), rfl⟩
                  have hf_7329 := (hk_7324 a_0 (ne_kd hf_7198 e_7209 rfl)).trans hf_7198
                  have fr_7330 := FR.w hk_7324 e_7209 (k := 2176) rfl
                  have g2_7331 : (g_7325 2).toInt = (g_f 2).toInt := by rw [← rr_7210.2.2.2.2, eg_7328]; unfold upd; rw [if_neg (by rw [clamp_t]; omega)]
                  refine v_aload_n hC dX12_readRow_175 rfl ?_
                  refine v_get hC fl_X12_34 m_1 hf_7329 rfl dX12_readRow_176 ?_
                  refine v_iconst hC dX12_readRow_179 (v := 2) (by decide) ?_
                  refine v_dup2 hC dX12_readRow_180 rfl rfl ?_
                  refine v_iald hC m_22 hf_7323 (vp_in_iff.mpr (by decide)) (v := g_7325 2) rfl dX12_readRow_181 ?_
                  refine v_iconst hC dX12_readRow_182 (v := 1) (by decide) ?_
                  obtain ⟨v_7332, h_7333⟩ : ∃ v9 : Int32, (g_7325 2) + 1 = v9 := ⟨_, rfl⟩
                  refine v_iadd hC dX12_readRow_183 h_7333 ?_
                  refine v_iast hC m_22 hf_7323 (vp_in_iff.mpr (by decide)) dX12_readRow_184 (fun f_7335 hf_7336 hk_7337 => ?_)
                  have hW_7339 := hW_7326.up hf_7336 hk_7337 t_23 ⟨_, rfl, (ok_7327.up (i := 2) (by decide) (fun q1 q2 => absurd (And.intro q1 q2) (by decide)) (fun k9 q1 q2 q3 => by simp only [Int32.reduceToInt] at q3; omega))⟩
                  obtain ⟨g_7338, hf_7336, ok_7340, eg_7341⟩ : ∃ g9, f_7335 (q 14) = aI E 2076 g9 ∧ FOK g9 ∧ g9 = upd g_7325 (2 : Int32).toNatClampNeg v_7332 := ⟨_, hf_7336, (ok_7327.up (i := 2) (by decide) (fun q1 q2 => absurd (And.intro q1 q2) (by decide)) (fun k9 q1 q2 q3 => by simp only [Int32.reduceToInt] at q3; omega)), rfl⟩
                  have hf_7342 := (hk_7337 a_0 (ne_kd hf_7329 hf_7323 rfl)).trans hf_7329
                  have fr_7343 := FR.w hk_7337 hf_7323 (k := 2176) rfl
                  have rf_7344 := rr_7210.fin eg_7328 eg_7341 (by omega) (by omega) (by omega) (by omega)
                  have rf_7344_t := rf_7344.2.2.2.2
                  refine v_aload_n hC dX12_readRow_185 rfl ?_
                  refine v_vv hC (rest := []) m_1 hf_7342 rfl mi_X12_advance ms_X12_advance (p_X12_advance hW_7339 k_0) mx_X12_advance ml_X12_156 (by decide) rfl (cells1 := 0) (slots1 := 0) (by decide) (by decide) (Nat.le_of_ble_eq_true rfl) (Nat.le_of_ble_eq_true rfl) rfl (Nat.le_of_ble_eq_true rfl) dX12_readRow_186 (fun L_7346 f_7347 h_7348 => ?_)
                  obtain ⟨rfl, hW_7353, hF_7354, x_7349, x_7350, x_7351, x_7352⟩ := h_7348
                  have fe_7355 : fld (f_7335 a_0) 8 = (v_5183 : Int32).toInt := by rw [hf_7342]; rfl
                  have fe_7356 : fld (f_7335 a_0) 12 = (v_5190 : Int32).toInt := by rw [hf_7342]; rfl
                  have fe_7357 : fld (f_7335 a_0) 20 = (v_5194 : Int32).toInt := by rw [hf_7342]; rfl
                  have hf_7358 := hF_7354.at hf_7336 rfl
                  obtain ⟨v_7360, v_7361, v_7363, v_7365, v_7367, v_7369, v_7371, v_7372, v_7373, v_7374, v_7376, e_7359, b_7362, b_7364, b_7366, b_7368, b_7370, b_7375, b_7377⟩ := hW_7353.at m_1 t_2
                  have fe_7378 : fld (f_7347 a_0) 8 = (v_7365 : Int32).toInt := by rw [e_7359]; rfl
                  have fe_7379 : fld (f_7347 a_0) 9 = (v_7367 : Int32).toInt := by rw [e_7359]; rfl
                  have fe_7380 : fld (f_7347 a_0) 10 = (v_7369 : Int32).toInt := by rw [e_7359]; rfl
                  have fe_7381 : fld (f_7347 a_0) 12 = (v_7372 : Int32).toInt := by rw [e_7359]; rfl
                  have fe_7382 : fld (f_7347 a_0) 20 = (v_7376 : Int32).toInt := by rw [e_7359]; rfl
                  rw [fe_7355, fe_7379, fe_7378] at x_7349
                  rw [fe_7380, fe_7379, fe_7378] at x_7350
                  rw [fe_7381, fe_7356] at x_7351
                  rw [fe_7382, fe_7357] at x_7352
                  clear fe_7355 fe_7356 fe_7357 fe_7378 fe_7379 fe_7380 fe_7381 fe_7382
                  refine v_aload_n hC dX12_readRow_189 rfl ?_
                  refine v_vv hC (rest := []) m_1 e_7359 rfl mi_X12_ends ms_X12_ends (p_X12_ends hW_7353 k_0) mx_X12_ends ml_X12_178 (by decide) rfl (cells1 := 0) (slots1 := 0) (by decide) (by decide) (Nat.le_of_ble_eq_true rfl) (Nat.le_of_ble_eq_true rfl) rfl (Nat.le_of_ble_eq_true rfl) dX12_readRow_190 (fun L_7384 f_7385 h_7386 => ?_)
                  obtain ⟨rfl, hW_7391, hF_7392, x_7387, x_7388, x_7389, x_7390⟩ := h_7386
                  have fe_7393 : fld (f_7347 a_0) 8 = (v_7365 : Int32).toInt := by rw [e_7359]; rfl
                  have fe_7394 : fld (f_7347 a_0) 10 = (v_7369 : Int32).toInt := by rw [e_7359]; rfl
                  have fe_7395 : fld (f_7347 a_0) 12 = (v_7372 : Int32).toInt := by rw [e_7359]; rfl
                  have fe_7396 : fld (f_7347 a_0) 20 = (v_7376 : Int32).toInt := by rw [e_7359]; rfl
                  have hf_7397 := hF_7392.at hf_7358 rfl
                  obtain ⟨v_7399, v_7400, v_7402, v_7404, v_7406, v_7408, v_7410, v_7411, v_7412, v_7413, v_7415, e_7398, b_7401, b_7403, b_7405, b_7407, b_7409, b_7414, b_7416⟩ := hW_7391.at m_1 t_2
                  have fe_7417 : fld (f_7385 a_0) 8 = (v_7404 : Int32).toInt := by rw [e_7398]; rfl
                  have fe_7418 : fld (f_7385 a_0) 9 = (v_7406 : Int32).toInt := by rw [e_7398]; rfl
                  have fe_7419 : fld (f_7385 a_0) 10 = (v_7408 : Int32).toInt := by rw [e_7398]; rfl
                  have fe_7420 : fld (f_7385 a_0) 12 = (v_7411 : Int32).toInt := by rw [e_7398]; rfl
                  have fe_7421 : fld (f_7385 a_0) 20 = (v_7415 : Int32).toInt := by rw [e_7398]; rfl
                  rw [fe_7420, fe_7395] at x_7387
                  rw [fe_7420, fe_7394, fe_7393, fe_7418, fe_7417] at x_7388
                  rw [fe_7420, fe_7419, fe_7418, fe_7417] at x_7389
                  rw [fe_7421, fe_7396] at x_7390
                  clear fe_7393 fe_7394 fe_7395 fe_7396 fe_7417 fe_7418 fe_7419 fe_7420 fe_7421
                  have fe_7422 : fld (f_7385 a_0) 12 = (v_7411 : Int32).toInt := by rw [e_7398]; rfl
                  have fe_7423 : fld (f_7385 a_0) 8 = (v_7404 : Int32).toInt := by rw [e_7398]; rfl
                  have fe_7424 : fld (f_7385 a_0) 12 = (v_7411 : Int32).toInt := by rw [e_7398]; rfl
                  have fe_7425 : fld (f_7385 a_0) 20 = (v_7415 : Int32).toInt := by rw [e_7398]; rfl
                  exact hR _ _ _ _ _ _ dX12_readRow_193 (Nat.le_of_ble_eq_true rfl) (Nat.le_of_ble_eq_true rfl) ⟨rfl, hW_7391, (((((((hF_5130.tr hF_5169).tr hF_7197).tr fr_7330).tr fr_7343).tr hF_7354).tr hF_7392).mono rfl), ⟨_, hf_7397, rf_7344.1, rf_7344.2.1, rf_7344.2.2.1, rf_7344.2.2.2.1, (by rw [fe_7422]; first | (left; omega) | (right; omega) | omega)⟩, (by simp only [fe_7423, fe_7424, mz_43, mz_44, true_and, and_true, or_true, true_or, false_or, or_false, false_and, and_false, not_true_eq_false, not_false_eq_true] <;> first | omega | (simp only [Int32.lt_iff_toInt_lt, Int32.le_iff_toInt_le, Int32.reduceToInt, ← Int32.toInt_inj, true_and, and_true, or_true, true_or, false_or, or_false, false_and, and_false, not_true_eq_false, not_false_eq_true] <;> omega)), (by simp only [fe_7425, mz_45, true_and, and_true, or_true, true_or, false_or, or_false, false_and, and_false, not_true_eq_false, not_false_eq_true] <;> first | omega | (simp only [Int32.lt_iff_toInt_lt, Int32.le_iff_toInt_le, Int32.reduceToInt, ← Int32.toInt_inj, true_and, and_true, or_true, true_or, false_or, or_false, false_and, and_false, not_true_eq_false, not_false_eq_true] <;> omega))⟩
                · simp only [Int32.lt_iff_toInt_lt, Int32.le_iff_toInt_le, Int32.reduceToInt, ← Int32.toInt_inj] at h_7321
                  have fe_7426 : fld (f_7195 a_0) 12 = (v_5190 : Int32).toInt := by rw [hf_7198]; rfl
                  have fe_7427 : fld (f_7195 a_0) 8 = (v_5183 : Int32).toInt := by rw [hf_7198]; rfl
                  have fe_7428 : fld (f_7195 a_0) 12 = (v_5190 : Int32).toInt := by rw [hf_7198]; rfl
                  have fe_7429 : fld (f_7195 a_0) 20 = (v_5194 : Int32).toInt := by rw [hf_7198]; rfl
                  exact hR _ _ _ _ _ _ dX12_readRow_167 (Nat.le_of_ble_eq_true rfl) (Nat.le_of_ble_eq_true rfl) ⟨rfl, hW_7196, (((hF_5130.tr hF_5169).tr hF_7197).mono rfl), ⟨_, e_7209, rr_7210.1, rr_7210.2.1, rr_7210.2.2.1, rr_7210.2.2.2.1, (by rw [fe_7426]; first | (left; omega) | (right; omega) | omega)⟩, (by simp only [fe_7427, fe_7428, mz_43, mz_44, true_and, and_true, or_true, true_or, false_or, or_false, false_and, and_false, not_true_eq_false, not_false_eq_true] <;> first | omega | (simp only [Int32.lt_iff_toInt_lt, Int32.le_iff_toInt_le, Int32.reduceToInt, ← Int32.toInt_inj, true_and, and_true, or_true, true_or, false_or, or_false, false_and, and_false, not_true_eq_false, not_false_eq_true] <;> omega)), (by simp only [fe_7429, mz_45, true_and, and_true, or_true, true_or, false_or, or_false, false_and, and_false, not_true_eq_false, not_false_eq_true] <;> first | omega | (simp only [Int32.lt_iff_toInt_lt, Int32.le_iff_toInt_le, Int32.reduceToInt, ← Int32.toInt_inj, true_and, and_true, or_true, true_or, false_or, or_false, false_and, and_false, not_true_eq_false, not_false_eq_true] <;> omega))⟩
              · simp only [Int32.lt_iff_toInt_lt, Int32.le_iff_toInt_le, Int32.reduceToInt, ← Int32.toInt_inj] at h_7311
                refine v_aload_n hC dX12_readRow_155 rfl ?_
                refine v_iconst hC dX12_readRow_156 (v := 1) (by decide) ?_
                refine v_vv hC (rest := []) m_1 hf_7198 rfl mi_X12_errs ms_X12_errs (p_X12_errs hW_7196 k_0 (by decide)) mx_X12_errs ml_X12_162 (by decide) rfl (cells1 := 0) (slots1 := 0) (by decide) (by decide) (Nat.le_of_ble_eq_true rfl) (Nat.le_of_ble_eq_true rfl) rfl (Nat.le_of_ble_eq_true rfl) dX12_readRow_157 (fun L_7431 f_7432 h_7433 => ?_)
                obtain ⟨rfl, hW_7439, hF_7440, x_7434, x_7435, x_7436, x_7437, x_7438⟩ := h_7433
                have fe_7441 : fld (f_7195 a_0) 8 = (v_5183 : Int32).toInt := by rw [hf_7198]; rfl
                have fe_7442 : fld (f_7195 a_0) 9 = (v_5185 : Int32).toInt := by rw [hf_7198]; rfl
                have fe_7443 : fld (f_7195 a_0) 10 = (v_5187 : Int32).toInt := by rw [hf_7198]; rfl
                have fe_7444 : fld (f_7195 a_0) 20 = (v_5194 : Int32).toInt := by rw [hf_7198]; rfl
                have hf_7445 := hF_7440.at e_7209 rfl
                obtain ⟨v_7447, v_7448, v_7450, v_7452, v_7454, v_7456, v_7458, v_7459, v_7460, v_7461, v_7463, e_7446, b_7449, b_7451, b_7453, b_7455, b_7457, b_7462, b_7464⟩ := hW_7439.at m_1 t_2
                have fe_7465 : fld (f_7432 a_0) 8 = (v_7452 : Int32).toInt := by rw [e_7446]; rfl
                have fe_7466 : fld (f_7432 a_0) 9 = (v_7454 : Int32).toInt := by rw [e_7446]; rfl
                have fe_7467 : fld (f_7432 a_0) 10 = (v_7456 : Int32).toInt := by rw [e_7446]; rfl
                have fe_7468 : fld (f_7432 a_0) 12 = (v_7459 : Int32).toInt := by rw [e_7446]; rfl
                have fe_7469 : fld (f_7432 a_0) 20 = (v_7463 : Int32).toInt := by rw [e_7446]; rfl
                rw [fe_7468] at x_7434
                rw [fe_7465, fe_7441] at x_7435
                rw [fe_7466, fe_7442] at x_7436
                rw [fe_7467, fe_7443] at x_7437
                rw [fe_7469, fe_7444] at x_7438
                clear fe_7441 fe_7442 fe_7443 fe_7444 fe_7465 fe_7466 fe_7467 fe_7468 fe_7469
                refine v_aload_n hC dX12_readRow_160 rfl ?_
                refine v_vi hC (rest := []) m_1 e_7446 rfl mi_X12_good ms_X12_good (p_X12_good hW_7439 k_0) mx_X12_good ml_X12_139 (by decide) rfl (cells1 := 0) (slots1 := 0) (by decide) (by decide) (Nat.le_of_ble_eq_true rfl) (Nat.le_of_ble_eq_true rfl) rfl (Nat.le_of_ble_eq_true rfl) dX12_readRow_161 (fun r_7470 L_7471 f_7472 h_7473 => ?_)
                obtain ⟨rfl, rfl, b_7474, x_7475⟩ := h_7473
                have fe_7478 : fld (f_7432 a_0) 12 = (v_7459 : Int32).toInt := by rw [e_7446]; rfl
                rw [fe_7478] at x_7475
                clear fe_7478
                try simp only [Int32.reduceToInt, Int64.reduceToInt] at x_7475
                refine v_if_ne hC dX12_readRow_164 (tgt := 168) (by decide) (fun h_7479 => ?_) (fun h_7479 => ?_)
                · simp only [Int32.lt_iff_toInt_lt, Int32.le_iff_toInt_le, Int32.reduceToInt, ← Int32.toInt_inj] at h_7479
                  refine v_aload_n hC dX12_readRow_168 rfl ?_
                  refine v_get hC fl_X12_34 m_1 e_7446 rfl dX12_readRow_169 ?_
                  refine v_iload_n hC dX12_readRow_172 rfl ?_
                  refine v_iload_n hC dX12_readRow_173 rfl ?_
                  refine v_iast hC m_22 hf_7445 (vp_in_iff.mpr (by first | omega | (simp only [Int32.lt_iff_toInt_lt, Int32.le_iff_toInt_le, Int32.reduceToInt, ← Int32.toInt_inj, true_and, and_true, or_true, true_or, false_or, or_false, false_and, and_false, not_true_eq_false, not_false_eq_true] <;> omega))) dX12_readRow_174 (fun f_7480 hf_7481 hk_7482 => ?_)
                  have hW_7484 := hW_7439.up hf_7481 hk_7482 t_23 ⟨_, rfl, (rr_7210.1.up (by first | omega | (simp only [Int32.lt_iff_toInt_lt, Int32.le_iff_toInt_le, Int32.reduceToInt, ← Int32.toInt_inj, true_and, and_true, or_true, true_or, false_or, or_false, false_and, and_false, not_true_eq_false, not_false_eq_true] <;> omega)) (fun q1 q2 => (by first | omega | (simp only [Int32.lt_iff_toInt_lt, Int32.le_iff_toInt_le, Int32.reduceToInt, ← Int32.toInt_inj] at *; omega))) (fun k9 q1 q2 q3 => (by first | omega | (simp only [Int32.lt_iff_toInt_lt, Int32.le_iff_toInt_le, Int32.reduceToInt, ← Int32.toInt_inj] at *; omega))))⟩
                  obtain ⟨g_7483, hf_7481, ok_7485, eg_7486⟩ : ∃ g9, f_7480 (q 14) = aI E 2076 g9 ∧ FOK g9 ∧ g9 = upd g_7208 (v_5215 : Int32).toNatClampNeg v_5201 := ⟨_, hf_7481, (rr_7210.1.up (by first | omega | (simp only [Int32.lt_iff_toInt_lt, Int32.le_iff_toInt_le, Int32.reduceToInt, ← Int32.toInt_inj, true_and, and_true, or_true, true_or, false_or, or_false, false_and, and_false, not_true_eq_false, not_false_eq_true] <;> omega)) (fun q1 q2 => (by first | omega | (simp only [Int32.lt_iff_toInt_lt, Int32.le_iff_toInt_le, Int32.reduceToInt, ← Int32.toInt_inj] at *; omega))) (fun k9 q1 q2 q3 => (by first | omega | (simp only [Int32.lt_iff_toInt_lt, Int32.le_iff_toInt_le, Int32.reduceToInt, ← Int32.toInt_inj] at *; omega)))), rfl⟩
                  have hf_7487 := (hk_7482 a_0 (ne_kd e_7446 hf_7445 rfl)).trans e_7446
                  have fr_7488 := FR.w hk_7482 hf_7445 (k := 2176) rfl
                  have g2_7489 : (g_7483 2).toInt = (g_f 2).toInt := by rw [← rr_7210.2.2.2.2, eg_7486]; unfold upd; rw [if_neg (by rw [clamp_t]; omega)]
                  refine v_aload_n hC dX12_readRow_175 rfl ?_
                  refine v_get hC fl_X12_34 m_1 hf_7487 rfl dX12_readRow_176 ?_
                  refine v_iconst hC dX12_readRow_179 (v := 2) (by decide) ?_
                  refine v_dup2 hC dX12_readRow_180 rfl rfl ?_
                  refine v_iald hC m_22 hf_7481 (vp_in_iff.mpr (by decide)) (v := g_7483 2) rfl dX12_readRow_181 ?_
                  refine v_iconst hC dX12_readRow_182 (v := 1) (by decide) ?_
                  obtain ⟨v_7490, h_7491⟩ : ∃ v9 : Int32, (g_7483 2) + 1 = v9 := ⟨_, rfl⟩
                  refine v_iadd hC dX12_readRow_183 h_7491 ?_
                  refine v_iast hC m_22 hf_7481 (vp_in_iff.mpr (by decide)) dX12_readRow_184 (fun f_7493 hf_7494 hk_7495 => ?_)
                  have hW_7497 := hW_7484.up hf_7494 hk_7495 t_23 ⟨_, rfl, (ok_7485.up (i := 2) (by decide) (fun q1 q2 => absurd (And.intro q1 q2) (by decide)) (fun k9 q1 q2 q3 => by simp only [Int32.reduceToInt] at q3; omega))⟩
                  obtain ⟨g_7496, hf_7494, ok_7498, eg_7499⟩ : ∃ g9, f_7493 (q 14) = aI E 2076 g9 ∧ FOK g9 ∧ g9 = upd g_7483 (2 : Int32).toNatClampNeg v_7490 := ⟨_, hf_7494, (ok_7485.up (i := 2) (by decide) (fun q1 q2 => absurd (And.intro q1 q2) (by decide)) (fun k9 q1 q2 q3 => by simp only [Int32.reduceToInt] at q3; omega)), rfl⟩
                  have hf_7500 := (hk_7495 a_0 (ne_kd hf_7487 hf_7481 rfl)).trans hf_7487
                  have fr_7501 := FR.w hk_7495 hf_7481 (k := 2176) rfl
                  have rf_7502 := rr_7210.fin eg_7486 eg_7499 (by omega) (by omega) (by omega) (by omega)
                  have rf_7502_t := rf_7502.2.2.2.2
                  refine v_aload_n hC dX12_readRow_185 rfl ?_
                  refine v_vv hC (rest := []) m_1 hf_7500 rfl mi_X12_advance ms_X12_advance (p_X12_advance hW_7497 k_0) mx_X12_advance ml_X12_156 (by decide) rfl (cells1 := 0) (slots1 := 0) (by decide) (by decide) (Nat.le_of_ble_eq_true rfl) (Nat.le_of_ble_eq_true rfl) rfl (Nat.le_of_ble_eq_true rfl) dX12_readRow_186 (fun L_7504 f_7505 h_7506 => ?_)
                  obtain ⟨rfl, hW_7511, hF_7512, x_7507, x_7508, x_7509, x_7510⟩ := h_7506
                  have fe_7513 : fld (f_7493 a_0) 8 = (v_7452 : Int32).toInt := by rw [hf_7500]; rfl
                  have fe_7514 : fld (f_7493 a_0) 12 = (v_7459 : Int32).toInt := by rw [hf_7500]; rfl
                  have fe_7515 : fld (f_7493 a_0) 20 = (v_7463 : Int32).toInt := by rw [hf_7500]; rfl
                  have hf_7516 := hF_7512.at hf_7494 rfl
                  obtain ⟨v_7518, v_7519, v_7521, v_7523, v_7525, v_7527, v_7529, v_7530, v_7531, v_7532, v_7534, e_7517, b_7520, b_7522, b_7524, b_7526, b_7528, b_7533, b_7535⟩ := hW_7511.at m_1 t_2
                  have fe_7536 : fld (f_7505 a_0) 8 = (v_7523 : Int32).toInt := by rw [e_7517]; rfl
                  have fe_7537 : fld (f_7505 a_0) 9 = (v_7525 : Int32).toInt := by rw [e_7517]; rfl
                  have fe_7538 : fld (f_7505 a_0) 10 = (v_7527 : Int32).toInt := by rw [e_7517]; rfl
                  have fe_7539 : fld (f_7505 a_0) 12 = (v_7530 : Int32).toInt := by rw [e_7517]; rfl
                  have fe_7540 : fld (f_7505 a_0) 20 = (v_7534 : Int32).toInt := by rw [e_7517]; rfl
                  rw [fe_7513, fe_7537, fe_7536] at x_7507
                  rw [fe_7538, fe_7537, fe_7536] at x_7508
                  rw [fe_7539, fe_7514] at x_7509
                  rw [fe_7540, fe_7515] at x_7510
                  clear fe_7513 fe_7514 fe_7515 fe_7536 fe_7537 fe_7538 fe_7539 fe_7540
                  refine v_aload_n hC dX12_readRow_189 rfl ?_
                  refine v_vv hC (rest := []) m_1 e_7517 rfl mi_X12_ends ms_X12_ends (p_X12_ends hW_7511 k_0) mx_X12_ends ml_X12_178 (by decide) rfl (cells1 := 0) (slots1 := 0) (by decide) (by decide) (Nat.le_of_ble_eq_true rfl) (Nat.le_of_ble_eq_true rfl) rfl (Nat.le_of_ble_eq_true rfl) dX12_readRow_190 (fun L_7542 f_7543 h_7544 => ?_)
                  obtain ⟨rfl, hW_7549, hF_7550, x_7545, x_7546, x_7547, x_7548⟩ := h_7544
                  have fe_7551 : fld (f_7505 a_0) 8 = (v_7523 : Int32).toInt := by rw [e_7517]; rfl
                  have fe_7552 : fld (f_7505 a_0) 10 = (v_7527 : Int32).toInt := by rw [e_7517]; rfl
                  have fe_7553 : fld (f_7505 a_0) 12 = (v_7530 : Int32).toInt := by rw [e_7517]; rfl
                  have fe_7554 : fld (f_7505 a_0) 20 = (v_7534 : Int32).toInt := by rw [e_7517]; rfl
                  have hf_7555 := hF_7550.at hf_7516 rfl
                  obtain ⟨v_7557, v_7558, v_7560, v_7562, v_7564, v_7566, v_7568, v_7569, v_7570, v_7571, v_7573, e_7556, b_7559, b_7561, b_7563, b_7565, b_7567, b_7572, b_7574⟩ := hW_7549.at m_1 t_2
                  have fe_7575 : fld (f_7543 a_0) 8 = (v_7562 : Int32).toInt := by rw [e_7556]; rfl
                  have fe_7576 : fld (f_7543 a_0) 9 = (v_7564 : Int32).toInt := by rw [e_7556]; rfl
                  have fe_7577 : fld (f_7543 a_0) 10 = (v_7566 : Int32).toInt := by rw [e_7556]; rfl
                  have fe_7578 : fld (f_7543 a_0) 12 = (v_7569 : Int32).toInt := by rw [e_7556]; rfl
                  have fe_7579 : fld (f_7543 a_0) 20 = (v_7573 : Int32).toInt := by rw [e_7556]; rfl
                  rw [fe_7578, fe_7553] at x_7545
                  rw [fe_7578, fe_7552, fe_7551, fe_7576, fe_7575] at x_7546
                  rw [fe_7578, fe_7577, fe_7576, fe_7575] at x_7547
                  rw [fe_7579, fe_7554] at x_7548
                  clear fe_7551 fe_7552 fe_7553 fe_7554 fe_7575 fe_7576 fe_7577 fe_7578 fe_7579
                  have fe_7580 : fld (f_7543 a_0) 12 = (v_7569 : Int32).toInt := by rw [e_7556]; rfl
                  have fe_7581 : fld (f_7543 a_0) 8 = (v_7562 : Int32).toInt := by rw [e_7556]; rfl
                  have fe_7582 : fld (f_7543 a_0) 12 = (v_7569 : Int32).toInt := by rw [e_7556]; rfl
                  have fe_7583 : fld (f_7543 a_0) 20 = (v_7573 : Int32).toInt := by rw [e_7556]; rfl
                  exact hR _ _ _ _ _ _ dX12_readRow_193 (Nat.le_of_ble_eq_true rfl) (Nat.le_of_ble_eq_true rfl) ⟨rfl, hW_7549, ((((((((hF_5130.tr hF_5169).tr hF_7197).tr hF_7440).tr fr_7488).tr fr_7501).tr hF_7512).tr hF_7550).mono rfl), ⟨_, hf_7555, rf_7502.1, rf_7502.2.1, rf_7502.2.2.1, rf_7502.2.2.2.1, (by rw [fe_7580]; first | (left; omega) | (right; omega) | omega)⟩, (by simp only [fe_7581, fe_7582, mz_43, mz_44, true_and, and_true, or_true, true_or, false_or, or_false, false_and, and_false, not_true_eq_false, not_false_eq_true] <;> first | omega | (simp only [Int32.lt_iff_toInt_lt, Int32.le_iff_toInt_le, Int32.reduceToInt, ← Int32.toInt_inj, true_and, and_true, or_true, true_or, false_or, or_false, false_and, and_false, not_true_eq_false, not_false_eq_true] <;> omega)), (by simp only [fe_7583, mz_45, true_and, and_true, or_true, true_or, false_or, or_false, false_and, and_false, not_true_eq_false, not_false_eq_true] <;> first | omega | (simp only [Int32.lt_iff_toInt_lt, Int32.le_iff_toInt_le, Int32.reduceToInt, ← Int32.toInt_inj, true_and, and_true, or_true, true_or, false_or, or_false, false_and, and_false, not_true_eq_false, not_false_eq_true] <;> omega))⟩
                · simp only [Int32.lt_iff_toInt_lt, Int32.le_iff_toInt_le, Int32.reduceToInt, ← Int32.toInt_inj] at h_7479
                  have fe_7584 : fld (f_7432 a_0) 12 = (v_7459 : Int32).toInt := by rw [e_7446]; rfl
                  have fe_7585 : fld (f_7432 a_0) 8 = (v_7452 : Int32).toInt := by rw [e_7446]; rfl
                  have fe_7586 : fld (f_7432 a_0) 12 = (v_7459 : Int32).toInt := by rw [e_7446]; rfl
                  have fe_7587 : fld (f_7432 a_0) 20 = (v_7463 : Int32).toInt := by rw [e_7446]; rfl
                  exact hR _ _ _ _ _ _ dX12_readRow_167 (Nat.le_of_ble_eq_true rfl) (Nat.le_of_ble_eq_true rfl) ⟨rfl, hW_7439, ((((hF_5130.tr hF_5169).tr hF_7197).tr hF_7440).mono rfl), ⟨_, hf_7445, rr_7210.1, rr_7210.2.1, rr_7210.2.2.1, rr_7210.2.2.2.1, (by rw [fe_7584]; first | (left; omega) | (right; omega) | omega)⟩, (by simp only [fe_7585, fe_7586, mz_43, mz_44, true_and, and_true, or_true, true_or, false_or, or_false, false_and, and_false, not_true_eq_false, not_false_eq_true] <;> first | omega | (simp only [Int32.lt_iff_toInt_lt, Int32.le_iff_toInt_le, Int32.reduceToInt, ← Int32.toInt_inj, true_and, and_true, or_true, true_or, false_or, or_false, false_and, and_false, not_true_eq_false, not_false_eq_true] <;> omega)), (by simp only [fe_7587, mz_45, true_and, and_true, or_true, true_or, false_or, or_false, false_and, and_false, not_true_eq_false, not_false_eq_true] <;> first | omega | (simp only [Int32.lt_iff_toInt_lt, Int32.le_iff_toInt_le, Int32.reduceToInt, ← Int32.toInt_inj, true_and, and_true, or_true, true_or, false_or, or_false, false_and, and_false, not_true_eq_false, not_false_eq_true] <;> omega))⟩
            refine v_icmp_ge hC dX12_readRow_80 (tgt := 151) (by decide) (fun h_7211 => ?_) (fun h_7211 => ?_)
            · simp only [Int32.lt_iff_toInt_lt, Int32.le_iff_toInt_le, Int32.reduceToInt, ← Int32.toInt_inj] at h_7211
              refine v_pick [1, 2, 3, 4] rfl ?_
              exact jn_7310 
            · simp only [Int32.lt_iff_toInt_lt, Int32.le_iff_toInt_le, Int32.reduceToInt, ← Int32.toInt_inj] at h_7211
              refine v_iload_n hC dX12_readRow_83 rfl ?_
              refine v_if_eq hC dX12_readRow_84 (tgt := 151) (by decide) (fun h_7588 => ?_) (fun h_7588 => ?_)
              · simp only [Int32.lt_iff_toInt_lt, Int32.le_iff_toInt_le, Int32.reduceToInt, ← Int32.toInt_inj] at h_7588
                refine v_pick [1, 2, 3, 4] rfl ?_
                exact jn_7310 
              · simp only [Int32.lt_iff_toInt_lt, Int32.le_iff_toInt_le, Int32.reduceToInt, ← Int32.toInt_inj] at h_7588
                refine v_aload_n hC dX12_readRow_87 rfl ?_
                refine v_vi hC (rest := []) m_1 hf_7198 rfl mi_X12_good ms_X12_good (p_X12_good hW_7196 k_0) mx_X12_good ml_X12_139 (by decide) rfl (cells1 := 0) (slots1 := 0) (by decide) (by decide) (Nat.le_of_ble_eq_true rfl) (Nat.le_of_ble_eq_true rfl) rfl (Nat.le_of_ble_eq_true rfl) dX12_readRow_88 (fun r_7589 L_7590 f_7591 h_7592 => ?_)
                obtain ⟨rfl, rfl, b_7593, x_7594⟩ := h_7592
                have fe_7597 : fld (f_7195 a_0) 12 = (v_5190 : Int32).toInt := by rw [hf_7198]; rfl
                rw [fe_7597] at x_7594
                clear fe_7597
                try simp only [Int32.reduceToInt, Int64.reduceToInt] at x_7594
                refine v_if_eq hC dX12_readRow_91 (tgt := 151) (by decide) (fun h_7598 => ?_) (fun h_7598 => ?_)
                · simp only [Int32.lt_iff_toInt_lt, Int32.le_iff_toInt_le, Int32.reduceToInt, ← Int32.toInt_inj] at h_7598
                  refine v_pick [1, 2, 3, 4] rfl ?_
                  exact jn_7310 
                · simp only [Int32.lt_iff_toInt_lt, Int32.le_iff_toInt_le, Int32.reduceToInt, ← Int32.toInt_inj] at h_7598
                  refine v_aload_n hC dX12_readRow_94 rfl ?_
                  refine v_get hC fl_X12_24 m_1 hf_7198 rfl dX12_readRow_95 ?_
                  refine v_aload_n hC dX12_readRow_98 rfl ?_
                  refine v_get hC fl_X12_117 m_1 hf_7198 rfl dX12_readRow_99 ?_
                  refine v_iload hC dX12_readRow_102 rfl ?_
                  obtain ⟨v_7599, h_7600⟩ : ∃ v9 : Int32, v_5185 + i_7193 = v9 := ⟨_, rfl⟩
                  refine v_iadd hC dX12_readRow_104 h_7600 ?_
                  have h_7601 := add_v h_7600 (by first | omega | (simp only [Int32.lt_iff_toInt_lt, Int32.le_iff_toInt_le, Int32.reduceToInt, ← Int32.toInt_inj, true_and, and_true, or_true, true_or, false_or, or_false, false_and, and_false, not_true_eq_false, not_false_eq_true] <;> omega)) (by first | omega | (simp only [Int32.lt_iff_toInt_lt, Int32.le_iff_toInt_le, Int32.reduceToInt, ← Int32.toInt_inj, true_and, and_true, or_true, true_or, false_or, or_false, false_and, and_false, not_true_eq_false, not_false_eq_true] <;> omega))
                  obtain ⟨m_7602, t_7603⟩ := id k_6
                  obtain ⟨g_7605, e_7604, fit_7606⟩ := hW_7196.at m_7602 t_7603
                  obtain ⟨v_7607, h_7608⟩ : ∃ v9 : Int32, g_7605 (v_7599 : Int32).toNatClampNeg = v9 := ⟨_, rfl⟩
                  refine v_bald hC m_7602 e_7604 (vp_in_iff.mpr (by first | omega | (simp only [Int32.lt_iff_toInt_lt, Int32.le_iff_toInt_le, Int32.reduceToInt, ← Int32.toInt_inj, true_and, and_true, or_true, true_or, false_or, or_false, false_and, and_false, not_true_eq_false, not_false_eq_true] <;> omega))) h_7608 dX12_readRow_105 ?_
                  refine v_si hC (rest := []) mt_X12_signOf (p_X12_signOf hW_7196) mx_X12_signOf ml_X12_175 (by decide) rfl (cells1 := 0) (slots1 := 0) (by decide) (by decide) (Nat.le_of_ble_eq_true rfl) (Nat.le_of_ble_eq_true rfl) rfl (Nat.le_of_ble_eq_true rfl) dX12_readRow_106 (fun r_7609 L_7610 f_7611 h_7612 => ?_)
                  obtain ⟨rfl, rfl, b_7613, h_7614⟩ := h_7612
                  refine v_iconst hC dX12_readRow_109 (v := (-1)) (by decide) ?_
                  refine v_icmp_eq hC dX12_readRow_110 (tgt := 117) (by decide) (fun h_7617 => ?_) (fun h_7617 => ?_)
                  · simp only [Int32.lt_iff_toInt_lt, Int32.le_iff_toInt_le, Int32.reduceToInt, ← Int32.toInt_inj] at h_7617
                    refine v_iconst hC dX12_readRow_117 (v := 0) (by decide) ?_
                    refine v_istore_n hC dX12_readRow_118 (by decide) (lv' := [(2, .int 0), (4, .int i_7193), (3, .int v_5215), (1, .int v_5201), (0, .ref a_0)]) rfl ?_
                    refine v_aload_n hC dX12_readRow_119 rfl ?_
                    refine v_get hC fl_X12_34 m_1 hf_7198 rfl dX12_readRow_120 ?_
                    refine v_iload_n hC dX12_readRow_123 rfl ?_
                    refine v_iconst hC dX12_readRow_124 (v := 1) (by decide) ?_
                    obtain ⟨v_7618, h_7619⟩ : ∃ v9 : Int32, v_5215 + 1 = v9 := ⟨_, rfl⟩
                    refine v_iadd hC dX12_readRow_125 h_7619 ?_
                    have h_7620 := add_v h_7619 (by first | omega | (simp only [Int32.lt_iff_toInt_lt, Int32.le_iff_toInt_le, Int32.reduceToInt, ← Int32.toInt_inj, true_and, and_true, or_true, true_or, false_or, or_false, false_and, and_false, not_true_eq_false, not_false_eq_true] <;> omega)) (by first | omega | (simp only [Int32.lt_iff_toInt_lt, Int32.le_iff_toInt_le, Int32.reduceToInt, ← Int32.toInt_inj, true_and, and_true, or_true, true_or, false_or, or_false, false_and, and_false, not_true_eq_false, not_false_eq_true] <;> omega))
                    try simp only [Int32.reduceToInt] at h_7620
                    refine v_iload hC dX12_readRow_126 rfl ?_
                    obtain ⟨v_7621, h_7622⟩ : ∃ v9 : Int32, v_7618 + i_7193 = v9 := ⟨_, rfl⟩
                    refine v_iadd hC dX12_readRow_128 h_7622 ?_
                    have h_7623 := add_v h_7622 (by first | omega | (simp only [Int32.lt_iff_toInt_lt, Int32.le_iff_toInt_le, Int32.reduceToInt, ← Int32.toInt_inj, true_and, and_true, or_true, true_or, false_or, or_false, false_and, and_false, not_true_eq_false, not_false_eq_true] <;> omega)) (by first | omega | (simp only [Int32.lt_iff_toInt_lt, Int32.le_iff_toInt_le, Int32.reduceToInt, ← Int32.toInt_inj, true_and, and_true, or_true, true_or, false_or, or_false, false_and, and_false, not_true_eq_false, not_false_eq_true] <;> omega))
                    refine v_aload_n hC dX12_readRow_129 rfl ?_
                    refine v_get hC fl_X12_24 m_1 hf_7198 rfl dX12_readRow_130 ?_
                    refine v_aload_n hC dX12_readRow_133 rfl ?_
                    refine v_get hC fl_X12_117 m_1 hf_7198 rfl dX12_readRow_134 ?_
                    refine v_iload hC dX12_readRow_137 rfl ?_
                    obtain ⟨v_7624, h_7625⟩ : ∃ v9 : Int32, v_5185 + i_7193 = v9 := ⟨_, rfl⟩
                    refine v_iadd hC dX12_readRow_139 h_7625 ?_
                    have h_7626 := add_v h_7625 (by first | omega | (simp only [Int32.lt_iff_toInt_lt, Int32.le_iff_toInt_le, Int32.reduceToInt, ← Int32.toInt_inj, true_and, and_true, or_true, true_or, false_or, or_false, false_and, and_false, not_true_eq_false, not_false_eq_true] <;> omega)) (by first | omega | (simp only [Int32.lt_iff_toInt_lt, Int32.le_iff_toInt_le, Int32.reduceToInt, ← Int32.toInt_inj, true_and, and_true, or_true, true_or, false_or, or_false, false_and, and_false, not_true_eq_false, not_false_eq_true] <;> omega))
                    obtain ⟨v_7627, h_7628⟩ : ∃ v9 : Int32, g_7605 (v_7624 : Int32).toNatClampNeg = v9 := ⟨_, rfl⟩
                    refine v_bald hC m_7602 e_7604 (vp_in_iff.mpr (by first | omega | (simp only [Int32.lt_iff_toInt_lt, Int32.le_iff_toInt_le, Int32.reduceToInt, ← Int32.toInt_inj, true_and, and_true, or_true, true_or, false_or, or_false, false_and, and_false, not_true_eq_false, not_false_eq_true] <;> omega))) h_7628 dX12_readRow_140 ?_
                    refine v_si hC (rest := [.int v_7621, .ref (q 14)]) mt_X12_signOf (p_X12_signOf hW_7196) mx_X12_signOf ml_X12_175 (by decide) rfl (cells1 := 0) (slots1 := 0) (by decide) (by decide) (Nat.le_of_ble_eq_true rfl) (Nat.le_of_ble_eq_true rfl) rfl (Nat.le_of_ble_eq_true rfl) dX12_readRow_141 (fun r_7629 L_7630 f_7631 h_7632 => ?_)
                    obtain ⟨rfl, rfl, b_7633, h_7634⟩ := h_7632
                    refine v_iast hC m_22 e_7209 (vp_in_iff.mpr (by first | omega | (simp only [Int32.lt_iff_toInt_lt, Int32.le_iff_toInt_le, Int32.reduceToInt, ← Int32.toInt_inj, true_and, and_true, or_true, true_or, false_or, or_false, false_and, and_false, not_true_eq_false, not_false_eq_true] <;> omega))) dX12_readRow_144 (fun f_7637 hf_7638 hk_7639 => ?_)
                    have hW_7641 := hW_7196.up hf_7638 hk_7639 t_23 ⟨_, rfl, (rr_7210.st (j := i_7193.toInt) (by omega) (by omega) (by omega) (by omega)).1⟩
                    obtain ⟨g_7640, hf_7638, ok_7642, eg_7643⟩ : ∃ g9, f_7637 (q 14) = aI E 2076 g9 ∧ FOK g9 ∧ g9 = upd g_7208 (v_7621 : Int32).toNatClampNeg r_7629 := ⟨_, hf_7638, (rr_7210.st (j := i_7193.toInt) (by omega) (by omega) (by omega) (by omega)).1, rfl⟩
                    have hf_7644 := (hk_7639 a_0 (ne_kd hf_7198 e_7209 rfl)).trans hf_7198
                    have hf_7645 := (hk_7639 (q 4) (ne_kd e_7604 e_7209 rfl)).trans e_7604
                    have fr_7646 := FR.w hk_7639 e_7209 (k := 2176) rfl
                    have rr_7647 : RR g_f g_7640 := by rw [eg_7643]; exact rr_7210.st (j := i_7193.toInt) (by omega) (by omega) (by omega) (by omega)
                    obtain ⟨v_7648, h_7649⟩ : ∃ v9 : Int32, i_7193 + Int32.ofInt 1 = v9 := ⟨_, rfl⟩
                    have h_7650 := add_v (b := 1) h_7649 (by first | omega | (simp only [Int32.lt_iff_toInt_lt, Int32.le_iff_toInt_le, Int32.reduceToInt, ← Int32.toInt_inj, true_and, and_true, or_true, true_or, false_or, or_false, false_and, and_false, not_true_eq_false, not_false_eq_true] <;> omega)) (by first | omega | (simp only [Int32.lt_iff_toInt_lt, Int32.le_iff_toInt_le, Int32.reduceToInt, ← Int32.toInt_inj, true_and, and_true, or_true, true_or, false_or, or_false, false_and, and_false, not_true_eq_false, not_false_eq_true] <;> omega))
                    simp only [Int32.reduceToInt] at h_7650
                    refine v_iinc hC dX12_readRow_145 (k := 1) rfl (v := v_7648) h_7649 (by decide) (lv' := [(4, .int v_7648), (2, .int 0), (3, .int v_5215), (1, .int v_5201), (0, .ref a_0)]) rfl ?_
                    refine v_goto hC dX12_readRow_148 (tgt := 77) (by decide) ?_
                    refine v_pick [0, 2, 1, 3, 4] rfl ?_
                    have fe_7651 : fld (f_7637 a_0) 10 = (v_5187 : Int32).toInt := by rw [hf_7644]; rfl
                    exact ih_7205 f_7637 hW_7641 ((hF_7197.tr fr_7646).mono rfl) v_7648 (by first | omega | (simp only [Int32.lt_iff_toInt_lt, Int32.le_iff_toInt_le, Int32.reduceToInt, ← Int32.toInt_inj, true_and, and_true, or_true, true_or, false_or, or_false, false_and, and_false, not_true_eq_false, not_false_eq_true] <;> omega)) 0 (by decide) (by rw [fe_7651] <;> first | omega | (simp only [Int32.lt_iff_toInt_lt, Int32.le_iff_toInt_le, Int32.reduceToInt, ← Int32.toInt_inj, true_and, and_true, or_true, true_or, false_or, or_false, false_and, and_false, not_true_eq_false, not_false_eq_true] <;> omega)) ⟨_, hf_7638, rr_7647⟩ (by first | omega | (simp only [Int32.lt_iff_toInt_lt, Int32.le_iff_toInt_le, Int32.reduceToInt, ← Int32.toInt_inj, true_and, and_true, or_true, true_or, false_or, or_false, false_and, and_false, not_true_eq_false, not_false_eq_true] <;> omega))
                  · simp only [Int32.lt_iff_toInt_lt, Int32.le_iff_toInt_le, Int32.reduceToInt, ← Int32.toInt_inj] at h_7617
                    refine v_iconst hC dX12_readRow_113 (v := 1) (by decide) ?_
                    refine v_goto hC dX12_readRow_114 (tgt := 118) (by decide) ?_
                    refine v_istore_n hC dX12_readRow_118 (by decide) (lv' := [(2, .int 1), (4, .int i_7193), (3, .int v_5215), (1, .int v_5201), (0, .ref a_0)]) rfl ?_
                    refine v_aload_n hC dX12_readRow_119 rfl ?_
                    refine v_get hC fl_X12_34 m_1 hf_7198 rfl dX12_readRow_120 ?_
                    refine v_iload_n hC dX12_readRow_123 rfl ?_
                    refine v_iconst hC dX12_readRow_124 (v := 1) (by decide) ?_
                    obtain ⟨v_7652, h_7653⟩ : ∃ v9 : Int32, v_5215 + 1 = v9 := ⟨_, rfl⟩
                    refine v_iadd hC dX12_readRow_125 h_7653 ?_
                    have h_7654 := add_v h_7653 (by first | omega | (simp only [Int32.lt_iff_toInt_lt, Int32.le_iff_toInt_le, Int32.reduceToInt, ← Int32.toInt_inj, true_and, and_true, or_true, true_or, false_or, or_false, false_and, and_false, not_true_eq_false, not_false_eq_true] <;> omega)) (by first | omega | (simp only [Int32.lt_iff_toInt_lt, Int32.le_iff_toInt_le, Int32.reduceToInt, ← Int32.toInt_inj, true_and, and_true, or_true, true_or, false_or, or_false, false_and, and_false, not_true_eq_false, not_false_eq_true] <;> omega))
                    try simp only [Int32.reduceToInt] at h_7654
                    refine v_iload hC dX12_readRow_126 rfl ?_
                    obtain ⟨v_7655, h_7656⟩ : ∃ v9 : Int32, v_7652 + i_7193 = v9 := ⟨_, rfl⟩
                    refine v_iadd hC dX12_readRow_128 h_7656 ?_
                    have h_7657 := add_v h_7656 (by first | omega | (simp only [Int32.lt_iff_toInt_lt, Int32.le_iff_toInt_le, Int32.reduceToInt, ← Int32.toInt_inj, true_and, and_true, or_true, true_or, false_or, or_false, false_and, and_false, not_true_eq_false, not_false_eq_true] <;> omega)) (by first | omega | (simp only [Int32.lt_iff_toInt_lt, Int32.le_iff_toInt_le, Int32.reduceToInt, ← Int32.toInt_inj, true_and, and_true, or_true, true_or, false_or, or_false, false_and, and_false, not_true_eq_false, not_false_eq_true] <;> omega))
                    refine v_aload_n hC dX12_readRow_129 rfl ?_
                    refine v_get hC fl_X12_24 m_1 hf_7198 rfl dX12_readRow_130 ?_
                    refine v_aload_n hC dX12_readRow_133 rfl ?_
                    refine v_get hC fl_X12_117 m_1 hf_7198 rfl dX12_readRow_134 ?_
                    refine v_iload hC dX12_readRow_137 rfl ?_
                    obtain ⟨v_7658, h_7659⟩ : ∃ v9 : Int32, v_5185 + i_7193 = v9 := ⟨_, rfl⟩
                    refine v_iadd hC dX12_readRow_139 h_7659 ?_
                    have h_7660 := add_v h_7659 (by first | omega | (simp only [Int32.lt_iff_toInt_lt, Int32.le_iff_toInt_le, Int32.reduceToInt, ← Int32.toInt_inj, true_and, and_true, or_true, true_or, false_or, or_false, false_and, and_false, not_true_eq_false, not_false_eq_true] <;> omega)) (by first | omega | (simp only [Int32.lt_iff_toInt_lt, Int32.le_iff_toInt_le, Int32.reduceToInt, ← Int32.toInt_inj, true_and, and_true, or_true, true_or, false_or, or_false, false_and, and_false, not_true_eq_false, not_false_eq_true] <;> omega))
                    obtain ⟨v_7661, h_7662⟩ : ∃ v9 : Int32, g_7605 (v_7658 : Int32).toNatClampNeg = v9 := ⟨_, rfl⟩
                    refine v_bald hC m_7602 e_7604 (vp_in_iff.mpr (by first | omega | (simp only [Int32.lt_iff_toInt_lt, Int32.le_iff_toInt_le, Int32.reduceToInt, ← Int32.toInt_inj, true_and, and_true, or_true, true_or, false_or, or_false, false_and, and_false, not_true_eq_false, not_false_eq_true] <;> omega))) h_7662 dX12_readRow_140 ?_
                    refine v_si hC (rest := [.int v_7655, .ref (q 14)]) mt_X12_signOf (p_X12_signOf hW_7196) mx_X12_signOf ml_X12_175 (by decide) rfl (cells1 := 0) (slots1 := 0) (by decide) (by decide) (Nat.le_of_ble_eq_true rfl) (Nat.le_of_ble_eq_true rfl) rfl (Nat.le_of_ble_eq_true rfl) dX12_readRow_141 (fun r_7663 L_7664 f_7665 h_7666 => ?_)
                    obtain ⟨rfl, rfl, b_7667, h_7668⟩ := h_7666
                    refine v_iast hC m_22 e_7209 (vp_in_iff.mpr (by first | omega | (simp only [Int32.lt_iff_toInt_lt, Int32.le_iff_toInt_le, Int32.reduceToInt, ← Int32.toInt_inj, true_and, and_true, or_true, true_or, false_or, or_false, false_and, and_false, not_true_eq_false, not_false_eq_true] <;> omega))) dX12_readRow_144 (fun f_7671 hf_7672 hk_7673 => ?_)
                    have hW_7675 := hW_7196.up hf_7672 hk_7673 t_23 ⟨_, rfl, (rr_7210.st (j := i_7193.toInt) (by omega) (by omega) (by omega) (by omega)).1⟩
                    obtain ⟨g_7674, hf_7672, ok_7676, eg_7677⟩ : ∃ g9, f_7671 (q 14) = aI E 2076 g9 ∧ FOK g9 ∧ g9 = upd g_7208 (v_7655 : Int32).toNatClampNeg r_7663 := ⟨_, hf_7672, (rr_7210.st (j := i_7193.toInt) (by omega) (by omega) (by omega) (by omega)).1, rfl⟩
                    have hf_7678 := (hk_7673 a_0 (ne_kd hf_7198 e_7209 rfl)).trans hf_7198
                    have hf_7679 := (hk_7673 (q 4) (ne_kd e_7604 e_7209 rfl)).trans e_7604
                    have fr_7680 := FR.w hk_7673 e_7209 (k := 2176) rfl
                    have rr_7681 : RR g_f g_7674 := by rw [eg_7677]; exact rr_7210.st (j := i_7193.toInt) (by omega) (by omega) (by omega) (by omega)
                    obtain ⟨v_7682, h_7683⟩ : ∃ v9 : Int32, i_7193 + Int32.ofInt 1 = v9 := ⟨_, rfl⟩
                    have h_7684 := add_v (b := 1) h_7683 (by first | omega | (simp only [Int32.lt_iff_toInt_lt, Int32.le_iff_toInt_le, Int32.reduceToInt, ← Int32.toInt_inj, true_and, and_true, or_true, true_or, false_or, or_false, false_and, and_false, not_true_eq_false, not_false_eq_true] <;> omega)) (by first | omega | (simp only [Int32.lt_iff_toInt_lt, Int32.le_iff_toInt_le, Int32.reduceToInt, ← Int32.toInt_inj, true_and, and_true, or_true, true_or, false_or, or_false, false_and, and_false, not_true_eq_false, not_false_eq_true] <;> omega))
                    simp only [Int32.reduceToInt] at h_7684
                    refine v_iinc hC dX12_readRow_145 (k := 1) rfl (v := v_7682) h_7683 (by decide) (lv' := [(4, .int v_7682), (2, .int 1), (3, .int v_5215), (1, .int v_5201), (0, .ref a_0)]) rfl ?_
                    refine v_goto hC dX12_readRow_148 (tgt := 77) (by decide) ?_
                    refine v_pick [0, 2, 1, 3, 4] rfl ?_
                    have fe_7685 : fld (f_7671 a_0) 10 = (v_5187 : Int32).toInt := by rw [hf_7678]; rfl
                    exact ih_7205 f_7671 hW_7675 ((hF_7197.tr fr_7680).mono rfl) v_7682 (by first | omega | (simp only [Int32.lt_iff_toInt_lt, Int32.le_iff_toInt_le, Int32.reduceToInt, ← Int32.toInt_inj, true_and, and_true, or_true, true_or, false_or, or_false, false_and, and_false, not_true_eq_false, not_false_eq_true] <;> omega)) 1 (by decide) (by rw [fe_7685] <;> first | omega | (simp only [Int32.lt_iff_toInt_lt, Int32.le_iff_toInt_le, Int32.reduceToInt, ← Int32.toInt_inj, true_and, and_true, or_true, true_or, false_or, or_false, false_and, and_false, not_true_eq_false, not_false_eq_true] <;> omega)) ⟨_, hf_7672, rr_7681⟩ (by first | omega | (simp only [Int32.lt_iff_toInt_lt, Int32.le_iff_toInt_le, Int32.reduceToInt, ← Int32.toInt_inj, true_and, and_true, or_true, true_or, false_or, or_false, false_and, and_false, not_true_eq_false, not_false_eq_true] <;> omega))
        refine v_pick [0, 1, 2, 3, 4] rfl ?_
        have fe_7686 : fld (f_5162 a_0) 10 = (v_5187 : Int32).toInt := by rw [e_5177]; rfl
        exact lp_7203 602 f_5162 hW_5168 FR.rf 0 (by decide) v_5207 (by first | omega | (simp only [Int32.lt_iff_toInt_lt, Int32.le_iff_toInt_le, Int32.reduceToInt, ← Int32.toInt_inj, true_and, and_true, or_true, true_or, false_or, or_false, false_and, and_false, not_true_eq_false, not_false_eq_true] <;> omega)) (by rw [fe_7686] <;> first | omega | (simp only [Int32.lt_iff_toInt_lt, Int32.le_iff_toInt_le, Int32.reduceToInt, ← Int32.toInt_inj, true_and, and_true, or_true, true_or, false_or, or_false, false_and, and_false, not_true_eq_false, not_false_eq_true] <;> omega)) ⟨_, hf_5176, (RR.rf o_f hPR)⟩ (by decide)
      refine v_icmp_ne hC dX12_readRow_46 (tgt := 59) (by decide) (fun h_5204 => ?_) (fun h_5204 => ?_)
      · simp only [Int32.lt_iff_toInt_lt, Int32.le_iff_toInt_le, Int32.reduceToInt, ← Int32.toInt_inj] at h_5204
        refine v_iconst hC dX12_readRow_59 (v := 0) (by decide) ?_
        refine v_pick [0, 1] rfl ?_
        have fe_7687 : fld (f_5162 a_0) 10 = (v_5187 : Int32).toInt := by rw [e_5177]; rfl
        exact jn_5206 0 (by decide) (by rw [fe_7687] <;> first | omega | (simp only [Int32.lt_iff_toInt_lt, Int32.le_iff_toInt_le, Int32.reduceToInt, ← Int32.toInt_inj, true_and, and_true, or_true, true_or, false_or, or_false, false_and, and_false, not_true_eq_false, not_false_eq_true] <;> omega))
      · simp only [Int32.lt_iff_toInt_lt, Int32.le_iff_toInt_le, Int32.reduceToInt, ← Int32.toInt_inj] at h_5204
        refine v_iload_n hC dX12_readRow_49 rfl ?_
        refine v_bipush hC dX12_readRow_50 (v := 12) (by decide) ?_
        refine v_icmp_gt hC dX12_readRow_52 (tgt := 59) (by decide) (fun h_7688 => ?_) (fun h_7688 => ?_)
        · simp only [Int32.lt_iff_toInt_lt, Int32.le_iff_toInt_le, Int32.reduceToInt, ← Int32.toInt_inj] at h_7688
          refine v_iconst hC dX12_readRow_59 (v := 0) (by decide) ?_
          refine v_pick [0, 1] rfl ?_
          have fe_7689 : fld (f_5162 a_0) 10 = (v_5187 : Int32).toInt := by rw [e_5177]; rfl
          exact jn_5206 0 (by decide) (by rw [fe_7689] <;> first | omega | (simp only [Int32.lt_iff_toInt_lt, Int32.le_iff_toInt_le, Int32.reduceToInt, ← Int32.toInt_inj, true_and, and_true, or_true, true_or, false_or, or_false, false_and, and_false, not_true_eq_false, not_false_eq_true] <;> omega))
        · simp only [Int32.lt_iff_toInt_lt, Int32.le_iff_toInt_le, Int32.reduceToInt, ← Int32.toInt_inj] at h_7688
          refine v_iconst hC dX12_readRow_55 (v := 1) (by decide) ?_
          refine v_goto hC dX12_readRow_56 (tgt := 60) (by decide) ?_
          refine v_pick [0, 1] rfl ?_
          have fe_7690 : fld (f_5162 a_0) 10 = (v_5187 : Int32).toInt := by rw [e_5177]; rfl
          exact jn_5206 1 (by decide) (by rw [fe_7690] <;> first | omega | (simp only [Int32.lt_iff_toInt_lt, Int32.le_iff_toInt_le, Int32.reduceToInt, ← Int32.toInt_inj, true_and, and_true, or_true, true_or, false_or, or_false, false_and, and_false, not_true_eq_false, not_false_eq_true] <;> omega))
set_option maxRecDepth 100000 in
set_option maxHeartbeats 1500000 in
theorem p_X12_begin {l : Launch} {E : Ez} {L : List Nat} {f : Nat → va_E} {T : Nat → va_E → Prop} {a_0 : Nat} {q : Nat → Nat} (hW : WT T L f) (k_0 : isM T L E a_0 q) : CV l yX12_begin cX12_begin 1 0 0 0 E [.ref a_0] L f (fun L1 f1 => L = L1 ∧ WT T L f1 ∧ FR [12] f f1 ∧ fld (f1 a_0) 12 = 0 ∧ fld (f1 a_0) 8 = 0 ∧ fld (f1 a_0) 20 = fld (f a_0) 20) := by
  refine cv_of (by decide) (Nat.le_of_ble_eq_true rfl) (fun z hz hnm hC hR => ?_)
  have hC : Cx z E cX12_begin RX12 1 0 0 0 := hC
  subst hz
  show V z E 1 0 0 L f 0 [(0, .ref a_0)] []
  obtain ⟨m_1, t_2, nq_21, k_3, k_4, k_5, k_6, k_7, k_8, k_9, k_10, k_11, k_12, k_13, k_14, k_15, k_16, k_17, k_18, k_19, k_20⟩ := id k_0
  obtain ⟨v_23, v_24, v_26, v_28, v_30, v_32, v_34, v_35, v_36, v_37, v_39, e_22, b_25, b_27, b_29, b_31, b_33, b_38, b_40⟩ := hW.at m_1 t_2
  have mz_41 : fld (f a_0) 20 = v_39.toInt := by rw [e_22]; rfl
  refine v_aload_n hC dX12_begin_0 rfl ?_
  refine v_aload_n hC dX12_begin_1 rfl ?_
  refine v_get hC fl_X12_102 m_1 e_22 rfl dX12_begin_2 ?_
  refine v_put hC fl_X12_105 m_1 e_22 rfl rfl (Nat.le_of_ble_eq_true rfl) (fs' := [.int v_23, .ref (q 1), .ref (q 2), .ref (q 3), .ref (q 4), .int v_24, .ref (q 6), .int v_24, .int v_28, .int v_30, .int v_32, .int v_34, .int v_35, .int v_36, .ref (q 14), .ref (q 15), .ref (q 16), .int v_37, .ref (q 18), .ref (q 19), .int v_39, .ref (q 21), .ref (q 22), .ref (q 23), .ref (q 24), .ref (q 25), .ref (q 26), .ref (q 27), .ref (q 28)]) rfl dX12_begin_5 (fun f_42 hf_43 hk_44 => ?_)
  have hW_45 := hW.up hf_43 hk_44 t_2 ⟨v_23, v_24, v_24, v_28, v_30, v_32, v_34, v_35, v_36, v_37, v_39, rfl, (by first | omega | (simp only [Int32.lt_iff_toInt_lt, Int32.le_iff_toInt_le, Int32.reduceToInt, ← Int32.toInt_inj, true_and, and_true, or_true, true_or, false_or, or_false, false_and, and_false, not_true_eq_false, not_false_eq_true] <;> omega)), (by first | omega | (simp only [Int32.lt_iff_toInt_lt, Int32.le_iff_toInt_le, Int32.reduceToInt, ← Int32.toInt_inj, true_and, and_true, or_true, true_or, false_or, or_false, false_and, and_false, not_true_eq_false, not_false_eq_true] <;> omega)), (by first | omega | (simp only [Int32.lt_iff_toInt_lt, Int32.le_iff_toInt_le, Int32.reduceToInt, ← Int32.toInt_inj, true_and, and_true, or_true, true_or, false_or, or_false, false_and, and_false, not_true_eq_false, not_false_eq_true] <;> omega)), (by first | omega | (simp only [Int32.lt_iff_toInt_lt, Int32.le_iff_toInt_le, Int32.reduceToInt, ← Int32.toInt_inj, true_and, and_true, or_true, true_or, false_or, or_false, false_and, and_false, not_true_eq_false, not_false_eq_true] <;> omega)), (by first | omega | (simp only [Int32.lt_iff_toInt_lt, Int32.le_iff_toInt_le, Int32.reduceToInt, ← Int32.toInt_inj, true_and, and_true, or_true, true_or, false_or, or_false, false_and, and_false, not_true_eq_false, not_false_eq_true] <;> omega)), (by first | omega | (simp only [Int32.lt_iff_toInt_lt, Int32.le_iff_toInt_le, Int32.reduceToInt, ← Int32.toInt_inj, true_and, and_true, or_true, true_or, false_or, or_false, false_and, and_false, not_true_eq_false, not_false_eq_true] <;> omega)), (by first | omega | (simp only [Int32.lt_iff_toInt_lt, Int32.le_iff_toInt_le, Int32.reduceToInt, ← Int32.toInt_inj, true_and, and_true, or_true, true_or, false_or, or_false, false_and, and_false, not_true_eq_false, not_false_eq_true] <;> omega))⟩
  have fr_46 := FR.w hk_44 e_22 (k := 12) rfl
  refine v_aload_n hC dX12_begin_8 rfl ?_
  refine v_iconst hC dX12_begin_9 (v := 0) (by decide) ?_
  refine v_put hC fl_X12_102 m_1 hf_43 rfl rfl (Nat.le_of_ble_eq_true rfl) (fs' := [.int v_23, .ref (q 1), .ref (q 2), .ref (q 3), .ref (q 4), .int 0, .ref (q 6), .int v_24, .int v_28, .int v_30, .int v_32, .int v_34, .int v_35, .int v_36, .ref (q 14), .ref (q 15), .ref (q 16), .int v_37, .ref (q 18), .ref (q 19), .int v_39, .ref (q 21), .ref (q 22), .ref (q 23), .ref (q 24), .ref (q 25), .ref (q 26), .ref (q 27), .ref (q 28)]) rfl dX12_begin_10 (fun f_47 hf_48 hk_49 => ?_)
  have hW_50 := hW_45.up hf_48 hk_49 t_2 ⟨v_23, 0, v_24, v_28, v_30, v_32, v_34, v_35, v_36, v_37, v_39, rfl, (by decide), (by first | omega | (simp only [Int32.lt_iff_toInt_lt, Int32.le_iff_toInt_le, Int32.reduceToInt, ← Int32.toInt_inj, true_and, and_true, or_true, true_or, false_or, or_false, false_and, and_false, not_true_eq_false, not_false_eq_true] <;> omega)), (by first | omega | (simp only [Int32.lt_iff_toInt_lt, Int32.le_iff_toInt_le, Int32.reduceToInt, ← Int32.toInt_inj, true_and, and_true, or_true, true_or, false_or, or_false, false_and, and_false, not_true_eq_false, not_false_eq_true] <;> omega)), (by first | omega | (simp only [Int32.lt_iff_toInt_lt, Int32.le_iff_toInt_le, Int32.reduceToInt, ← Int32.toInt_inj, true_and, and_true, or_true, true_or, false_or, or_false, false_and, and_false, not_true_eq_false, not_false_eq_true] <;> omega)), (by first | omega | (simp only [Int32.lt_iff_toInt_lt, Int32.le_iff_toInt_le, Int32.reduceToInt, ← Int32.toInt_inj, true_and, and_true, or_true, true_or, false_or, or_false, false_and, and_false, not_true_eq_false, not_false_eq_true] <;> omega)), (by first | omega | (simp only [Int32.lt_iff_toInt_lt, Int32.le_iff_toInt_le, Int32.reduceToInt, ← Int32.toInt_inj, true_and, and_true, or_true, true_or, false_or, or_false, false_and, and_false, not_true_eq_false, not_false_eq_true] <;> omega)), (by first | omega | (simp only [Int32.lt_iff_toInt_lt, Int32.le_iff_toInt_le, Int32.reduceToInt, ← Int32.toInt_inj, true_and, and_true, or_true, true_or, false_or, or_false, false_and, and_false, not_true_eq_false, not_false_eq_true] <;> omega))⟩
  have fr_51 := FR.w hk_49 hf_43 (k := 12) rfl
  refine v_aload_n hC dX12_begin_13 rfl ?_
  refine v_iconst hC dX12_begin_14 (v := 0) (by decide) ?_
  refine v_put hC fl_X12_108 m_1 hf_48 rfl rfl (Nat.le_of_ble_eq_true rfl) (fs' := [.int v_23, .ref (q 1), .ref (q 2), .ref (q 3), .ref (q 4), .int 0, .ref (q 6), .int v_24, .int 0, .int v_30, .int v_32, .int v_34, .int v_35, .int v_36, .ref (q 14), .ref (q 15), .ref (q 16), .int v_37, .ref (q 18), .ref (q 19), .int v_39, .ref (q 21), .ref (q 22), .ref (q 23), .ref (q 24), .ref (q 25), .ref (q 26), .ref (q 27), .ref (q 28)]) rfl dX12_begin_15 (fun f_52 hf_53 hk_54 => ?_)
  have hW_55 := hW_50.up hf_53 hk_54 t_2 ⟨v_23, 0, v_24, 0, v_30, v_32, v_34, v_35, v_36, v_37, v_39, rfl, (by decide), (by first | omega | (simp only [Int32.lt_iff_toInt_lt, Int32.le_iff_toInt_le, Int32.reduceToInt, ← Int32.toInt_inj, true_and, and_true, or_true, true_or, false_or, or_false, false_and, and_false, not_true_eq_false, not_false_eq_true] <;> omega)), (by decide), (by first | omega | (simp only [Int32.lt_iff_toInt_lt, Int32.le_iff_toInt_le, Int32.reduceToInt, ← Int32.toInt_inj, true_and, and_true, or_true, true_or, false_or, or_false, false_and, and_false, not_true_eq_false, not_false_eq_true] <;> omega)), (by first | omega | (simp only [Int32.lt_iff_toInt_lt, Int32.le_iff_toInt_le, Int32.reduceToInt, ← Int32.toInt_inj, true_and, and_true, or_true, true_or, false_or, or_false, false_and, and_false, not_true_eq_false, not_false_eq_true] <;> omega)), (by first | omega | (simp only [Int32.lt_iff_toInt_lt, Int32.le_iff_toInt_le, Int32.reduceToInt, ← Int32.toInt_inj, true_and, and_true, or_true, true_or, false_or, or_false, false_and, and_false, not_true_eq_false, not_false_eq_true] <;> omega)), (by first | omega | (simp only [Int32.lt_iff_toInt_lt, Int32.le_iff_toInt_le, Int32.reduceToInt, ← Int32.toInt_inj, true_and, and_true, or_true, true_or, false_or, or_false, false_and, and_false, not_true_eq_false, not_false_eq_true] <;> omega))⟩
  have fr_56 := FR.w hk_54 hf_48 (k := 12) rfl
  refine v_aload_n hC dX12_begin_18 rfl ?_
  refine v_iconst hC dX12_begin_19 (v := 0) (by decide) ?_
  refine v_put hC fl_X12_111 m_1 hf_53 rfl rfl (Nat.le_of_ble_eq_true rfl) (fs' := [.int v_23, .ref (q 1), .ref (q 2), .ref (q 3), .ref (q 4), .int 0, .ref (q 6), .int v_24, .int 0, .int v_30, .int v_32, .int v_34, .int 0, .int v_36, .ref (q 14), .ref (q 15), .ref (q 16), .int v_37, .ref (q 18), .ref (q 19), .int v_39, .ref (q 21), .ref (q 22), .ref (q 23), .ref (q 24), .ref (q 25), .ref (q 26), .ref (q 27), .ref (q 28)]) rfl dX12_begin_20 (fun f_57 hf_58 hk_59 => ?_)
  have hW_60 := hW_55.up hf_58 hk_59 t_2 ⟨v_23, 0, v_24, 0, v_30, v_32, v_34, 0, v_36, v_37, v_39, rfl, (by decide), (by first | omega | (simp only [Int32.lt_iff_toInt_lt, Int32.le_iff_toInt_le, Int32.reduceToInt, ← Int32.toInt_inj, true_and, and_true, or_true, true_or, false_or, or_false, false_and, and_false, not_true_eq_false, not_false_eq_true] <;> omega)), (by decide), (by first | omega | (simp only [Int32.lt_iff_toInt_lt, Int32.le_iff_toInt_le, Int32.reduceToInt, ← Int32.toInt_inj, true_and, and_true, or_true, true_or, false_or, or_false, false_and, and_false, not_true_eq_false, not_false_eq_true] <;> omega)), (by first | omega | (simp only [Int32.lt_iff_toInt_lt, Int32.le_iff_toInt_le, Int32.reduceToInt, ← Int32.toInt_inj, true_and, and_true, or_true, true_or, false_or, or_false, false_and, and_false, not_true_eq_false, not_false_eq_true] <;> omega)), (by first | omega | (simp only [Int32.lt_iff_toInt_lt, Int32.le_iff_toInt_le, Int32.reduceToInt, ← Int32.toInt_inj, true_and, and_true, or_true, true_or, false_or, or_false, false_and, and_false, not_true_eq_false, not_false_eq_true] <;> omega)), (by first | omega | (simp only [Int32.lt_iff_toInt_lt, Int32.le_iff_toInt_le, Int32.reduceToInt, ← Int32.toInt_inj, true_and, and_true, or_true, true_or, false_or, or_false, false_and, and_false, not_true_eq_false, not_false_eq_true] <;> omega))⟩
  have fr_61 := FR.w hk_59 hf_53 (k := 12) rfl
  refine v_aload_n hC dX12_begin_23 rfl ?_
  refine v_iconst hC dX12_begin_24 (v := (-1)) (by decide) ?_
  refine v_put hC fl_X12_31 m_1 hf_58 rfl rfl (Nat.le_of_ble_eq_true rfl) (fs' := [.int v_23, .ref (q 1), .ref (q 2), .ref (q 3), .ref (q 4), .int 0, .ref (q 6), .int v_24, .int 0, .int v_30, .int v_32, .int v_34, .int 0, .int (-1), .ref (q 14), .ref (q 15), .ref (q 16), .int v_37, .ref (q 18), .ref (q 19), .int v_39, .ref (q 21), .ref (q 22), .ref (q 23), .ref (q 24), .ref (q 25), .ref (q 26), .ref (q 27), .ref (q 28)]) rfl dX12_begin_25 (fun f_62 hf_63 hk_64 => ?_)
  have hW_65 := hW_60.up hf_63 hk_64 t_2 ⟨v_23, 0, v_24, 0, v_30, v_32, v_34, 0, (-1), v_37, v_39, rfl, (by decide), (by first | omega | (simp only [Int32.lt_iff_toInt_lt, Int32.le_iff_toInt_le, Int32.reduceToInt, ← Int32.toInt_inj, true_and, and_true, or_true, true_or, false_or, or_false, false_and, and_false, not_true_eq_false, not_false_eq_true] <;> omega)), (by decide), (by first | omega | (simp only [Int32.lt_iff_toInt_lt, Int32.le_iff_toInt_le, Int32.reduceToInt, ← Int32.toInt_inj, true_and, and_true, or_true, true_or, false_or, or_false, false_and, and_false, not_true_eq_false, not_false_eq_true] <;> omega)), (by first | omega | (simp only [Int32.lt_iff_toInt_lt, Int32.le_iff_toInt_le, Int32.reduceToInt, ← Int32.toInt_inj, true_and, and_true, or_true, true_or, false_or, or_false, false_and, and_false, not_true_eq_false, not_false_eq_true] <;> omega)), (by first | omega | (simp only [Int32.lt_iff_toInt_lt, Int32.le_iff_toInt_le, Int32.reduceToInt, ← Int32.toInt_inj, true_and, and_true, or_true, true_or, false_or, or_false, false_and, and_false, not_true_eq_false, not_false_eq_true] <;> omega)), (by first | omega | (simp only [Int32.lt_iff_toInt_lt, Int32.le_iff_toInt_le, Int32.reduceToInt, ← Int32.toInt_inj, true_and, and_true, or_true, true_or, false_or, or_false, false_and, and_false, not_true_eq_false, not_false_eq_true] <;> omega))⟩
  have fr_66 := FR.w hk_64 hf_58 (k := 12) rfl
  have fe_67 : fld (f_62 a_0) 12 = (0 : Int32).toInt := by rw [hf_63]; rfl
  simp only [Int32.reduceToInt] at fe_67
  have fe_68 : fld (f_62 a_0) 8 = (0 : Int32).toInt := by rw [hf_63]; rfl
  simp only [Int32.reduceToInt] at fe_68
  have fe_69 : fld (f_62 a_0) 20 = (v_39 : Int32).toInt := by rw [hf_63]; rfl
  exact hR _ _ _ _ _ _ dX12_begin_28 (Nat.le_of_ble_eq_true rfl) (Nat.le_of_ble_eq_true rfl) ⟨rfl, hW_65, (((((fr_46.tr fr_51).tr fr_56).tr fr_61).tr fr_66).mono rfl), (by simp only [fe_67, true_and, and_true, or_true, true_or, false_or, or_false, false_and, and_false, not_true_eq_false, not_false_eq_true] <;> first | omega | (simp only [Int32.lt_iff_toInt_lt, Int32.le_iff_toInt_le, Int32.reduceToInt, ← Int32.toInt_inj, true_and, and_true, or_true, true_or, false_or, or_false, false_and, and_false, not_true_eq_false, not_false_eq_true] <;> omega)), (by simp only [fe_68, true_and, and_true, or_true, true_or, false_or, or_false, false_and, and_false, not_true_eq_false, not_false_eq_true] <;> first | omega | (simp only [Int32.lt_iff_toInt_lt, Int32.le_iff_toInt_le, Int32.reduceToInt, ← Int32.toInt_inj, true_and, and_true, or_true, true_or, false_or, or_false, false_and, and_false, not_true_eq_false, not_false_eq_true] <;> omega)), (by simp only [fe_69, mz_41, true_and, and_true, or_true, true_or, false_or, or_false, false_and, and_false, not_true_eq_false, not_false_eq_true] <;> first | omega | (simp only [Int32.lt_iff_toInt_lt, Int32.le_iff_toInt_le, Int32.reduceToInt, ← Int32.toInt_inj, true_and, and_true, or_true, true_or, false_or, or_false, false_and, and_false, not_true_eq_false, not_false_eq_true] <;> omega))⟩
set_option maxRecDepth 100000 in
set_option maxHeartbeats 1500000 in
theorem p_X12_number {l : Launch} {E : Ez} {L : List Nat} {f : Nat → va_E} {T : Nat → va_E → Prop} {a_0 : Nat} {a_1 : Int32} {a_2 : Int32} {q : Nat → Nat} (hW : WT T L f) (k_0 : isM T L E a_0 q) : CI l yX12_number cX12_number 4 .int 2 0 0 E [.ref a_0, .int a_1, .int a_2] L f (fun r L1 f1 => L = L1 ∧ WT T L f1 ∧ FR [12] f f1 ∧ (¬ fld (f1 a_0) 12 = 0 ∨ (fld (f a_0) 12 = 0 ∧ a_1.toInt ≤ r.toInt ∧ r.toInt ≤ a_2.toInt)) ∧ (¬ fld (f1 a_0) 12 = 0 ∨ (fld (f a_0) 10 = 2 ∧ fld (f a_0) 8 ≤ fld (f1 a_0) 9 ∧ fld (f1 a_0) 9 ≤ fld (f1 a_0) 8)) ∧ (¬ fld (f1 a_0) 12 = 0 ∨ fld (f1 a_0) 10 = 0 ∨ fld (f1 a_0) 9 < fld (f1 a_0) 8) ∧ (fld (f1 a_0) 12 = 0 ∨ r.toInt = 0) ∧ fld (f1 a_0) 20 = fld (f a_0) 20) := by
  refine ci_of (by decide) (Nat.le_of_ble_eq_true rfl) (fun z hz hnm hC hR => ?_)
  have hC : Cx z E cX12_number RX12 4 2 0 0 := hC
  subst hz
  show V z E 4 0 0 L f 0 [(0, .ref a_0), (1, .int a_1), (2, .int a_2)] []
  obtain ⟨m_1, t_2, nq_21, k_3, k_4, k_5, k_6, k_7, k_8, k_9, k_10, k_11, k_12, k_13, k_14, k_15, k_16, k_17, k_18, k_19, k_20⟩ := id k_0
  obtain ⟨v_23, v_24, v_26, v_28, v_30, v_32, v_34, v_35, v_36, v_37, v_39, e_22, b_25, b_27, b_29, b_31, b_33, b_38, b_40⟩ := hW.at m_1 t_2
  have mz_41 : fld (f a_0) 8 = v_28.toInt := by rw [e_22]; rfl
  have mz_42 : fld (f a_0) 10 = v_32.toInt := by rw [e_22]; rfl
  have mz_43 : fld (f a_0) 12 = v_35.toInt := by rw [e_22]; rfl
  have mz_44 : fld (f a_0) 20 = v_39.toInt := by rw [e_22]; rfl
  refine v_aload_n hC dX12_number_0 rfl ?_
  refine v_vi hC (rest := []) m_1 e_22 rfl mi_X12_good ms_X12_good (p_X12_good hW k_0) mx_X12_good ml_X12_139 (by decide) rfl (cells1 := 0) (slots1 := 0) (by decide) (by decide) (Nat.le_of_ble_eq_true rfl) (Nat.le_of_ble_eq_true rfl) rfl (Nat.le_of_ble_eq_true rfl) dX12_number_1 (fun r_45 L_46 f_47 h_48 => ?_)
  obtain ⟨rfl, rfl, b_49, x_50⟩ := h_48
  have fe_53 : fld (f a_0) 12 = (v_35 : Int32).toInt := by rw [e_22]; rfl
  rw [fe_53] at x_50
  clear fe_53
  try simp only [Int32.reduceToInt, Int64.reduceToInt] at x_50
  refine v_if_eq hC dX12_number_4 (tgt := 20) (by decide) (fun h_54 => ?_) (fun h_54 => ?_)
  · simp only [Int32.lt_iff_toInt_lt, Int32.le_iff_toInt_le, Int32.reduceToInt, ← Int32.toInt_inj] at h_54
    refine v_aload_n hC dX12_number_20 rfl ?_
    refine v_vi hC (rest := []) m_1 e_22 rfl mi_X12_good ms_X12_good (p_X12_good hW k_0) mx_X12_good ml_X12_139 (by decide) rfl (cells1 := 0) (slots1 := 0) (by decide) (by decide) (Nat.le_of_ble_eq_true rfl) (Nat.le_of_ble_eq_true rfl) rfl (Nat.le_of_ble_eq_true rfl) dX12_number_21 (fun r_55 L_56 f_57 h_58 => ?_)
    obtain ⟨rfl, rfl, b_59, x_60⟩ := h_58
    have fe_63 : fld (f a_0) 12 = (v_35 : Int32).toInt := by rw [e_22]; rfl
    rw [fe_63] at x_60
    clear fe_63
    try simp only [Int32.reduceToInt, Int64.reduceToInt] at x_60
    refine v_if_eq hC dX12_number_24 (tgt := 47) (by decide) (fun h_64 => ?_) (fun h_64 => ?_)
    · simp only [Int32.lt_iff_toInt_lt, Int32.le_iff_toInt_le, Int32.reduceToInt, ← Int32.toInt_inj] at h_64
      refine v_aload_n hC dX12_number_47 rfl ?_
      refine v_vi hC (rest := []) m_1 e_22 rfl mi_X12_good ms_X12_good (p_X12_good hW k_0) mx_X12_good ml_X12_139 (by decide) rfl (cells1 := 0) (slots1 := 0) (by decide) (by decide) (Nat.le_of_ble_eq_true rfl) (Nat.le_of_ble_eq_true rfl) rfl (Nat.le_of_ble_eq_true rfl) dX12_number_48 (fun r_65 L_66 f_67 h_68 => ?_)
      obtain ⟨rfl, rfl, b_69, x_70⟩ := h_68
      have fe_73 : fld (f a_0) 12 = (v_35 : Int32).toInt := by rw [e_22]; rfl
      rw [fe_73] at x_70
      clear fe_73
      try simp only [Int32.reduceToInt, Int64.reduceToInt] at x_70
      refine v_if_ne hC dX12_number_51 (tgt := 56) (by decide) (fun h_74 => ?_) (fun h_74 => ?_)
      · simp only [Int32.lt_iff_toInt_lt, Int32.le_iff_toInt_le, Int32.reduceToInt, ← Int32.toInt_inj] at h_74
        refine v_aload_n hC dX12_number_56 rfl ?_
        refine v_get hC fl_X12_131 m_1 e_22 rfl dX12_number_57 ?_
        refine v_istore_n hC dX12_number_60 (by decide) (lv' := [(3, .int v_34), (0, .ref a_0), (1, .int a_1), (2, .int a_2)]) rfl ?_
        refine v_aload_n hC dX12_number_61 rfl ?_
        refine v_vv hC (rest := []) m_1 e_22 rfl mi_X12_advance ms_X12_advance (p_X12_advance hW k_0) mx_X12_advance ml_X12_156 (by decide) rfl (cells1 := 0) (slots1 := 0) (by decide) (by decide) (Nat.le_of_ble_eq_true rfl) (Nat.le_of_ble_eq_true rfl) rfl (Nat.le_of_ble_eq_true rfl) dX12_number_62 (fun L_76 f_77 h_78 => ?_)
        obtain ⟨rfl, hW_83, hF_84, x_79, x_80, x_81, x_82⟩ := h_78
        have fe_85 : fld (f a_0) 8 = (v_28 : Int32).toInt := by rw [e_22]; rfl
        have fe_86 : fld (f a_0) 12 = (v_35 : Int32).toInt := by rw [e_22]; rfl
        have fe_87 : fld (f a_0) 20 = (v_39 : Int32).toInt := by rw [e_22]; rfl
        obtain ⟨v_89, v_90, v_92, v_94, v_96, v_98, v_100, v_101, v_102, v_103, v_105, e_88, b_91, b_93, b_95, b_97, b_99, b_104, b_106⟩ := hW_83.at m_1 t_2
        have fe_107 : fld (f_77 a_0) 8 = (v_94 : Int32).toInt := by rw [e_88]; rfl
        have fe_108 : fld (f_77 a_0) 9 = (v_96 : Int32).toInt := by rw [e_88]; rfl
        have fe_109 : fld (f_77 a_0) 10 = (v_98 : Int32).toInt := by rw [e_88]; rfl
        have fe_110 : fld (f_77 a_0) 12 = (v_101 : Int32).toInt := by rw [e_88]; rfl
        have fe_111 : fld (f_77 a_0) 20 = (v_105 : Int32).toInt := by rw [e_88]; rfl
        rw [fe_85, fe_108, fe_107] at x_79
        rw [fe_109, fe_108, fe_107] at x_80
        rw [fe_110, fe_86] at x_81
        rw [fe_111, fe_87] at x_82
        clear fe_85 fe_86 fe_87 fe_107 fe_108 fe_109 fe_110 fe_111
        refine v_iload_n hC dX12_number_65 rfl ?_
        have fe_112 : fld (f_77 a_0) 12 = (v_101 : Int32).toInt := by rw [e_88]; rfl
        have fe_113 : fld (f_77 a_0) 8 = (v_94 : Int32).toInt := by rw [e_88]; rfl
        have fe_114 : fld (f_77 a_0) 9 = (v_96 : Int32).toInt := by rw [e_88]; rfl
        have fe_115 : fld (f_77 a_0) 12 = (v_101 : Int32).toInt := by rw [e_88]; rfl
        have fe_116 : fld (f_77 a_0) 8 = (v_94 : Int32).toInt := by rw [e_88]; rfl
        have fe_117 : fld (f_77 a_0) 9 = (v_96 : Int32).toInt := by rw [e_88]; rfl
        have fe_118 : fld (f_77 a_0) 10 = (v_98 : Int32).toInt := by rw [e_88]; rfl
        have fe_119 : fld (f_77 a_0) 12 = (v_101 : Int32).toInt := by rw [e_88]; rfl
        have fe_120 : fld (f_77 a_0) 12 = (v_101 : Int32).toInt := by rw [e_88]; rfl
        have fe_121 : fld (f_77 a_0) 20 = (v_105 : Int32).toInt := by rw [e_88]; rfl
        exact hR _ _ _ _ _ _ _ dX12_number_66 rfl (Nat.le_of_ble_eq_true rfl) (Nat.le_of_ble_eq_true rfl) ⟨rfl, hW_83, (hF_84.mono rfl), (by simp only [fe_112, mz_43, true_and, and_true, or_true, true_or, false_or, or_false, false_and, and_false, not_true_eq_false, not_false_eq_true] <;> first | omega | (simp only [Int32.lt_iff_toInt_lt, Int32.le_iff_toInt_le, Int32.reduceToInt, ← Int32.toInt_inj, true_and, and_true, or_true, true_or, false_or, or_false, false_and, and_false, not_true_eq_false, not_false_eq_true] <;> omega)), (by simp only [fe_113, fe_114, fe_115, mz_41, mz_42, true_and, and_true, or_true, true_or, false_or, or_false, false_and, and_false, not_true_eq_false, not_false_eq_true] <;> first | omega | (simp only [Int32.lt_iff_toInt_lt, Int32.le_iff_toInt_le, Int32.reduceToInt, ← Int32.toInt_inj, true_and, and_true, or_true, true_or, false_or, or_false, false_and, and_false, not_true_eq_false, not_false_eq_true] <;> omega)), (by simp only [fe_116, fe_117, fe_118, fe_119, true_and, and_true, or_true, true_or, false_or, or_false, false_and, and_false, not_true_eq_false, not_false_eq_true] <;> first | omega | (simp only [Int32.lt_iff_toInt_lt, Int32.le_iff_toInt_le, Int32.reduceToInt, ← Int32.toInt_inj, true_and, and_true, or_true, true_or, false_or, or_false, false_and, and_false, not_true_eq_false, not_false_eq_true] <;> omega)), (by simp only [fe_120, true_and, and_true, or_true, true_or, false_or, or_false, false_and, and_false, not_true_eq_false, not_false_eq_true] <;> first | omega | (simp only [Int32.lt_iff_toInt_lt, Int32.le_iff_toInt_le, Int32.reduceToInt, ← Int32.toInt_inj, true_and, and_true, or_true, true_or, false_or, or_false, false_and, and_false, not_true_eq_false, not_false_eq_true] <;> omega)), (by simp only [fe_121, mz_44, true_and, and_true, or_true, true_or, false_or, or_false, false_and, and_false, not_true_eq_false, not_false_eq_true] <;> first | omega | (simp only [Int32.lt_iff_toInt_lt, Int32.le_iff_toInt_le, Int32.reduceToInt, ← Int32.toInt_inj, true_and, and_true, or_true, true_or, false_or, or_false, false_and, and_false, not_true_eq_false, not_false_eq_true] <;> omega))⟩
      · simp only [Int32.lt_iff_toInt_lt, Int32.le_iff_toInt_le, Int32.reduceToInt, ← Int32.toInt_inj] at h_74
        refine v_iconst hC dX12_number_54 (v := 0) (by decide) ?_
        have fe_122 : fld (f a_0) 12 = (v_35 : Int32).toInt := by rw [e_22]; rfl
        have fe_123 : fld (f a_0) 8 = (v_28 : Int32).toInt := by rw [e_22]; rfl
        have fe_124 : fld (f a_0) 9 = (v_30 : Int32).toInt := by rw [e_22]; rfl
        have fe_125 : fld (f a_0) 12 = (v_35 : Int32).toInt := by rw [e_22]; rfl
        have fe_126 : fld (f a_0) 8 = (v_28 : Int32).toInt := by rw [e_22]; rfl
        have fe_127 : fld (f a_0) 9 = (v_30 : Int32).toInt := by rw [e_22]; rfl
        have fe_128 : fld (f a_0) 10 = (v_32 : Int32).toInt := by rw [e_22]; rfl
        have fe_129 : fld (f a_0) 12 = (v_35 : Int32).toInt := by rw [e_22]; rfl
        have fe_130 : fld (f a_0) 12 = (v_35 : Int32).toInt := by rw [e_22]; rfl
        have fe_131 : fld (f a_0) 20 = (v_39 : Int32).toInt := by rw [e_22]; rfl
        exact hR _ _ _ _ _ _ _ dX12_number_55 rfl (Nat.le_of_ble_eq_true rfl) (Nat.le_of_ble_eq_true rfl) ⟨rfl, hW, FR.rf, (by simp only [fe_122, mz_43, true_and, and_true, or_true, true_or, false_or, or_false, false_and, and_false, not_true_eq_false, not_false_eq_true] <;> first | omega | (simp only [Int32.lt_iff_toInt_lt, Int32.le_iff_toInt_le, Int32.reduceToInt, ← Int32.toInt_inj, true_and, and_true, or_true, true_or, false_or, or_false, false_and, and_false, not_true_eq_false, not_false_eq_true] <;> omega)), (by simp only [fe_123, fe_124, fe_125, mz_41, mz_42, true_and, and_true, or_true, true_or, false_or, or_false, false_and, and_false, not_true_eq_false, not_false_eq_true] <;> first | omega | (simp only [Int32.lt_iff_toInt_lt, Int32.le_iff_toInt_le, Int32.reduceToInt, ← Int32.toInt_inj, true_and, and_true, or_true, true_or, false_or, or_false, false_and, and_false, not_true_eq_false, not_false_eq_true] <;> omega)), (by simp only [fe_126, fe_127, fe_128, fe_129, true_and, and_true, or_true, true_or, false_or, or_false, false_and, and_false, not_true_eq_false, not_false_eq_true] <;> first | omega | (simp only [Int32.lt_iff_toInt_lt, Int32.le_iff_toInt_le, Int32.reduceToInt, ← Int32.toInt_inj, true_and, and_true, or_true, true_or, false_or, or_false, false_and, and_false, not_true_eq_false, not_false_eq_true] <;> omega)), (by simp only [fe_130, true_and, and_true, or_true, true_or, false_or, or_false, false_and, and_false, not_true_eq_false, not_false_eq_true] <;> first | omega | (simp only [Int32.lt_iff_toInt_lt, Int32.le_iff_toInt_le, Int32.reduceToInt, ← Int32.toInt_inj, true_and, and_true, or_true, true_or, false_or, or_false, false_and, and_false, not_true_eq_false, not_false_eq_true] <;> omega)), (by simp only [fe_131, mz_44, true_and, and_true, or_true, true_or, false_or, or_false, false_and, and_false, not_true_eq_false, not_false_eq_true] <;> first | omega | (simp only [Int32.lt_iff_toInt_lt, Int32.le_iff_toInt_le, Int32.reduceToInt, ← Int32.toInt_inj, true_and, and_true, or_true, true_or, false_or, or_false, false_and, and_false, not_true_eq_false, not_false_eq_true] <;> omega))⟩
    · simp only [Int32.lt_iff_toInt_lt, Int32.le_iff_toInt_le, Int32.reduceToInt, ← Int32.toInt_inj] at h_64
      refine v_aload_n hC dX12_number_27 rfl ?_
      refine v_get hC fl_X12_131 m_1 e_22 rfl dX12_number_28 ?_
      obtain ⟨v_132, h_133⟩ : ∃ v9 : Int64, v_34.toInt64 = v9 := ⟨_, rfl⟩
      refine v_i2l hC dX12_number_31 h_133 ?_
      have h_134 : v_132.toInt = v_34.toInt := by rw [← h_133]; exact Int32.toInt_toInt64 _
      refine v_iload_n hC dX12_number_32 rfl ?_
      obtain ⟨v_135, h_136⟩ : ∃ v9 : Int64, a_1.toInt64 = v9 := ⟨_, rfl⟩
      refine v_i2l hC dX12_number_33 h_136 ?_
      have h_137 : v_135.toInt = a_1.toInt := by rw [← h_136]; exact Int32.toInt_toInt64 _
      refine v_iload_n hC dX12_number_34 rfl ?_
      obtain ⟨v_138, h_139⟩ : ∃ v9 : Int64, a_2.toInt64 = v9 := ⟨_, rfl⟩
      refine v_i2l hC dX12_number_35 h_139 ?_
      have h_140 : v_138.toInt = a_2.toInt := by rw [← h_139]; exact Int32.toInt_toInt64 _
      refine v_si hC (rest := []) mt_X12_in (p_X12_in hW) mx_X12_in ml_X12_79 (by decide) rfl (cells1 := 0) (slots1 := 0) (by decide) (by decide) (Nat.le_of_ble_eq_true rfl) (Nat.le_of_ble_eq_true rfl) rfl (Nat.le_of_ble_eq_true rfl) dX12_number_36 (fun r_141 L_142 f_143 h_144 => ?_)
      obtain ⟨rfl, rfl, b_145, x_146⟩ := h_144
      try simp only [Int32.reduceToInt, Int64.reduceToInt] at x_146
      refine v_if_ne hC dX12_number_39 (tgt := 47) (by decide) (fun h_149 => ?_) (fun h_149 => ?_)
      · simp only [Int32.lt_iff_toInt_lt, Int32.le_iff_toInt_le, Int32.reduceToInt, ← Int32.toInt_inj] at h_149
        refine v_aload_n hC dX12_number_47 rfl ?_
        refine v_vi hC (rest := []) m_1 e_22 rfl mi_X12_good ms_X12_good (p_X12_good hW k_0) mx_X12_good ml_X12_139 (by decide) rfl (cells1 := 0) (slots1 := 0) (by decide) (by decide) (Nat.le_of_ble_eq_true rfl) (Nat.le_of_ble_eq_true rfl) rfl (Nat.le_of_ble_eq_true rfl) dX12_number_48 (fun r_150 L_151 f_152 h_153 => ?_)
        obtain ⟨rfl, rfl, b_154, x_155⟩ := h_153
        have fe_158 : fld (f a_0) 12 = (v_35 : Int32).toInt := by rw [e_22]; rfl
        rw [fe_158] at x_155
        clear fe_158
        try simp only [Int32.reduceToInt, Int64.reduceToInt] at x_155
        refine v_if_ne hC dX12_number_51 (tgt := 56) (by decide) (fun h_159 => ?_) (fun h_159 => ?_)
        · simp only [Int32.lt_iff_toInt_lt, Int32.le_iff_toInt_le, Int32.reduceToInt, ← Int32.toInt_inj] at h_159
          refine v_aload_n hC dX12_number_56 rfl ?_
          refine v_get hC fl_X12_131 m_1 e_22 rfl dX12_number_57 ?_
          refine v_istore_n hC dX12_number_60 (by decide) (lv' := [(3, .int v_34), (0, .ref a_0), (1, .int a_1), (2, .int a_2)]) rfl ?_
          refine v_aload_n hC dX12_number_61 rfl ?_
          refine v_vv hC (rest := []) m_1 e_22 rfl mi_X12_advance ms_X12_advance (p_X12_advance hW k_0) mx_X12_advance ml_X12_156 (by decide) rfl (cells1 := 0) (slots1 := 0) (by decide) (by decide) (Nat.le_of_ble_eq_true rfl) (Nat.le_of_ble_eq_true rfl) rfl (Nat.le_of_ble_eq_true rfl) dX12_number_62 (fun L_161 f_162 h_163 => ?_)
          obtain ⟨rfl, hW_168, hF_169, x_164, x_165, x_166, x_167⟩ := h_163
          have fe_170 : fld (f a_0) 8 = (v_28 : Int32).toInt := by rw [e_22]; rfl
          have fe_171 : fld (f a_0) 12 = (v_35 : Int32).toInt := by rw [e_22]; rfl
          have fe_172 : fld (f a_0) 20 = (v_39 : Int32).toInt := by rw [e_22]; rfl
          obtain ⟨v_174, v_175, v_177, v_179, v_181, v_183, v_185, v_186, v_187, v_188, v_190, e_173, b_176, b_178, b_180, b_182, b_184, b_189, b_191⟩ := hW_168.at m_1 t_2
          have fe_192 : fld (f_162 a_0) 8 = (v_179 : Int32).toInt := by rw [e_173]; rfl
          have fe_193 : fld (f_162 a_0) 9 = (v_181 : Int32).toInt := by rw [e_173]; rfl
          have fe_194 : fld (f_162 a_0) 10 = (v_183 : Int32).toInt := by rw [e_173]; rfl
          have fe_195 : fld (f_162 a_0) 12 = (v_186 : Int32).toInt := by rw [e_173]; rfl
          have fe_196 : fld (f_162 a_0) 20 = (v_190 : Int32).toInt := by rw [e_173]; rfl
          rw [fe_170, fe_193, fe_192] at x_164
          rw [fe_194, fe_193, fe_192] at x_165
          rw [fe_195, fe_171] at x_166
          rw [fe_196, fe_172] at x_167
          clear fe_170 fe_171 fe_172 fe_192 fe_193 fe_194 fe_195 fe_196
          refine v_iload_n hC dX12_number_65 rfl ?_
          have fe_197 : fld (f_162 a_0) 12 = (v_186 : Int32).toInt := by rw [e_173]; rfl
          have fe_198 : fld (f_162 a_0) 8 = (v_179 : Int32).toInt := by rw [e_173]; rfl
          have fe_199 : fld (f_162 a_0) 9 = (v_181 : Int32).toInt := by rw [e_173]; rfl
          have fe_200 : fld (f_162 a_0) 12 = (v_186 : Int32).toInt := by rw [e_173]; rfl
          have fe_201 : fld (f_162 a_0) 8 = (v_179 : Int32).toInt := by rw [e_173]; rfl
          have fe_202 : fld (f_162 a_0) 9 = (v_181 : Int32).toInt := by rw [e_173]; rfl
          have fe_203 : fld (f_162 a_0) 10 = (v_183 : Int32).toInt := by rw [e_173]; rfl
          have fe_204 : fld (f_162 a_0) 12 = (v_186 : Int32).toInt := by rw [e_173]; rfl
          have fe_205 : fld (f_162 a_0) 12 = (v_186 : Int32).toInt := by rw [e_173]; rfl
          have fe_206 : fld (f_162 a_0) 20 = (v_190 : Int32).toInt := by rw [e_173]; rfl
          exact hR _ _ _ _ _ _ _ dX12_number_66 rfl (Nat.le_of_ble_eq_true rfl) (Nat.le_of_ble_eq_true rfl) ⟨rfl, hW_168, (hF_169.mono rfl), (by simp only [fe_197, mz_43, true_and, and_true, or_true, true_or, false_or, or_false, false_and, and_false, not_true_eq_false, not_false_eq_true] <;> first | omega | (simp only [Int32.lt_iff_toInt_lt, Int32.le_iff_toInt_le, Int32.reduceToInt, ← Int32.toInt_inj, true_and, and_true, or_true, true_or, false_or, or_false, false_and, and_false, not_true_eq_false, not_false_eq_true] <;> omega)), (by simp only [fe_198, fe_199, fe_200, mz_41, mz_42, true_and, and_true, or_true, true_or, false_or, or_false, false_and, and_false, not_true_eq_false, not_false_eq_true] <;> first | omega | (simp only [Int32.lt_iff_toInt_lt, Int32.le_iff_toInt_le, Int32.reduceToInt, ← Int32.toInt_inj, true_and, and_true, or_true, true_or, false_or, or_false, false_and, and_false, not_true_eq_false, not_false_eq_true] <;> omega)), (by simp only [fe_201, fe_202, fe_203, fe_204, true_and, and_true, or_true, true_or, false_or, or_false, false_and, and_false, not_true_eq_false, not_false_eq_true] <;> first | omega | (simp only [Int32.lt_iff_toInt_lt, Int32.le_iff_toInt_le, Int32.reduceToInt, ← Int32.toInt_inj, true_and, and_true, or_true, true_or, false_or, or_false, false_and, and_false, not_true_eq_false, not_false_eq_true] <;> omega)), (by simp only [fe_205, true_and, and_true, or_true, true_or, false_or, or_false, false_and, and_false, not_true_eq_false, not_false_eq_true] <;> first | omega | (simp only [Int32.lt_iff_toInt_lt, Int32.le_iff_toInt_le, Int32.reduceToInt, ← Int32.toInt_inj, true_and, and_true, or_true, true_or, false_or, or_false, false_and, and_false, not_true_eq_false, not_false_eq_true] <;> omega)), (by simp only [fe_206, mz_44, true_and, and_true, or_true, true_or, false_or, or_false, false_and, and_false, not_true_eq_false, not_false_eq_true] <;> first | omega | (simp only [Int32.lt_iff_toInt_lt, Int32.le_iff_toInt_le, Int32.reduceToInt, ← Int32.toInt_inj, true_and, and_true, or_true, true_or, false_or, or_false, false_and, and_false, not_true_eq_false, not_false_eq_true] <;> omega))⟩
        · simp only [Int32.lt_iff_toInt_lt, Int32.le_iff_toInt_le, Int32.reduceToInt, ← Int32.toInt_inj] at h_159
          refine v_iconst hC dX12_number_54 (v := 0) (by decide) ?_
          have fe_207 : fld (f a_0) 12 = (v_35 : Int32).toInt := by rw [e_22]; rfl
          have fe_208 : fld (f a_0) 8 = (v_28 : Int32).toInt := by rw [e_22]; rfl
          have fe_209 : fld (f a_0) 9 = (v_30 : Int32).toInt := by rw [e_22]; rfl
          have fe_210 : fld (f a_0) 12 = (v_35 : Int32).toInt := by rw [e_22]; rfl
          have fe_211 : fld (f a_0) 8 = (v_28 : Int32).toInt := by rw [e_22]; rfl
          have fe_212 : fld (f a_0) 9 = (v_30 : Int32).toInt := by rw [e_22]; rfl
          have fe_213 : fld (f a_0) 10 = (v_32 : Int32).toInt := by rw [e_22]; rfl
          have fe_214 : fld (f a_0) 12 = (v_35 : Int32).toInt := by rw [e_22]; rfl
          have fe_215 : fld (f a_0) 12 = (v_35 : Int32).toInt := by rw [e_22]; rfl
          have fe_216 : fld (f a_0) 20 = (v_39 : Int32).toInt := by rw [e_22]; rfl
          exact hR _ _ _ _ _ _ _ dX12_number_55 rfl (Nat.le_of_ble_eq_true rfl) (Nat.le_of_ble_eq_true rfl) ⟨rfl, hW, FR.rf, (by simp only [fe_207, mz_43, true_and, and_true, or_true, true_or, false_or, or_false, false_and, and_false, not_true_eq_false, not_false_eq_true] <;> first | omega | (simp only [Int32.lt_iff_toInt_lt, Int32.le_iff_toInt_le, Int32.reduceToInt, ← Int32.toInt_inj, true_and, and_true, or_true, true_or, false_or, or_false, false_and, and_false, not_true_eq_false, not_false_eq_true] <;> omega)), (by simp only [fe_208, fe_209, fe_210, mz_41, mz_42, true_and, and_true, or_true, true_or, false_or, or_false, false_and, and_false, not_true_eq_false, not_false_eq_true] <;> first | omega | (simp only [Int32.lt_iff_toInt_lt, Int32.le_iff_toInt_le, Int32.reduceToInt, ← Int32.toInt_inj, true_and, and_true, or_true, true_or, false_or, or_false, false_and, and_false, not_true_eq_false, not_false_eq_true] <;> omega)), (by simp only [fe_211, fe_212, fe_213, fe_214, true_and, and_true, or_true, true_or, false_or, or_false, false_and, and_false, not_true_eq_false, not_false_eq_true] <;> first | omega | (simp only [Int32.lt_iff_toInt_lt, Int32.le_iff_toInt_le, Int32.reduceToInt, ← Int32.toInt_inj, true_and, and_true, or_true, true_or, false_or, or_false, false_and, and_false, not_true_eq_false, not_false_eq_true] <;> omega)), (by simp only [fe_215, true_and, and_true, or_true, true_or, false_or, or_false, false_and, and_false, not_true_eq_false, not_false_eq_true] <;> first | omega | (simp only [Int32.lt_iff_toInt_lt, Int32.le_iff_toInt_le, Int32.reduceToInt, ← Int32.toInt_inj, true_and, and_true, or_true, true_or, false_or, or_false, false_and, and_false, not_true_eq_false, not_false_eq_true] <;> omega)), (by simp only [fe_216, mz_44, true_and, and_true, or_true, true_or, false_or, or_false, false_and, and_false, not_true_eq_false, not_false_eq_true] <;> first | omega | (simp only [Int32.lt_iff_toInt_lt, Int32.le_iff_toInt_le, Int32.reduceToInt, ← Int32.toInt_inj, true_and, and_true, or_true, true_or, false_or, or_false, false_and, and_false, not_true_eq_false, not_false_eq_true] <;> omega))⟩
      · simp only [Int32.lt_iff_toInt_lt, Int32.le_iff_toInt_le, Int32.reduceToInt, ← Int32.toInt_inj] at h_149
        refine v_aload_n hC dX12_number_42 rfl ?_
        refine v_iconst hC dX12_number_43 (v := 2) (by decide) ?_
        refine v_vv hC (rest := []) m_1 e_22 rfl mi_X12_errs ms_X12_errs (p_X12_errs hW k_0 (by decide)) mx_X12_errs ml_X12_162 (by decide) rfl (cells1 := 0) (slots1 := 0) (by decide) (by decide) (Nat.le_of_ble_eq_true rfl) (Nat.le_of_ble_eq_true rfl) rfl (Nat.le_of_ble_eq_true rfl) dX12_number_44 (fun L_218 f_219 h_220 => ?_)
        obtain ⟨rfl, hW_226, hF_227, x_221, x_222, x_223, x_224, x_225⟩ := h_220
        have fe_228 : fld (f a_0) 8 = (v_28 : Int32).toInt := by rw [e_22]; rfl
        have fe_229 : fld (f a_0) 9 = (v_30 : Int32).toInt := by rw [e_22]; rfl
        have fe_230 : fld (f a_0) 10 = (v_32 : Int32).toInt := by rw [e_22]; rfl
        have fe_231 : fld (f a_0) 20 = (v_39 : Int32).toInt := by rw [e_22]; rfl
        obtain ⟨v_233, v_234, v_236, v_238, v_240, v_242, v_244, v_245, v_246, v_247, v_249, e_232, b_235, b_237, b_239, b_241, b_243, b_248, b_250⟩ := hW_226.at m_1 t_2
        have fe_251 : fld (f_219 a_0) 8 = (v_238 : Int32).toInt := by rw [e_232]; rfl
        have fe_252 : fld (f_219 a_0) 9 = (v_240 : Int32).toInt := by rw [e_232]; rfl
        have fe_253 : fld (f_219 a_0) 10 = (v_242 : Int32).toInt := by rw [e_232]; rfl
        have fe_254 : fld (f_219 a_0) 12 = (v_245 : Int32).toInt := by rw [e_232]; rfl
        have fe_255 : fld (f_219 a_0) 20 = (v_249 : Int32).toInt := by rw [e_232]; rfl
        rw [fe_254] at x_221
        rw [fe_251, fe_228] at x_222
        rw [fe_252, fe_229] at x_223
        rw [fe_253, fe_230] at x_224
        rw [fe_255, fe_231] at x_225
        clear fe_228 fe_229 fe_230 fe_231 fe_251 fe_252 fe_253 fe_254 fe_255
        refine v_aload_n hC dX12_number_47 rfl ?_
        refine v_vi hC (rest := []) m_1 e_232 rfl mi_X12_good ms_X12_good (p_X12_good hW_226 k_0) mx_X12_good ml_X12_139 (by decide) rfl (cells1 := 0) (slots1 := 0) (by decide) (by decide) (Nat.le_of_ble_eq_true rfl) (Nat.le_of_ble_eq_true rfl) rfl (Nat.le_of_ble_eq_true rfl) dX12_number_48 (fun r_256 L_257 f_258 h_259 => ?_)
        obtain ⟨rfl, rfl, b_260, x_261⟩ := h_259
        have fe_264 : fld (f_219 a_0) 12 = (v_245 : Int32).toInt := by rw [e_232]; rfl
        rw [fe_264] at x_261
        clear fe_264
        try simp only [Int32.reduceToInt, Int64.reduceToInt] at x_261
        refine v_if_ne hC dX12_number_51 (tgt := 56) (by decide) (fun h_265 => ?_) (fun h_265 => ?_)
        · simp only [Int32.lt_iff_toInt_lt, Int32.le_iff_toInt_le, Int32.reduceToInt, ← Int32.toInt_inj] at h_265
          refine v_aload_n hC dX12_number_56 rfl ?_
          refine v_get hC fl_X12_131 m_1 e_232 rfl dX12_number_57 ?_
          refine v_istore_n hC dX12_number_60 (by decide) (lv' := [(3, .int v_244), (0, .ref a_0), (1, .int a_1), (2, .int a_2)]) rfl ?_
          refine v_aload_n hC dX12_number_61 rfl ?_
          refine v_vv hC (rest := []) m_1 e_232 rfl mi_X12_advance ms_X12_advance (p_X12_advance hW_226 k_0) mx_X12_advance ml_X12_156 (by decide) rfl (cells1 := 0) (slots1 := 0) (by decide) (by decide) (Nat.le_of_ble_eq_true rfl) (Nat.le_of_ble_eq_true rfl) rfl (Nat.le_of_ble_eq_true rfl) dX12_number_62 (fun L_267 f_268 h_269 => ?_)
          obtain ⟨rfl, hW_274, hF_275, x_270, x_271, x_272, x_273⟩ := h_269
          have fe_276 : fld (f_219 a_0) 8 = (v_238 : Int32).toInt := by rw [e_232]; rfl
          have fe_277 : fld (f_219 a_0) 12 = (v_245 : Int32).toInt := by rw [e_232]; rfl
          have fe_278 : fld (f_219 a_0) 20 = (v_249 : Int32).toInt := by rw [e_232]; rfl
          obtain ⟨v_280, v_281, v_283, v_285, v_287, v_289, v_291, v_292, v_293, v_294, v_296, e_279, b_282, b_284, b_286, b_288, b_290, b_295, b_297⟩ := hW_274.at m_1 t_2
          have fe_298 : fld (f_268 a_0) 8 = (v_285 : Int32).toInt := by rw [e_279]; rfl
          have fe_299 : fld (f_268 a_0) 9 = (v_287 : Int32).toInt := by rw [e_279]; rfl
          have fe_300 : fld (f_268 a_0) 10 = (v_289 : Int32).toInt := by rw [e_279]; rfl
          have fe_301 : fld (f_268 a_0) 12 = (v_292 : Int32).toInt := by rw [e_279]; rfl
          have fe_302 : fld (f_268 a_0) 20 = (v_296 : Int32).toInt := by rw [e_279]; rfl
          rw [fe_276, fe_299, fe_298] at x_270
          rw [fe_300, fe_299, fe_298] at x_271
          rw [fe_301, fe_277] at x_272
          rw [fe_302, fe_278] at x_273
          clear fe_276 fe_277 fe_278 fe_298 fe_299 fe_300 fe_301 fe_302
          refine v_iload_n hC dX12_number_65 rfl ?_
          have fe_303 : fld (f_268 a_0) 12 = (v_292 : Int32).toInt := by rw [e_279]; rfl
          have fe_304 : fld (f_268 a_0) 8 = (v_285 : Int32).toInt := by rw [e_279]; rfl
          have fe_305 : fld (f_268 a_0) 9 = (v_287 : Int32).toInt := by rw [e_279]; rfl
          have fe_306 : fld (f_268 a_0) 12 = (v_292 : Int32).toInt := by rw [e_279]; rfl
          have fe_307 : fld (f_268 a_0) 8 = (v_285 : Int32).toInt := by rw [e_279]; rfl
          have fe_308 : fld (f_268 a_0) 9 = (v_287 : Int32).toInt := by rw [e_279]; rfl
          have fe_309 : fld (f_268 a_0) 10 = (v_289 : Int32).toInt := by rw [e_279]; rfl
          have fe_310 : fld (f_268 a_0) 12 = (v_292 : Int32).toInt := by rw [e_279]; rfl
          have fe_311 : fld (f_268 a_0) 12 = (v_292 : Int32).toInt := by rw [e_279]; rfl
          have fe_312 : fld (f_268 a_0) 20 = (v_296 : Int32).toInt := by rw [e_279]; rfl
          exact hR _ _ _ _ _ _ _ dX12_number_66 rfl (Nat.le_of_ble_eq_true rfl) (Nat.le_of_ble_eq_true rfl) ⟨rfl, hW_274, ((hF_227.tr hF_275).mono rfl), (by simp only [fe_303, mz_43, true_and, and_true, or_true, true_or, false_or, or_false, false_and, and_false, not_true_eq_false, not_false_eq_true] <;> first | omega | (simp only [Int32.lt_iff_toInt_lt, Int32.le_iff_toInt_le, Int32.reduceToInt, ← Int32.toInt_inj, true_and, and_true, or_true, true_or, false_or, or_false, false_and, and_false, not_true_eq_false, not_false_eq_true] <;> omega)), (by simp only [fe_304, fe_305, fe_306, mz_41, mz_42, true_and, and_true, or_true, true_or, false_or, or_false, false_and, and_false, not_true_eq_false, not_false_eq_true] <;> first | omega | (simp only [Int32.lt_iff_toInt_lt, Int32.le_iff_toInt_le, Int32.reduceToInt, ← Int32.toInt_inj, true_and, and_true, or_true, true_or, false_or, or_false, false_and, and_false, not_true_eq_false, not_false_eq_true] <;> omega)), (by simp only [fe_307, fe_308, fe_309, fe_310, true_and, and_true, or_true, true_or, false_or, or_false, false_and, and_false, not_true_eq_false, not_false_eq_true] <;> first | omega | (simp only [Int32.lt_iff_toInt_lt, Int32.le_iff_toInt_le, Int32.reduceToInt, ← Int32.toInt_inj, true_and, and_true, or_true, true_or, false_or, or_false, false_and, and_false, not_true_eq_false, not_false_eq_true] <;> omega)), (by simp only [fe_311, true_and, and_true, or_true, true_or, false_or, or_false, false_and, and_false, not_true_eq_false, not_false_eq_true] <;> first | omega | (simp only [Int32.lt_iff_toInt_lt, Int32.le_iff_toInt_le, Int32.reduceToInt, ← Int32.toInt_inj, true_and, and_true, or_true, true_or, false_or, or_false, false_and, and_false, not_true_eq_false, not_false_eq_true] <;> omega)), (by simp only [fe_312, mz_44, true_and, and_true, or_true, true_or, false_or, or_false, false_and, and_false, not_true_eq_false, not_false_eq_true] <;> first | omega | (simp only [Int32.lt_iff_toInt_lt, Int32.le_iff_toInt_le, Int32.reduceToInt, ← Int32.toInt_inj, true_and, and_true, or_true, true_or, false_or, or_false, false_and, and_false, not_true_eq_false, not_false_eq_true] <;> omega))⟩
        · simp only [Int32.lt_iff_toInt_lt, Int32.le_iff_toInt_le, Int32.reduceToInt, ← Int32.toInt_inj] at h_265
          refine v_iconst hC dX12_number_54 (v := 0) (by decide) ?_
          have fe_313 : fld (f_219 a_0) 12 = (v_245 : Int32).toInt := by rw [e_232]; rfl
          have fe_314 : fld (f_219 a_0) 8 = (v_238 : Int32).toInt := by rw [e_232]; rfl
          have fe_315 : fld (f_219 a_0) 9 = (v_240 : Int32).toInt := by rw [e_232]; rfl
          have fe_316 : fld (f_219 a_0) 12 = (v_245 : Int32).toInt := by rw [e_232]; rfl
          have fe_317 : fld (f_219 a_0) 8 = (v_238 : Int32).toInt := by rw [e_232]; rfl
          have fe_318 : fld (f_219 a_0) 9 = (v_240 : Int32).toInt := by rw [e_232]; rfl
          have fe_319 : fld (f_219 a_0) 10 = (v_242 : Int32).toInt := by rw [e_232]; rfl
          have fe_320 : fld (f_219 a_0) 12 = (v_245 : Int32).toInt := by rw [e_232]; rfl
          have fe_321 : fld (f_219 a_0) 12 = (v_245 : Int32).toInt := by rw [e_232]; rfl
          have fe_322 : fld (f_219 a_0) 20 = (v_249 : Int32).toInt := by rw [e_232]; rfl
          exact hR _ _ _ _ _ _ _ dX12_number_55 rfl (Nat.le_of_ble_eq_true rfl) (Nat.le_of_ble_eq_true rfl) ⟨rfl, hW_226, (hF_227.mono rfl), (by simp only [fe_313, mz_43, true_and, and_true, or_true, true_or, false_or, or_false, false_and, and_false, not_true_eq_false, not_false_eq_true] <;> first | omega | (simp only [Int32.lt_iff_toInt_lt, Int32.le_iff_toInt_le, Int32.reduceToInt, ← Int32.toInt_inj, true_and, and_true, or_true, true_or, false_or, or_false, false_and, and_false, not_true_eq_false, not_false_eq_true] <;> omega)), (by simp only [fe_314, fe_315, fe_316, mz_41, mz_42, true_and, and_true, or_true, true_or, false_or, or_false, false_and, and_false, not_true_eq_false, not_false_eq_true] <;> first | omega | (simp only [Int32.lt_iff_toInt_lt, Int32.le_iff_toInt_le, Int32.reduceToInt, ← Int32.toInt_inj, true_and, and_true, or_true, true_or, false_or, or_false, false_and, and_false, not_true_eq_false, not_false_eq_true] <;> omega)), (by simp only [fe_317, fe_318, fe_319, fe_320, true_and, and_true, or_true, true_or, false_or, or_false, false_and, and_false, not_true_eq_false, not_false_eq_true] <;> first | omega | (simp only [Int32.lt_iff_toInt_lt, Int32.le_iff_toInt_le, Int32.reduceToInt, ← Int32.toInt_inj, true_and, and_true, or_true, true_or, false_or, or_false, false_and, and_false, not_true_eq_false, not_false_eq_true] <;> omega)), (by simp only [fe_321, true_and, and_true, or_true, true_or, false_or, or_false, false_and, and_false, not_true_eq_false, not_false_eq_true] <;> first | omega | (simp only [Int32.lt_iff_toInt_lt, Int32.le_iff_toInt_le, Int32.reduceToInt, ← Int32.toInt_inj, true_and, and_true, or_true, true_or, false_or, or_false, false_and, and_false, not_true_eq_false, not_false_eq_true] <;> omega)), (by simp only [fe_322, mz_44, true_and, and_true, or_true, true_or, false_or, or_false, false_and, and_false, not_true_eq_false, not_false_eq_true] <;> first | omega | (simp only [Int32.lt_iff_toInt_lt, Int32.le_iff_toInt_le, Int32.reduceToInt, ← Int32.toInt_inj, true_and, and_true, or_true, true_or, false_or, or_false, false_and, and_false, not_true_eq_false, not_false_eq_true] <;> omega))⟩
  · simp only [Int32.lt_iff_toInt_lt, Int32.le_iff_toInt_le, Int32.reduceToInt, ← Int32.toInt_inj] at h_54
    refine v_aload_n hC dX12_number_7 rfl ?_
    refine v_get hC fl_X12_120 m_1 e_22 rfl dX12_number_8 ?_
    refine v_iconst hC dX12_number_11 (v := 2) (by decide) ?_
    refine v_icmp_eq hC dX12_number_12 (tgt := 20) (by decide) (fun h_323 => ?_) (fun h_323 => ?_)
    · simp only [Int32.lt_iff_toInt_lt, Int32.le_iff_toInt_le, Int32.reduceToInt, ← Int32.toInt_inj] at h_323
      refine v_aload_n hC dX12_number_20 rfl ?_
      refine v_vi hC (rest := []) m_1 e_22 rfl mi_X12_good ms_X12_good (p_X12_good hW k_0) mx_X12_good ml_X12_139 (by decide) rfl (cells1 := 0) (slots1 := 0) (by decide) (by decide) (Nat.le_of_ble_eq_true rfl) (Nat.le_of_ble_eq_true rfl) rfl (Nat.le_of_ble_eq_true rfl) dX12_number_21 (fun r_324 L_325 f_326 h_327 => ?_)
      obtain ⟨rfl, rfl, b_328, x_329⟩ := h_327
      have fe_332 : fld (f a_0) 12 = (v_35 : Int32).toInt := by rw [e_22]; rfl
      rw [fe_332] at x_329
      clear fe_332
      try simp only [Int32.reduceToInt, Int64.reduceToInt] at x_329
      refine v_if_eq hC dX12_number_24 (tgt := 47) (by decide) (fun h_333 => ?_) (fun h_333 => ?_)
      · simp only [Int32.lt_iff_toInt_lt, Int32.le_iff_toInt_le, Int32.reduceToInt, ← Int32.toInt_inj] at h_333
        refine v_aload_n hC dX12_number_47 rfl ?_
        refine v_vi hC (rest := []) m_1 e_22 rfl mi_X12_good ms_X12_good (p_X12_good hW k_0) mx_X12_good ml_X12_139 (by decide) rfl (cells1 := 0) (slots1 := 0) (by decide) (by decide) (Nat.le_of_ble_eq_true rfl) (Nat.le_of_ble_eq_true rfl) rfl (Nat.le_of_ble_eq_true rfl) dX12_number_48 (fun r_334 L_335 f_336 h_337 => ?_)
        obtain ⟨rfl, rfl, b_338, x_339⟩ := h_337
        have fe_342 : fld (f a_0) 12 = (v_35 : Int32).toInt := by rw [e_22]; rfl
        rw [fe_342] at x_339
        clear fe_342
        try simp only [Int32.reduceToInt, Int64.reduceToInt] at x_339
        refine v_if_ne hC dX12_number_51 (tgt := 56) (by decide) (fun h_343 => ?_) (fun h_343 => ?_)
        · simp only [Int32.lt_iff_toInt_lt, Int32.le_iff_toInt_le, Int32.reduceToInt, ← Int32.toInt_inj] at h_343
          refine v_aload_n hC dX12_number_56 rfl ?_
          refine v_get hC fl_X12_131 m_1 e_22 rfl dX12_number_57 ?_
          refine v_istore_n hC dX12_number_60 (by decide) (lv' := [(3, .int v_34), (0, .ref a_0), (1, .int a_1), (2, .int a_2)]) rfl ?_
          refine v_aload_n hC dX12_number_61 rfl ?_
          refine v_vv hC (rest := []) m_1 e_22 rfl mi_X12_advance ms_X12_advance (p_X12_advance hW k_0) mx_X12_advance ml_X12_156 (by decide) rfl (cells1 := 0) (slots1 := 0) (by decide) (by decide) (Nat.le_of_ble_eq_true rfl) (Nat.le_of_ble_eq_true rfl) rfl (Nat.le_of_ble_eq_true rfl) dX12_number_62 (fun L_345 f_346 h_347 => ?_)
          obtain ⟨rfl, hW_352, hF_353, x_348, x_349, x_350, x_351⟩ := h_347
          have fe_354 : fld (f a_0) 8 = (v_28 : Int32).toInt := by rw [e_22]; rfl
          have fe_355 : fld (f a_0) 12 = (v_35 : Int32).toInt := by rw [e_22]; rfl
          have fe_356 : fld (f a_0) 20 = (v_39 : Int32).toInt := by rw [e_22]; rfl
          obtain ⟨v_358, v_359, v_361, v_363, v_365, v_367, v_369, v_370, v_371, v_372, v_374, e_357, b_360, b_362, b_364, b_366, b_368, b_373, b_375⟩ := hW_352.at m_1 t_2
          have fe_376 : fld (f_346 a_0) 8 = (v_363 : Int32).toInt := by rw [e_357]; rfl
          have fe_377 : fld (f_346 a_0) 9 = (v_365 : Int32).toInt := by rw [e_357]; rfl
          have fe_378 : fld (f_346 a_0) 10 = (v_367 : Int32).toInt := by rw [e_357]; rfl
          have fe_379 : fld (f_346 a_0) 12 = (v_370 : Int32).toInt := by rw [e_357]; rfl
          have fe_380 : fld (f_346 a_0) 20 = (v_374 : Int32).toInt := by rw [e_357]; rfl
          rw [fe_354, fe_377, fe_376] at x_348
          rw [fe_378, fe_377, fe_376] at x_349
          rw [fe_379, fe_355] at x_350
          rw [fe_380, fe_356] at x_351
          clear fe_354 fe_355 fe_356 fe_376 fe_377 fe_378 fe_379 fe_380
          refine v_iload_n hC dX12_number_65 rfl ?_
          have fe_381 : fld (f_346 a_0) 12 = (v_370 : Int32).toInt := by rw [e_357]; rfl
          have fe_382 : fld (f_346 a_0) 8 = (v_363 : Int32).toInt := by rw [e_357]; rfl
          have fe_383 : fld (f_346 a_0) 9 = (v_365 : Int32).toInt := by rw [e_357]; rfl
          have fe_384 : fld (f_346 a_0) 12 = (v_370 : Int32).toInt := by rw [e_357]; rfl
          have fe_385 : fld (f_346 a_0) 8 = (v_363 : Int32).toInt := by rw [e_357]; rfl
          have fe_386 : fld (f_346 a_0) 9 = (v_365 : Int32).toInt := by rw [e_357]; rfl
          have fe_387 : fld (f_346 a_0) 10 = (v_367 : Int32).toInt := by rw [e_357]; rfl
          have fe_388 : fld (f_346 a_0) 12 = (v_370 : Int32).toInt := by rw [e_357]; rfl
          have fe_389 : fld (f_346 a_0) 12 = (v_370 : Int32).toInt := by rw [e_357]; rfl
          have fe_390 : fld (f_346 a_0) 20 = (v_374 : Int32).toInt := by rw [e_357]; rfl
          exact hR _ _ _ _ _ _ _ dX12_number_66 rfl (Nat.le_of_ble_eq_true rfl) (Nat.le_of_ble_eq_true rfl) ⟨rfl, hW_352, (hF_353.mono rfl), (by simp only [fe_381, mz_43, true_and, and_true, or_true, true_or, false_or, or_false, false_and, and_false, not_true_eq_false, not_false_eq_true] <;> first | omega | (simp only [Int32.lt_iff_toInt_lt, Int32.le_iff_toInt_le, Int32.reduceToInt, ← Int32.toInt_inj, true_and, and_true, or_true, true_or, false_or, or_false, false_and, and_false, not_true_eq_false, not_false_eq_true] <;> omega)), (by simp only [fe_382, fe_383, fe_384, mz_41, mz_42, true_and, and_true, or_true, true_or, false_or, or_false, false_and, and_false, not_true_eq_false, not_false_eq_true] <;> first | omega | (simp only [Int32.lt_iff_toInt_lt, Int32.le_iff_toInt_le, Int32.reduceToInt, ← Int32.toInt_inj, true_and, and_true, or_true, true_or, false_or, or_false, false_and, and_false, not_true_eq_false, not_false_eq_true] <;> omega)), (by simp only [fe_385, fe_386, fe_387, fe_388, true_and, and_true, or_true, true_or, false_or, or_false, false_and, and_false, not_true_eq_false, not_false_eq_true] <;> first | omega | (simp only [Int32.lt_iff_toInt_lt, Int32.le_iff_toInt_le, Int32.reduceToInt, ← Int32.toInt_inj, true_and, and_true, or_true, true_or, false_or, or_false, false_and, and_false, not_true_eq_false, not_false_eq_true] <;> omega)), (by simp only [fe_389, true_and, and_true, or_true, true_or, false_or, or_false, false_and, and_false, not_true_eq_false, not_false_eq_true] <;> first | omega | (simp only [Int32.lt_iff_toInt_lt, Int32.le_iff_toInt_le, Int32.reduceToInt, ← Int32.toInt_inj, true_and, and_true, or_true, true_or, false_or, or_false, false_and, and_false, not_true_eq_false, not_false_eq_true] <;> omega)), (by simp only [fe_390, mz_44, true_and, and_true, or_true, true_or, false_or, or_false, false_and, and_false, not_true_eq_false, not_false_eq_true] <;> first | omega | (simp only [Int32.lt_iff_toInt_lt, Int32.le_iff_toInt_le, Int32.reduceToInt, ← Int32.toInt_inj, true_and, and_true, or_true, true_or, false_or, or_false, false_and, and_false, not_true_eq_false, not_false_eq_true] <;> omega))⟩
        · simp only [Int32.lt_iff_toInt_lt, Int32.le_iff_toInt_le, Int32.reduceToInt, ← Int32.toInt_inj] at h_343
          refine v_iconst hC dX12_number_54 (v := 0) (by decide) ?_
          have fe_391 : fld (f a_0) 12 = (v_35 : Int32).toInt := by rw [e_22]; rfl
          have fe_392 : fld (f a_0) 8 = (v_28 : Int32).toInt := by rw [e_22]; rfl
          have fe_393 : fld (f a_0) 9 = (v_30 : Int32).toInt := by rw [e_22]; rfl
          have fe_394 : fld (f a_0) 12 = (v_35 : Int32).toInt := by rw [e_22]; rfl
          have fe_395 : fld (f a_0) 8 = (v_28 : Int32).toInt := by rw [e_22]; rfl
          have fe_396 : fld (f a_0) 9 = (v_30 : Int32).toInt := by rw [e_22]; rfl
          have fe_397 : fld (f a_0) 10 = (v_32 : Int32).toInt := by rw [e_22]; rfl
          have fe_398 : fld (f a_0) 12 = (v_35 : Int32).toInt := by rw [e_22]; rfl
          have fe_399 : fld (f a_0) 12 = (v_35 : Int32).toInt := by rw [e_22]; rfl
          have fe_400 : fld (f a_0) 20 = (v_39 : Int32).toInt := by rw [e_22]; rfl
          exact hR _ _ _ _ _ _ _ dX12_number_55 rfl (Nat.le_of_ble_eq_true rfl) (Nat.le_of_ble_eq_true rfl) ⟨rfl, hW, FR.rf, (by simp only [fe_391, mz_43, true_and, and_true, or_true, true_or, false_or, or_false, false_and, and_false, not_true_eq_false, not_false_eq_true] <;> first | omega | (simp only [Int32.lt_iff_toInt_lt, Int32.le_iff_toInt_le, Int32.reduceToInt, ← Int32.toInt_inj, true_and, and_true, or_true, true_or, false_or, or_false, false_and, and_false, not_true_eq_false, not_false_eq_true] <;> omega)), (by simp only [fe_392, fe_393, fe_394, mz_41, mz_42, true_and, and_true, or_true, true_or, false_or, or_false, false_and, and_false, not_true_eq_false, not_false_eq_true] <;> first | omega | (simp only [Int32.lt_iff_toInt_lt, Int32.le_iff_toInt_le, Int32.reduceToInt, ← Int32.toInt_inj, true_and, and_true, or_true, true_or, false_or, or_false, false_and, and_false, not_true_eq_false, not_false_eq_true] <;> omega)), (by simp only [fe_395, fe_396, fe_397, fe_398, true_and, and_true, or_true, true_or, false_or, or_false, false_and, and_false, not_true_eq_false, not_false_eq_true] <;> first | omega | (simp only [Int32.lt_iff_toInt_lt, Int32.le_iff_toInt_le, Int32.reduceToInt, ← Int32.toInt_inj, true_and, and_true, or_true, true_or, false_or, or_false, false_and, and_false, not_true_eq_false, not_false_eq_true] <;> omega)), (by simp only [fe_399, true_and, and_true, or_true, true_or, false_or, or_false, false_and, and_false, not_true_eq_false, not_false_eq_true] <;> first | omega | (simp only [Int32.lt_iff_toInt_lt, Int32.le_iff_toInt_le, Int32.reduceToInt, ← Int32.toInt_inj, true_and, and_true, or_true, true_or, false_or, or_false, false_and, and_false, not_true_eq_false, not_false_eq_true] <;> omega)), (by simp only [fe_400, mz_44, true_and, and_true, or_true, true_or, false_or, or_false, false_and, and_false, not_true_eq_false, not_false_eq_true] <;> first | omega | (simp only [Int32.lt_iff_toInt_lt, Int32.le_iff_toInt_le, Int32.reduceToInt, ← Int32.toInt_inj, true_and, and_true, or_true, true_or, false_or, or_false, false_and, and_false, not_true_eq_false, not_false_eq_true] <;> omega))⟩
      · simp only [Int32.lt_iff_toInt_lt, Int32.le_iff_toInt_le, Int32.reduceToInt, ← Int32.toInt_inj] at h_333
        refine v_aload_n hC dX12_number_27 rfl ?_
        refine v_get hC fl_X12_131 m_1 e_22 rfl dX12_number_28 ?_
        obtain ⟨v_401, h_402⟩ : ∃ v9 : Int64, v_34.toInt64 = v9 := ⟨_, rfl⟩
        refine v_i2l hC dX12_number_31 h_402 ?_
        have h_403 : v_401.toInt = v_34.toInt := by rw [← h_402]; exact Int32.toInt_toInt64 _
        refine v_iload_n hC dX12_number_32 rfl ?_
        obtain ⟨v_404, h_405⟩ : ∃ v9 : Int64, a_1.toInt64 = v9 := ⟨_, rfl⟩
        refine v_i2l hC dX12_number_33 h_405 ?_
        have h_406 : v_404.toInt = a_1.toInt := by rw [← h_405]; exact Int32.toInt_toInt64 _
        refine v_iload_n hC dX12_number_34 rfl ?_
        obtain ⟨v_407, h_408⟩ : ∃ v9 : Int64, a_2.toInt64 = v9 := ⟨_, rfl⟩
        refine v_i2l hC dX12_number_35 h_408 ?_
        have h_409 : v_407.toInt = a_2.toInt := by rw [← h_408]; exact Int32.toInt_toInt64 _
        refine v_si hC (rest := []) mt_X12_in (p_X12_in hW) mx_X12_in ml_X12_79 (by decide) rfl (cells1 := 0) (slots1 := 0) (by decide) (by decide) (Nat.le_of_ble_eq_true rfl) (Nat.le_of_ble_eq_true rfl) rfl (Nat.le_of_ble_eq_true rfl) dX12_number_36 (fun r_410 L_411 f_412 h_413 => ?_)
        obtain ⟨rfl, rfl, b_414, x_415⟩ := h_413
        try simp only [Int32.reduceToInt, Int64.reduceToInt] at x_415
        refine v_if_ne hC dX12_number_39 (tgt := 47) (by decide) (fun h_418 => ?_) (fun h_418 => ?_)
        · simp only [Int32.lt_iff_toInt_lt, Int32.le_iff_toInt_le, Int32.reduceToInt, ← Int32.toInt_inj] at h_418
          refine v_aload_n hC dX12_number_47 rfl ?_
          refine v_vi hC (rest := []) m_1 e_22 rfl mi_X12_good ms_X12_good (p_X12_good hW k_0) mx_X12_good ml_X12_139 (by decide) rfl (cells1 := 0) (slots1 := 0) (by decide) (by decide) (Nat.le_of_ble_eq_true rfl) (Nat.le_of_ble_eq_true rfl) rfl (Nat.le_of_ble_eq_true rfl) dX12_number_48 (fun r_419 L_420 f_421 h_422 => ?_)
          obtain ⟨rfl, rfl, b_423, x_424⟩ := h_422
          have fe_427 : fld (f a_0) 12 = (v_35 : Int32).toInt := by rw [e_22]; rfl
          rw [fe_427] at x_424
          clear fe_427
          try simp only [Int32.reduceToInt, Int64.reduceToInt] at x_424
          refine v_if_ne hC dX12_number_51 (tgt := 56) (by decide) (fun h_428 => ?_) (fun h_428 => ?_)
          · simp only [Int32.lt_iff_toInt_lt, Int32.le_iff_toInt_le, Int32.reduceToInt, ← Int32.toInt_inj] at h_428
            refine v_aload_n hC dX12_number_56 rfl ?_
            refine v_get hC fl_X12_131 m_1 e_22 rfl dX12_number_57 ?_
            refine v_istore_n hC dX12_number_60 (by decide) (lv' := [(3, .int v_34), (0, .ref a_0), (1, .int a_1), (2, .int a_2)]) rfl ?_
            refine v_aload_n hC dX12_number_61 rfl ?_
            refine v_vv hC (rest := []) m_1 e_22 rfl mi_X12_advance ms_X12_advance (p_X12_advance hW k_0) mx_X12_advance ml_X12_156 (by decide) rfl (cells1 := 0) (slots1 := 0) (by decide) (by decide) (Nat.le_of_ble_eq_true rfl) (Nat.le_of_ble_eq_true rfl) rfl (Nat.le_of_ble_eq_true rfl) dX12_number_62 (fun L_430 f_431 h_432 => ?_)
            obtain ⟨rfl, hW_437, hF_438, x_433, x_434, x_435, x_436⟩ := h_432
            have fe_439 : fld (f a_0) 8 = (v_28 : Int32).toInt := by rw [e_22]; rfl
            have fe_440 : fld (f a_0) 12 = (v_35 : Int32).toInt := by rw [e_22]; rfl
            have fe_441 : fld (f a_0) 20 = (v_39 : Int32).toInt := by rw [e_22]; rfl
            obtain ⟨v_443, v_444, v_446, v_448, v_450, v_452, v_454, v_455, v_456, v_457, v_459, e_442, b_445, b_447, b_449, b_451, b_453, b_458, b_460⟩ := hW_437.at m_1 t_2
            have fe_461 : fld (f_431 a_0) 8 = (v_448 : Int32).toInt := by rw [e_442]; rfl
            have fe_462 : fld (f_431 a_0) 9 = (v_450 : Int32).toInt := by rw [e_442]; rfl
            have fe_463 : fld (f_431 a_0) 10 = (v_452 : Int32).toInt := by rw [e_442]; rfl
            have fe_464 : fld (f_431 a_0) 12 = (v_455 : Int32).toInt := by rw [e_442]; rfl
            have fe_465 : fld (f_431 a_0) 20 = (v_459 : Int32).toInt := by rw [e_442]; rfl
            rw [fe_439, fe_462, fe_461] at x_433
            rw [fe_463, fe_462, fe_461] at x_434
            rw [fe_464, fe_440] at x_435
            rw [fe_465, fe_441] at x_436
            clear fe_439 fe_440 fe_441 fe_461 fe_462 fe_463 fe_464 fe_465
            refine v_iload_n hC dX12_number_65 rfl ?_
            have fe_466 : fld (f_431 a_0) 12 = (v_455 : Int32).toInt := by rw [e_442]; rfl
            have fe_467 : fld (f_431 a_0) 8 = (v_448 : Int32).toInt := by rw [e_442]; rfl
            have fe_468 : fld (f_431 a_0) 9 = (v_450 : Int32).toInt := by rw [e_442]; rfl
            have fe_469 : fld (f_431 a_0) 12 = (v_455 : Int32).toInt := by rw [e_442]; rfl
            have fe_470 : fld (f_431 a_0) 8 = (v_448 : Int32).toInt := by rw [e_442]; rfl
            have fe_471 : fld (f_431 a_0) 9 = (v_450 : Int32).toInt := by rw [e_442]; rfl
            have fe_472 : fld (f_431 a_0) 10 = (v_452 : Int32).toInt := by rw [e_442]; rfl
            have fe_473 : fld (f_431 a_0) 12 = (v_455 : Int32).toInt := by rw [e_442]; rfl
            have fe_474 : fld (f_431 a_0) 12 = (v_455 : Int32).toInt := by rw [e_442]; rfl
            have fe_475 : fld (f_431 a_0) 20 = (v_459 : Int32).toInt := by rw [e_442]; rfl
            exact hR _ _ _ _ _ _ _ dX12_number_66 rfl (Nat.le_of_ble_eq_true rfl) (Nat.le_of_ble_eq_true rfl) ⟨rfl, hW_437, (hF_438.mono rfl), (by simp only [fe_466, mz_43, true_and, and_true, or_true, true_or, false_or, or_false, false_and, and_false, not_true_eq_false, not_false_eq_true] <;> first | omega | (simp only [Int32.lt_iff_toInt_lt, Int32.le_iff_toInt_le, Int32.reduceToInt, ← Int32.toInt_inj, true_and, and_true, or_true, true_or, false_or, or_false, false_and, and_false, not_true_eq_false, not_false_eq_true] <;> omega)), (by simp only [fe_467, fe_468, fe_469, mz_41, mz_42, true_and, and_true, or_true, true_or, false_or, or_false, false_and, and_false, not_true_eq_false, not_false_eq_true] <;> first | omega | (simp only [Int32.lt_iff_toInt_lt, Int32.le_iff_toInt_le, Int32.reduceToInt, ← Int32.toInt_inj, true_and, and_true, or_true, true_or, false_or, or_false, false_and, and_false, not_true_eq_false, not_false_eq_true] <;> omega)), (by simp only [fe_470, fe_471, fe_472, fe_473, true_and, and_true, or_true, true_or, false_or, or_false, false_and, and_false, not_true_eq_false, not_false_eq_true] <;> first | omega | (simp only [Int32.lt_iff_toInt_lt, Int32.le_iff_toInt_le, Int32.reduceToInt, ← Int32.toInt_inj, true_and, and_true, or_true, true_or, false_or, or_false, false_and, and_false, not_true_eq_false, not_false_eq_true] <;> omega)), (by simp only [fe_474, true_and, and_true, or_true, true_or, false_or, or_false, false_and, and_false, not_true_eq_false, not_false_eq_true] <;> first | omega | (simp only [Int32.lt_iff_toInt_lt, Int32.le_iff_toInt_le, Int32.reduceToInt, ← Int32.toInt_inj, true_and, and_true, or_true, true_or, false_or, or_false, false_and, and_false, not_true_eq_false, not_false_eq_true] <;> omega)), (by simp only [fe_475, mz_44, true_and, and_true, or_true, true_or, false_or, or_false, false_and, and_false, not_true_eq_false, not_false_eq_true] <;> first | omega | (simp only [Int32.lt_iff_toInt_lt, Int32.le_iff_toInt_le, Int32.reduceToInt, ← Int32.toInt_inj, true_and, and_true, or_true, true_or, false_or, or_false, false_and, and_false, not_true_eq_false, not_false_eq_true] <;> omega))⟩
          · simp only [Int32.lt_iff_toInt_lt, Int32.le_iff_toInt_le, Int32.reduceToInt, ← Int32.toInt_inj] at h_428
            refine v_iconst hC dX12_number_54 (v := 0) (by decide) ?_
            have fe_476 : fld (f a_0) 12 = (v_35 : Int32).toInt := by rw [e_22]; rfl
            have fe_477 : fld (f a_0) 8 = (v_28 : Int32).toInt := by rw [e_22]; rfl
            have fe_478 : fld (f a_0) 9 = (v_30 : Int32).toInt := by rw [e_22]; rfl
            have fe_479 : fld (f a_0) 12 = (v_35 : Int32).toInt := by rw [e_22]; rfl
            have fe_480 : fld (f a_0) 8 = (v_28 : Int32).toInt := by rw [e_22]; rfl
            have fe_481 : fld (f a_0) 9 = (v_30 : Int32).toInt := by rw [e_22]; rfl
            have fe_482 : fld (f a_0) 10 = (v_32 : Int32).toInt := by rw [e_22]; rfl
            have fe_483 : fld (f a_0) 12 = (v_35 : Int32).toInt := by rw [e_22]; rfl
            have fe_484 : fld (f a_0) 12 = (v_35 : Int32).toInt := by rw [e_22]; rfl
            have fe_485 : fld (f a_0) 20 = (v_39 : Int32).toInt := by rw [e_22]; rfl
            exact hR _ _ _ _ _ _ _ dX12_number_55 rfl (Nat.le_of_ble_eq_true rfl) (Nat.le_of_ble_eq_true rfl) ⟨rfl, hW, FR.rf, (by simp only [fe_476, mz_43, true_and, and_true, or_true, true_or, false_or, or_false, false_and, and_false, not_true_eq_false, not_false_eq_true] <;> first | omega | (simp only [Int32.lt_iff_toInt_lt, Int32.le_iff_toInt_le, Int32.reduceToInt, ← Int32.toInt_inj, true_and, and_true, or_true, true_or, false_or, or_false, false_and, and_false, not_true_eq_false, not_false_eq_true] <;> omega)), (by simp only [fe_477, fe_478, fe_479, mz_41, mz_42, true_and, and_true, or_true, true_or, false_or, or_false, false_and, and_false, not_true_eq_false, not_false_eq_true] <;> first | omega | (simp only [Int32.lt_iff_toInt_lt, Int32.le_iff_toInt_le, Int32.reduceToInt, ← Int32.toInt_inj, true_and, and_true, or_true, true_or, false_or, or_false, false_and, and_false, not_true_eq_false, not_false_eq_true] <;> omega)), (by simp only [fe_480, fe_481, fe_482, fe_483, true_and, and_true, or_true, true_or, false_or, or_false, false_and, and_false, not_true_eq_false, not_false_eq_true] <;> first | omega | (simp only [Int32.lt_iff_toInt_lt, Int32.le_iff_toInt_le, Int32.reduceToInt, ← Int32.toInt_inj, true_and, and_true, or_true, true_or, false_or, or_false, false_and, and_false, not_true_eq_false, not_false_eq_true] <;> omega)), (by simp only [fe_484, true_and, and_true, or_true, true_or, false_or, or_false, false_and, and_false, not_true_eq_false, not_false_eq_true] <;> first | omega | (simp only [Int32.lt_iff_toInt_lt, Int32.le_iff_toInt_le, Int32.reduceToInt, ← Int32.toInt_inj, true_and, and_true, or_true, true_or, false_or, or_false, false_and, and_false, not_true_eq_false, not_false_eq_true] <;> omega)), (by simp only [fe_485, mz_44, true_and, and_true, or_true, true_or, false_or, or_false, false_and, and_false, not_true_eq_false, not_false_eq_true] <;> first | omega | (simp only [Int32.lt_iff_toInt_lt, Int32.le_iff_toInt_le, Int32.reduceToInt, ← Int32.toInt_inj, true_and, and_true, or_true, true_or, false_or, or_false, false_and, and_false, not_true_eq_false, not_false_eq_true] <;> omega))⟩
        · simp only [Int32.lt_iff_toInt_lt, Int32.le_iff_toInt_le, Int32.reduceToInt, ← Int32.toInt_inj] at h_418
          refine v_aload_n hC dX12_number_42 rfl ?_
          refine v_iconst hC dX12_number_43 (v := 2) (by decide) ?_
          refine v_vv hC (rest := []) m_1 e_22 rfl mi_X12_errs ms_X12_errs (p_X12_errs hW k_0 (by decide)) mx_X12_errs ml_X12_162 (by decide) rfl (cells1 := 0) (slots1 := 0) (by decide) (by decide) (Nat.le_of_ble_eq_true rfl) (Nat.le_of_ble_eq_true rfl) rfl (Nat.le_of_ble_eq_true rfl) dX12_number_44 (fun L_487 f_488 h_489 => ?_)
          obtain ⟨rfl, hW_495, hF_496, x_490, x_491, x_492, x_493, x_494⟩ := h_489
          have fe_497 : fld (f a_0) 8 = (v_28 : Int32).toInt := by rw [e_22]; rfl
          have fe_498 : fld (f a_0) 9 = (v_30 : Int32).toInt := by rw [e_22]; rfl
          have fe_499 : fld (f a_0) 10 = (v_32 : Int32).toInt := by rw [e_22]; rfl
          have fe_500 : fld (f a_0) 20 = (v_39 : Int32).toInt := by rw [e_22]; rfl
          obtain ⟨v_502, v_503, v_505, v_507, v_509, v_511, v_513, v_514, v_515, v_516, v_518, e_501, b_504, b_506, b_508, b_510, b_512, b_517, b_519⟩ := hW_495.at m_1 t_2
          have fe_520 : fld (f_488 a_0) 8 = (v_507 : Int32).toInt := by rw [e_501]; rfl
          have fe_521 : fld (f_488 a_0) 9 = (v_509 : Int32).toInt := by rw [e_501]; rfl
          have fe_522 : fld (f_488 a_0) 10 = (v_511 : Int32).toInt := by rw [e_501]; rfl
          have fe_523 : fld (f_488 a_0) 12 = (v_514 : Int32).toInt := by rw [e_501]; rfl
          have fe_524 : fld (f_488 a_0) 20 = (v_518 : Int32).toInt := by rw [e_501]; rfl
          rw [fe_523] at x_490
          rw [fe_520, fe_497] at x_491
          rw [fe_521, fe_498] at x_492
          rw [fe_522, fe_499] at x_493
          rw [fe_524, fe_500] at x_494
          clear fe_497 fe_498 fe_499 fe_500 fe_520 fe_521 fe_522 fe_523 fe_524
          refine v_aload_n hC dX12_number_47 rfl ?_
          refine v_vi hC (rest := []) m_1 e_501 rfl mi_X12_good ms_X12_good (p_X12_good hW_495 k_0) mx_X12_good ml_X12_139 (by decide) rfl (cells1 := 0) (slots1 := 0) (by decide) (by decide) (Nat.le_of_ble_eq_true rfl) (Nat.le_of_ble_eq_true rfl) rfl (Nat.le_of_ble_eq_true rfl) dX12_number_48 (fun r_525 L_526 f_527 h_528 => ?_)
          obtain ⟨rfl, rfl, b_529, x_530⟩ := h_528
          have fe_533 : fld (f_488 a_0) 12 = (v_514 : Int32).toInt := by rw [e_501]; rfl
          rw [fe_533] at x_530
          clear fe_533
          try simp only [Int32.reduceToInt, Int64.reduceToInt] at x_530
          refine v_if_ne hC dX12_number_51 (tgt := 56) (by decide) (fun h_534 => ?_) (fun h_534 => ?_)
          · simp only [Int32.lt_iff_toInt_lt, Int32.le_iff_toInt_le, Int32.reduceToInt, ← Int32.toInt_inj] at h_534
            refine v_aload_n hC dX12_number_56 rfl ?_
            refine v_get hC fl_X12_131 m_1 e_501 rfl dX12_number_57 ?_
            refine v_istore_n hC dX12_number_60 (by decide) (lv' := [(3, .int v_513), (0, .ref a_0), (1, .int a_1), (2, .int a_2)]) rfl ?_
            refine v_aload_n hC dX12_number_61 rfl ?_
            refine v_vv hC (rest := []) m_1 e_501 rfl mi_X12_advance ms_X12_advance (p_X12_advance hW_495 k_0) mx_X12_advance ml_X12_156 (by decide) rfl (cells1 := 0) (slots1 := 0) (by decide) (by decide) (Nat.le_of_ble_eq_true rfl) (Nat.le_of_ble_eq_true rfl) rfl (Nat.le_of_ble_eq_true rfl) dX12_number_62 (fun L_536 f_537 h_538 => ?_)
            obtain ⟨rfl, hW_543, hF_544, x_539, x_540, x_541, x_542⟩ := h_538
            have fe_545 : fld (f_488 a_0) 8 = (v_507 : Int32).toInt := by rw [e_501]; rfl
            have fe_546 : fld (f_488 a_0) 12 = (v_514 : Int32).toInt := by rw [e_501]; rfl
            have fe_547 : fld (f_488 a_0) 20 = (v_518 : Int32).toInt := by rw [e_501]; rfl
            obtain ⟨v_549, v_550, v_552, v_554, v_556, v_558, v_560, v_561, v_562, v_563, v_565, e_548, b_551, b_553, b_555, b_557, b_559, b_564, b_566⟩ := hW_543.at m_1 t_2
            have fe_567 : fld (f_537 a_0) 8 = (v_554 : Int32).toInt := by rw [e_548]; rfl
            have fe_568 : fld (f_537 a_0) 9 = (v_556 : Int32).toInt := by rw [e_548]; rfl
            have fe_569 : fld (f_537 a_0) 10 = (v_558 : Int32).toInt := by rw [e_548]; rfl
            have fe_570 : fld (f_537 a_0) 12 = (v_561 : Int32).toInt := by rw [e_548]; rfl
            have fe_571 : fld (f_537 a_0) 20 = (v_565 : Int32).toInt := by rw [e_548]; rfl
            rw [fe_545, fe_568, fe_567] at x_539
            rw [fe_569, fe_568, fe_567] at x_540
            rw [fe_570, fe_546] at x_541
            rw [fe_571, fe_547] at x_542
            clear fe_545 fe_546 fe_547 fe_567 fe_568 fe_569 fe_570 fe_571
            refine v_iload_n hC dX12_number_65 rfl ?_
            have fe_572 : fld (f_537 a_0) 12 = (v_561 : Int32).toInt := by rw [e_548]; rfl
            have fe_573 : fld (f_537 a_0) 8 = (v_554 : Int32).toInt := by rw [e_548]; rfl
            have fe_574 : fld (f_537 a_0) 9 = (v_556 : Int32).toInt := by rw [e_548]; rfl
            have fe_575 : fld (f_537 a_0) 12 = (v_561 : Int32).toInt := by rw [e_548]; rfl
            have fe_576 : fld (f_537 a_0) 8 = (v_554 : Int32).toInt := by rw [e_548]; rfl
            have fe_577 : fld (f_537 a_0) 9 = (v_556 : Int32).toInt := by rw [e_548]; rfl
            have fe_578 : fld (f_537 a_0) 10 = (v_558 : Int32).toInt := by rw [e_548]; rfl
            have fe_579 : fld (f_537 a_0) 12 = (v_561 : Int32).toInt := by rw [e_548]; rfl
            have fe_580 : fld (f_537 a_0) 12 = (v_561 : Int32).toInt := by rw [e_548]; rfl
            have fe_581 : fld (f_537 a_0) 20 = (v_565 : Int32).toInt := by rw [e_548]; rfl
            exact hR _ _ _ _ _ _ _ dX12_number_66 rfl (Nat.le_of_ble_eq_true rfl) (Nat.le_of_ble_eq_true rfl) ⟨rfl, hW_543, ((hF_496.tr hF_544).mono rfl), (by simp only [fe_572, mz_43, true_and, and_true, or_true, true_or, false_or, or_false, false_and, and_false, not_true_eq_false, not_false_eq_true] <;> first | omega | (simp only [Int32.lt_iff_toInt_lt, Int32.le_iff_toInt_le, Int32.reduceToInt, ← Int32.toInt_inj, true_and, and_true, or_true, true_or, false_or, or_false, false_and, and_false, not_true_eq_false, not_false_eq_true] <;> omega)), (by simp only [fe_573, fe_574, fe_575, mz_41, mz_42, true_and, and_true, or_true, true_or, false_or, or_false, false_and, and_false, not_true_eq_false, not_false_eq_true] <;> first | omega | (simp only [Int32.lt_iff_toInt_lt, Int32.le_iff_toInt_le, Int32.reduceToInt, ← Int32.toInt_inj, true_and, and_true, or_true, true_or, false_or, or_false, false_and, and_false, not_true_eq_false, not_false_eq_true] <;> omega)), (by simp only [fe_576, fe_577, fe_578, fe_579, true_and, and_true, or_true, true_or, false_or, or_false, false_and, and_false, not_true_eq_false, not_false_eq_true] <;> first | omega | (simp only [Int32.lt_iff_toInt_lt, Int32.le_iff_toInt_le, Int32.reduceToInt, ← Int32.toInt_inj, true_and, and_true, or_true, true_or, false_or, or_false, false_and, and_false, not_true_eq_false, not_false_eq_true] <;> omega)), (by simp only [fe_580, true_and, and_true, or_true, true_or, false_or, or_false, false_and, and_false, not_true_eq_false, not_false_eq_true] <;> first | omega | (simp only [Int32.lt_iff_toInt_lt, Int32.le_iff_toInt_le, Int32.reduceToInt, ← Int32.toInt_inj, true_and, and_true, or_true, true_or, false_or, or_false, false_and, and_false, not_true_eq_false, not_false_eq_true] <;> omega)), (by simp only [fe_581, mz_44, true_and, and_true, or_true, true_or, false_or, or_false, false_and, and_false, not_true_eq_false, not_false_eq_true] <;> first | omega | (simp only [Int32.lt_iff_toInt_lt, Int32.le_iff_toInt_le, Int32.reduceToInt, ← Int32.toInt_inj, true_and, and_true, or_true, true_or, false_or, or_false, false_and, and_false, not_true_eq_false, not_false_eq_true] <;> omega))⟩
          · simp only [Int32.lt_iff_toInt_lt, Int32.le_iff_toInt_le, Int32.reduceToInt, ← Int32.toInt_inj] at h_534
            refine v_iconst hC dX12_number_54 (v := 0) (by decide) ?_
            have fe_582 : fld (f_488 a_0) 12 = (v_514 : Int32).toInt := by rw [e_501]; rfl
            have fe_583 : fld (f_488 a_0) 8 = (v_507 : Int32).toInt := by rw [e_501]; rfl
            have fe_584 : fld (f_488 a_0) 9 = (v_509 : Int32).toInt := by rw [e_501]; rfl
            have fe_585 : fld (f_488 a_0) 12 = (v_514 : Int32).toInt := by rw [e_501]; rfl
            have fe_586 : fld (f_488 a_0) 8 = (v_507 : Int32).toInt := by rw [e_501]; rfl
            have fe_587 : fld (f_488 a_0) 9 = (v_509 : Int32).toInt := by rw [e_501]; rfl
            have fe_588 : fld (f_488 a_0) 10 = (v_511 : Int32).toInt := by rw [e_501]; rfl
            have fe_589 : fld (f_488 a_0) 12 = (v_514 : Int32).toInt := by rw [e_501]; rfl
            have fe_590 : fld (f_488 a_0) 12 = (v_514 : Int32).toInt := by rw [e_501]; rfl
            have fe_591 : fld (f_488 a_0) 20 = (v_518 : Int32).toInt := by rw [e_501]; rfl
            exact hR _ _ _ _ _ _ _ dX12_number_55 rfl (Nat.le_of_ble_eq_true rfl) (Nat.le_of_ble_eq_true rfl) ⟨rfl, hW_495, (hF_496.mono rfl), (by simp only [fe_582, mz_43, true_and, and_true, or_true, true_or, false_or, or_false, false_and, and_false, not_true_eq_false, not_false_eq_true] <;> first | omega | (simp only [Int32.lt_iff_toInt_lt, Int32.le_iff_toInt_le, Int32.reduceToInt, ← Int32.toInt_inj, true_and, and_true, or_true, true_or, false_or, or_false, false_and, and_false, not_true_eq_false, not_false_eq_true] <;> omega)), (by simp only [fe_583, fe_584, fe_585, mz_41, mz_42, true_and, and_true, or_true, true_or, false_or, or_false, false_and, and_false, not_true_eq_false, not_false_eq_true] <;> first | omega | (simp only [Int32.lt_iff_toInt_lt, Int32.le_iff_toInt_le, Int32.reduceToInt, ← Int32.toInt_inj, true_and, and_true, or_true, true_or, false_or, or_false, false_and, and_false, not_true_eq_false, not_false_eq_true] <;> omega)), (by simp only [fe_586, fe_587, fe_588, fe_589, true_and, and_true, or_true, true_or, false_or, or_false, false_and, and_false, not_true_eq_false, not_false_eq_true] <;> first | omega | (simp only [Int32.lt_iff_toInt_lt, Int32.le_iff_toInt_le, Int32.reduceToInt, ← Int32.toInt_inj, true_and, and_true, or_true, true_or, false_or, or_false, false_and, and_false, not_true_eq_false, not_false_eq_true] <;> omega)), (by simp only [fe_590, true_and, and_true, or_true, true_or, false_or, or_false, false_and, and_false, not_true_eq_false, not_false_eq_true] <;> first | omega | (simp only [Int32.lt_iff_toInt_lt, Int32.le_iff_toInt_le, Int32.reduceToInt, ← Int32.toInt_inj, true_and, and_true, or_true, true_or, false_or, or_false, false_and, and_false, not_true_eq_false, not_false_eq_true] <;> omega)), (by simp only [fe_591, mz_44, true_and, and_true, or_true, true_or, false_or, or_false, false_and, and_false, not_true_eq_false, not_false_eq_true] <;> first | omega | (simp only [Int32.lt_iff_toInt_lt, Int32.le_iff_toInt_le, Int32.reduceToInt, ← Int32.toInt_inj, true_and, and_true, or_true, true_or, false_or, or_false, false_and, and_false, not_true_eq_false, not_false_eq_true] <;> omega))⟩
    · simp only [Int32.lt_iff_toInt_lt, Int32.le_iff_toInt_le, Int32.reduceToInt, ← Int32.toInt_inj] at h_323
      refine v_aload_n hC dX12_number_15 rfl ?_
      refine v_iconst hC dX12_number_16 (v := 1) (by decide) ?_
      refine v_vv hC (rest := []) m_1 e_22 rfl mi_X12_errs ms_X12_errs (p_X12_errs hW k_0 (by decide)) mx_X12_errs ml_X12_162 (by decide) rfl (cells1 := 0) (slots1 := 0) (by decide) (by decide) (Nat.le_of_ble_eq_true rfl) (Nat.le_of_ble_eq_true rfl) rfl (Nat.le_of_ble_eq_true rfl) dX12_number_17 (fun L_593 f_594 h_595 => ?_)
      obtain ⟨rfl, hW_601, hF_602, x_596, x_597, x_598, x_599, x_600⟩ := h_595
      have fe_603 : fld (f a_0) 8 = (v_28 : Int32).toInt := by rw [e_22]; rfl
      have fe_604 : fld (f a_0) 9 = (v_30 : Int32).toInt := by rw [e_22]; rfl
      have fe_605 : fld (f a_0) 10 = (v_32 : Int32).toInt := by rw [e_22]; rfl
      have fe_606 : fld (f a_0) 20 = (v_39 : Int32).toInt := by rw [e_22]; rfl
      obtain ⟨v_608, v_609, v_611, v_613, v_615, v_617, v_619, v_620, v_621, v_622, v_624, e_607, b_610, b_612, b_614, b_616, b_618, b_623, b_625⟩ := hW_601.at m_1 t_2
      have fe_626 : fld (f_594 a_0) 8 = (v_613 : Int32).toInt := by rw [e_607]; rfl
      have fe_627 : fld (f_594 a_0) 9 = (v_615 : Int32).toInt := by rw [e_607]; rfl
      have fe_628 : fld (f_594 a_0) 10 = (v_617 : Int32).toInt := by rw [e_607]; rfl
      have fe_629 : fld (f_594 a_0) 12 = (v_620 : Int32).toInt := by rw [e_607]; rfl
      have fe_630 : fld (f_594 a_0) 20 = (v_624 : Int32).toInt := by rw [e_607]; rfl
      rw [fe_629] at x_596
      rw [fe_626, fe_603] at x_597
      rw [fe_627, fe_604] at x_598
      rw [fe_628, fe_605] at x_599
      rw [fe_630, fe_606] at x_600
      clear fe_603 fe_604 fe_605 fe_606 fe_626 fe_627 fe_628 fe_629 fe_630
      refine v_aload_n hC dX12_number_20 rfl ?_
      refine v_vi hC (rest := []) m_1 e_607 rfl mi_X12_good ms_X12_good (p_X12_good hW_601 k_0) mx_X12_good ml_X12_139 (by decide) rfl (cells1 := 0) (slots1 := 0) (by decide) (by decide) (Nat.le_of_ble_eq_true rfl) (Nat.le_of_ble_eq_true rfl) rfl (Nat.le_of_ble_eq_true rfl) dX12_number_21 (fun r_631 L_632 f_633 h_634 => ?_)
      obtain ⟨rfl, rfl, b_635, x_636⟩ := h_634
      have fe_639 : fld (f_594 a_0) 12 = (v_620 : Int32).toInt := by rw [e_607]; rfl
      rw [fe_639] at x_636
      clear fe_639
      try simp only [Int32.reduceToInt, Int64.reduceToInt] at x_636
      refine v_if_eq hC dX12_number_24 (tgt := 47) (by decide) (fun h_640 => ?_) (fun h_640 => ?_)
      · simp only [Int32.lt_iff_toInt_lt, Int32.le_iff_toInt_le, Int32.reduceToInt, ← Int32.toInt_inj] at h_640
        refine v_aload_n hC dX12_number_47 rfl ?_
        refine v_vi hC (rest := []) m_1 e_607 rfl mi_X12_good ms_X12_good (p_X12_good hW_601 k_0) mx_X12_good ml_X12_139 (by decide) rfl (cells1 := 0) (slots1 := 0) (by decide) (by decide) (Nat.le_of_ble_eq_true rfl) (Nat.le_of_ble_eq_true rfl) rfl (Nat.le_of_ble_eq_true rfl) dX12_number_48 (fun r_641 L_642 f_643 h_644 => ?_)
        obtain ⟨rfl, rfl, b_645, x_646⟩ := h_644
        have fe_649 : fld (f_594 a_0) 12 = (v_620 : Int32).toInt := by rw [e_607]; rfl
        rw [fe_649] at x_646
        clear fe_649
        try simp only [Int32.reduceToInt, Int64.reduceToInt] at x_646
        refine v_if_ne hC dX12_number_51 (tgt := 56) (by decide) (fun h_650 => ?_) (fun h_650 => ?_)
        · simp only [Int32.lt_iff_toInt_lt, Int32.le_iff_toInt_le, Int32.reduceToInt, ← Int32.toInt_inj] at h_650
          refine v_aload_n hC dX12_number_56 rfl ?_
          refine v_get hC fl_X12_131 m_1 e_607 rfl dX12_number_57 ?_
          refine v_istore_n hC dX12_number_60 (by decide) (lv' := [(3, .int v_619), (0, .ref a_0), (1, .int a_1), (2, .int a_2)]) rfl ?_
          refine v_aload_n hC dX12_number_61 rfl ?_
          refine v_vv hC (rest := []) m_1 e_607 rfl mi_X12_advance ms_X12_advance (p_X12_advance hW_601 k_0) mx_X12_advance ml_X12_156 (by decide) rfl (cells1 := 0) (slots1 := 0) (by decide) (by decide) (Nat.le_of_ble_eq_true rfl) (Nat.le_of_ble_eq_true rfl) rfl (Nat.le_of_ble_eq_true rfl) dX12_number_62 (fun L_652 f_653 h_654 => ?_)
          obtain ⟨rfl, hW_659, hF_660, x_655, x_656, x_657, x_658⟩ := h_654
          have fe_661 : fld (f_594 a_0) 8 = (v_613 : Int32).toInt := by rw [e_607]; rfl
          have fe_662 : fld (f_594 a_0) 12 = (v_620 : Int32).toInt := by rw [e_607]; rfl
          have fe_663 : fld (f_594 a_0) 20 = (v_624 : Int32).toInt := by rw [e_607]; rfl
          obtain ⟨v_665, v_666, v_668, v_670, v_672, v_674, v_676, v_677, v_678, v_679, v_681, e_664, b_667, b_669, b_671, b_673, b_675, b_680, b_682⟩ := hW_659.at m_1 t_2
          have fe_683 : fld (f_653 a_0) 8 = (v_670 : Int32).toInt := by rw [e_664]; rfl
          have fe_684 : fld (f_653 a_0) 9 = (v_672 : Int32).toInt := by rw [e_664]; rfl
          have fe_685 : fld (f_653 a_0) 10 = (v_674 : Int32).toInt := by rw [e_664]; rfl
          have fe_686 : fld (f_653 a_0) 12 = (v_677 : Int32).toInt := by rw [e_664]; rfl
          have fe_687 : fld (f_653 a_0) 20 = (v_681 : Int32).toInt := by rw [e_664]; rfl
          rw [fe_661, fe_684, fe_683] at x_655
          rw [fe_685, fe_684, fe_683] at x_656
          rw [fe_686, fe_662] at x_657
          rw [fe_687, fe_663] at x_658
          clear fe_661 fe_662 fe_663 fe_683 fe_684 fe_685 fe_686 fe_687
          refine v_iload_n hC dX12_number_65 rfl ?_
          have fe_688 : fld (f_653 a_0) 12 = (v_677 : Int32).toInt := by rw [e_664]; rfl
          have fe_689 : fld (f_653 a_0) 8 = (v_670 : Int32).toInt := by rw [e_664]; rfl
          have fe_690 : fld (f_653 a_0) 9 = (v_672 : Int32).toInt := by rw [e_664]; rfl
          have fe_691 : fld (f_653 a_0) 12 = (v_677 : Int32).toInt := by rw [e_664]; rfl
          have fe_692 : fld (f_653 a_0) 8 = (v_670 : Int32).toInt := by rw [e_664]; rfl
          have fe_693 : fld (f_653 a_0) 9 = (v_672 : Int32).toInt := by rw [e_664]; rfl
          have fe_694 : fld (f_653 a_0) 10 = (v_674 : Int32).toInt := by rw [e_664]; rfl
          have fe_695 : fld (f_653 a_0) 12 = (v_677 : Int32).toInt := by rw [e_664]; rfl
          have fe_696 : fld (f_653 a_0) 12 = (v_677 : Int32).toInt := by rw [e_664]; rfl
          have fe_697 : fld (f_653 a_0) 20 = (v_681 : Int32).toInt := by rw [e_664]; rfl
          exact hR _ _ _ _ _ _ _ dX12_number_66 rfl (Nat.le_of_ble_eq_true rfl) (Nat.le_of_ble_eq_true rfl) ⟨rfl, hW_659, ((hF_602.tr hF_660).mono rfl), (by simp only [fe_688, mz_43, true_and, and_true, or_true, true_or, false_or, or_false, false_and, and_false, not_true_eq_false, not_false_eq_true] <;> first | omega | (simp only [Int32.lt_iff_toInt_lt, Int32.le_iff_toInt_le, Int32.reduceToInt, ← Int32.toInt_inj, true_and, and_true, or_true, true_or, false_or, or_false, false_and, and_false, not_true_eq_false, not_false_eq_true] <;> omega)), (by simp only [fe_689, fe_690, fe_691, mz_41, mz_42, true_and, and_true, or_true, true_or, false_or, or_false, false_and, and_false, not_true_eq_false, not_false_eq_true] <;> first | omega | (simp only [Int32.lt_iff_toInt_lt, Int32.le_iff_toInt_le, Int32.reduceToInt, ← Int32.toInt_inj, true_and, and_true, or_true, true_or, false_or, or_false, false_and, and_false, not_true_eq_false, not_false_eq_true] <;> omega)), (by simp only [fe_692, fe_693, fe_694, fe_695, true_and, and_true, or_true, true_or, false_or, or_false, false_and, and_false, not_true_eq_false, not_false_eq_true] <;> first | omega | (simp only [Int32.lt_iff_toInt_lt, Int32.le_iff_toInt_le, Int32.reduceToInt, ← Int32.toInt_inj, true_and, and_true, or_true, true_or, false_or, or_false, false_and, and_false, not_true_eq_false, not_false_eq_true] <;> omega)), (by simp only [fe_696, true_and, and_true, or_true, true_or, false_or, or_false, false_and, and_false, not_true_eq_false, not_false_eq_true] <;> first | omega | (simp only [Int32.lt_iff_toInt_lt, Int32.le_iff_toInt_le, Int32.reduceToInt, ← Int32.toInt_inj, true_and, and_true, or_true, true_or, false_or, or_false, false_and, and_false, not_true_eq_false, not_false_eq_true] <;> omega)), (by simp only [fe_697, mz_44, true_and, and_true, or_true, true_or, false_or, or_false, false_and, and_false, not_true_eq_false, not_false_eq_true] <;> first | omega | (simp only [Int32.lt_iff_toInt_lt, Int32.le_iff_toInt_le, Int32.reduceToInt, ← Int32.toInt_inj, true_and, and_true, or_true, true_or, false_or, or_false, false_and, and_false, not_true_eq_false, not_false_eq_true] <;> omega))⟩
        · simp only [Int32.lt_iff_toInt_lt, Int32.le_iff_toInt_le, Int32.reduceToInt, ← Int32.toInt_inj] at h_650
          refine v_iconst hC dX12_number_54 (v := 0) (by decide) ?_
          have fe_698 : fld (f_594 a_0) 12 = (v_620 : Int32).toInt := by rw [e_607]; rfl
          have fe_699 : fld (f_594 a_0) 8 = (v_613 : Int32).toInt := by rw [e_607]; rfl
          have fe_700 : fld (f_594 a_0) 9 = (v_615 : Int32).toInt := by rw [e_607]; rfl
          have fe_701 : fld (f_594 a_0) 12 = (v_620 : Int32).toInt := by rw [e_607]; rfl
          have fe_702 : fld (f_594 a_0) 8 = (v_613 : Int32).toInt := by rw [e_607]; rfl
          have fe_703 : fld (f_594 a_0) 9 = (v_615 : Int32).toInt := by rw [e_607]; rfl
          have fe_704 : fld (f_594 a_0) 10 = (v_617 : Int32).toInt := by rw [e_607]; rfl
          have fe_705 : fld (f_594 a_0) 12 = (v_620 : Int32).toInt := by rw [e_607]; rfl
          have fe_706 : fld (f_594 a_0) 12 = (v_620 : Int32).toInt := by rw [e_607]; rfl
          have fe_707 : fld (f_594 a_0) 20 = (v_624 : Int32).toInt := by rw [e_607]; rfl
          exact hR _ _ _ _ _ _ _ dX12_number_55 rfl (Nat.le_of_ble_eq_true rfl) (Nat.le_of_ble_eq_true rfl) ⟨rfl, hW_601, (hF_602.mono rfl), (by simp only [fe_698, mz_43, true_and, and_true, or_true, true_or, false_or, or_false, false_and, and_false, not_true_eq_false, not_false_eq_true] <;> first | omega | (simp only [Int32.lt_iff_toInt_lt, Int32.le_iff_toInt_le, Int32.reduceToInt, ← Int32.toInt_inj, true_and, and_true, or_true, true_or, false_or, or_false, false_and, and_false, not_true_eq_false, not_false_eq_true] <;> omega)), (by simp only [fe_699, fe_700, fe_701, mz_41, mz_42, true_and, and_true, or_true, true_or, false_or, or_false, false_and, and_false, not_true_eq_false, not_false_eq_true] <;> first | omega | (simp only [Int32.lt_iff_toInt_lt, Int32.le_iff_toInt_le, Int32.reduceToInt, ← Int32.toInt_inj, true_and, and_true, or_true, true_or, false_or, or_false, false_and, and_false, not_true_eq_false, not_false_eq_true] <;> omega)), (by simp only [fe_702, fe_703, fe_704, fe_705, true_and, and_true, or_true, true_or, false_or, or_false, false_and, and_false, not_true_eq_false, not_false_eq_true] <;> first | omega | (simp only [Int32.lt_iff_toInt_lt, Int32.le_iff_toInt_le, Int32.reduceToInt, ← Int32.toInt_inj, true_and, and_true, or_true, true_or, false_or, or_false, false_and, and_false, not_true_eq_false, not_false_eq_true] <;> omega)), (by simp only [fe_706, true_and, and_true, or_true, true_or, false_or, or_false, false_and, and_false, not_true_eq_false, not_false_eq_true] <;> first | omega | (simp only [Int32.lt_iff_toInt_lt, Int32.le_iff_toInt_le, Int32.reduceToInt, ← Int32.toInt_inj, true_and, and_true, or_true, true_or, false_or, or_false, false_and, and_false, not_true_eq_false, not_false_eq_true] <;> omega)), (by simp only [fe_707, mz_44, true_and, and_true, or_true, true_or, false_or, or_false, false_and, and_false, not_true_eq_false, not_false_eq_true] <;> first | omega | (simp only [Int32.lt_iff_toInt_lt, Int32.le_iff_toInt_le, Int32.reduceToInt, ← Int32.toInt_inj, true_and, and_true, or_true, true_or, false_or, or_false, false_and, and_false, not_true_eq_false, not_false_eq_true] <;> omega))⟩
      · simp only [Int32.lt_iff_toInt_lt, Int32.le_iff_toInt_le, Int32.reduceToInt, ← Int32.toInt_inj] at h_640
        refine v_aload_n hC dX12_number_27 rfl ?_
        refine v_get hC fl_X12_131 m_1 e_607 rfl dX12_number_28 ?_
        obtain ⟨v_708, h_709⟩ : ∃ v9 : Int64, v_619.toInt64 = v9 := ⟨_, rfl⟩
        refine v_i2l hC dX12_number_31 h_709 ?_
        have h_710 : v_708.toInt = v_619.toInt := by rw [← h_709]; exact Int32.toInt_toInt64 _
        refine v_iload_n hC dX12_number_32 rfl ?_
        obtain ⟨v_711, h_712⟩ : ∃ v9 : Int64, a_1.toInt64 = v9 := ⟨_, rfl⟩
        refine v_i2l hC dX12_number_33 h_712 ?_
        have h_713 : v_711.toInt = a_1.toInt := by rw [← h_712]; exact Int32.toInt_toInt64 _
        refine v_iload_n hC dX12_number_34 rfl ?_
        obtain ⟨v_714, h_715⟩ : ∃ v9 : Int64, a_2.toInt64 = v9 := ⟨_, rfl⟩
        refine v_i2l hC dX12_number_35 h_715 ?_
        have h_716 : v_714.toInt = a_2.toInt := by rw [← h_715]; exact Int32.toInt_toInt64 _
        refine v_si hC (rest := []) mt_X12_in (p_X12_in hW_601) mx_X12_in ml_X12_79 (by decide) rfl (cells1 := 0) (slots1 := 0) (by decide) (by decide) (Nat.le_of_ble_eq_true rfl) (Nat.le_of_ble_eq_true rfl) rfl (Nat.le_of_ble_eq_true rfl) dX12_number_36 (fun r_717 L_718 f_719 h_720 => ?_)
        obtain ⟨rfl, rfl, b_721, x_722⟩ := h_720
        try simp only [Int32.reduceToInt, Int64.reduceToInt] at x_722
        refine v_if_ne hC dX12_number_39 (tgt := 47) (by decide) (fun h_725 => ?_) (fun h_725 => ?_)
        · simp only [Int32.lt_iff_toInt_lt, Int32.le_iff_toInt_le, Int32.reduceToInt, ← Int32.toInt_inj] at h_725
          refine v_aload_n hC dX12_number_47 rfl ?_
          refine v_vi hC (rest := []) m_1 e_607 rfl mi_X12_good ms_X12_good (p_X12_good hW_601 k_0) mx_X12_good ml_X12_139 (by decide) rfl (cells1 := 0) (slots1 := 0) (by decide) (by decide) (Nat.le_of_ble_eq_true rfl) (Nat.le_of_ble_eq_true rfl) rfl (Nat.le_of_ble_eq_true rfl) dX12_number_48 (fun r_726 L_727 f_728 h_729 => ?_)
          obtain ⟨rfl, rfl, b_730, x_731⟩ := h_729
          have fe_734 : fld (f_594 a_0) 12 = (v_620 : Int32).toInt := by rw [e_607]; rfl
          rw [fe_734] at x_731
          clear fe_734
          try simp only [Int32.reduceToInt, Int64.reduceToInt] at x_731
          refine v_if_ne hC dX12_number_51 (tgt := 56) (by decide) (fun h_735 => ?_) (fun h_735 => ?_)
          · simp only [Int32.lt_iff_toInt_lt, Int32.le_iff_toInt_le, Int32.reduceToInt, ← Int32.toInt_inj] at h_735
            refine v_aload_n hC dX12_number_56 rfl ?_
            refine v_get hC fl_X12_131 m_1 e_607 rfl dX12_number_57 ?_
            refine v_istore_n hC dX12_number_60 (by decide) (lv' := [(3, .int v_619), (0, .ref a_0), (1, .int a_1), (2, .int a_2)]) rfl ?_
            refine v_aload_n hC dX12_number_61 rfl ?_
            refine v_vv hC (rest := []) m_1 e_607 rfl mi_X12_advance ms_X12_advance (p_X12_advance hW_601 k_0) mx_X12_advance ml_X12_156 (by decide) rfl (cells1 := 0) (slots1 := 0) (by decide) (by decide) (Nat.le_of_ble_eq_true rfl) (Nat.le_of_ble_eq_true rfl) rfl (Nat.le_of_ble_eq_true rfl) dX12_number_62 (fun L_737 f_738 h_739 => ?_)
            obtain ⟨rfl, hW_744, hF_745, x_740, x_741, x_742, x_743⟩ := h_739
            have fe_746 : fld (f_594 a_0) 8 = (v_613 : Int32).toInt := by rw [e_607]; rfl
            have fe_747 : fld (f_594 a_0) 12 = (v_620 : Int32).toInt := by rw [e_607]; rfl
            have fe_748 : fld (f_594 a_0) 20 = (v_624 : Int32).toInt := by rw [e_607]; rfl
            obtain ⟨v_750, v_751, v_753, v_755, v_757, v_759, v_761, v_762, v_763, v_764, v_766, e_749, b_752, b_754, b_756, b_758, b_760, b_765, b_767⟩ := hW_744.at m_1 t_2
            have fe_768 : fld (f_738 a_0) 8 = (v_755 : Int32).toInt := by rw [e_749]; rfl
            have fe_769 : fld (f_738 a_0) 9 = (v_757 : Int32).toInt := by rw [e_749]; rfl
            have fe_770 : fld (f_738 a_0) 10 = (v_759 : Int32).toInt := by rw [e_749]; rfl
            have fe_771 : fld (f_738 a_0) 12 = (v_762 : Int32).toInt := by rw [e_749]; rfl
            have fe_772 : fld (f_738 a_0) 20 = (v_766 : Int32).toInt := by rw [e_749]; rfl
            rw [fe_746, fe_769, fe_768] at x_740
            rw [fe_770, fe_769, fe_768] at x_741
            rw [fe_771, fe_747] at x_742
            rw [fe_772, fe_748] at x_743
            clear fe_746 fe_747 fe_748 fe_768 fe_769 fe_770 fe_771 fe_772
            refine v_iload_n hC dX12_number_65 rfl ?_
            have fe_773 : fld (f_738 a_0) 12 = (v_762 : Int32).toInt := by rw [e_749]; rfl
            have fe_774 : fld (f_738 a_0) 8 = (v_755 : Int32).toInt := by rw [e_749]; rfl
            have fe_775 : fld (f_738 a_0) 9 = (v_757 : Int32).toInt := by rw [e_749]; rfl
            have fe_776 : fld (f_738 a_0) 12 = (v_762 : Int32).toInt := by rw [e_749]; rfl
            have fe_777 : fld (f_738 a_0) 8 = (v_755 : Int32).toInt := by rw [e_749]; rfl
            have fe_778 : fld (f_738 a_0) 9 = (v_757 : Int32).toInt := by rw [e_749]; rfl
            have fe_779 : fld (f_738 a_0) 10 = (v_759 : Int32).toInt := by rw [e_749]; rfl
            have fe_780 : fld (f_738 a_0) 12 = (v_762 : Int32).toInt := by rw [e_749]; rfl
            have fe_781 : fld (f_738 a_0) 12 = (v_762 : Int32).toInt := by rw [e_749]; rfl
            have fe_782 : fld (f_738 a_0) 20 = (v_766 : Int32).toInt := by rw [e_749]; rfl
            exact hR _ _ _ _ _ _ _ dX12_number_66 rfl (Nat.le_of_ble_eq_true rfl) (Nat.le_of_ble_eq_true rfl) ⟨rfl, hW_744, ((hF_602.tr hF_745).mono rfl), (by simp only [fe_773, mz_43, true_and, and_true, or_true, true_or, false_or, or_false, false_and, and_false, not_true_eq_false, not_false_eq_true] <;> first | omega | (simp only [Int32.lt_iff_toInt_lt, Int32.le_iff_toInt_le, Int32.reduceToInt, ← Int32.toInt_inj, true_and, and_true, or_true, true_or, false_or, or_false, false_and, and_false, not_true_eq_false, not_false_eq_true] <;> omega)), (by simp only [fe_774, fe_775, fe_776, mz_41, mz_42, true_and, and_true, or_true, true_or, false_or, or_false, false_and, and_false, not_true_eq_false, not_false_eq_true] <;> first | omega | (simp only [Int32.lt_iff_toInt_lt, Int32.le_iff_toInt_le, Int32.reduceToInt, ← Int32.toInt_inj, true_and, and_true, or_true, true_or, false_or, or_false, false_and, and_false, not_true_eq_false, not_false_eq_true] <;> omega)), (by simp only [fe_777, fe_778, fe_779, fe_780, true_and, and_true, or_true, true_or, false_or, or_false, false_and, and_false, not_true_eq_false, not_false_eq_true] <;> first | omega | (simp only [Int32.lt_iff_toInt_lt, Int32.le_iff_toInt_le, Int32.reduceToInt, ← Int32.toInt_inj, true_and, and_true, or_true, true_or, false_or, or_false, false_and, and_false, not_true_eq_false, not_false_eq_true] <;> omega)), (by simp only [fe_781, true_and, and_true, or_true, true_or, false_or, or_false, false_and, and_false, not_true_eq_false, not_false_eq_true] <;> first | omega | (simp only [Int32.lt_iff_toInt_lt, Int32.le_iff_toInt_le, Int32.reduceToInt, ← Int32.toInt_inj, true_and, and_true, or_true, true_or, false_or, or_false, false_and, and_false, not_true_eq_false, not_false_eq_true] <;> omega)), (by simp only [fe_782, mz_44, true_and, and_true, or_true, true_or, false_or, or_false, false_and, and_false, not_true_eq_false, not_false_eq_true] <;> first | omega | (simp only [Int32.lt_iff_toInt_lt, Int32.le_iff_toInt_le, Int32.reduceToInt, ← Int32.toInt_inj, true_and, and_true, or_true, true_or, false_or, or_false, false_and, and_false, not_true_eq_false, not_false_eq_true] <;> omega))⟩
          · simp only [Int32.lt_iff_toInt_lt, Int32.le_iff_toInt_le, Int32.reduceToInt, ← Int32.toInt_inj] at h_735
            refine v_iconst hC dX12_number_54 (v := 0) (by decide) ?_
            have fe_783 : fld (f_594 a_0) 12 = (v_620 : Int32).toInt := by rw [e_607]; rfl
            have fe_784 : fld (f_594 a_0) 8 = (v_613 : Int32).toInt := by rw [e_607]; rfl
            have fe_785 : fld (f_594 a_0) 9 = (v_615 : Int32).toInt := by rw [e_607]; rfl
            have fe_786 : fld (f_594 a_0) 12 = (v_620 : Int32).toInt := by rw [e_607]; rfl
            have fe_787 : fld (f_594 a_0) 8 = (v_613 : Int32).toInt := by rw [e_607]; rfl
            have fe_788 : fld (f_594 a_0) 9 = (v_615 : Int32).toInt := by rw [e_607]; rfl
            have fe_789 : fld (f_594 a_0) 10 = (v_617 : Int32).toInt := by rw [e_607]; rfl
            have fe_790 : fld (f_594 a_0) 12 = (v_620 : Int32).toInt := by rw [e_607]; rfl
            have fe_791 : fld (f_594 a_0) 12 = (v_620 : Int32).toInt := by rw [e_607]; rfl
            have fe_792 : fld (f_594 a_0) 20 = (v_624 : Int32).toInt := by rw [e_607]; rfl
            exact hR _ _ _ _ _ _ _ dX12_number_55 rfl (Nat.le_of_ble_eq_true rfl) (Nat.le_of_ble_eq_true rfl) ⟨rfl, hW_601, (hF_602.mono rfl), (by simp only [fe_783, mz_43, true_and, and_true, or_true, true_or, false_or, or_false, false_and, and_false, not_true_eq_false, not_false_eq_true] <;> first | omega | (simp only [Int32.lt_iff_toInt_lt, Int32.le_iff_toInt_le, Int32.reduceToInt, ← Int32.toInt_inj, true_and, and_true, or_true, true_or, false_or, or_false, false_and, and_false, not_true_eq_false, not_false_eq_true] <;> omega)), (by simp only [fe_784, fe_785, fe_786, mz_41, mz_42, true_and, and_true, or_true, true_or, false_or, or_false, false_and, and_false, not_true_eq_false, not_false_eq_true] <;> first | omega | (simp only [Int32.lt_iff_toInt_lt, Int32.le_iff_toInt_le, Int32.reduceToInt, ← Int32.toInt_inj, true_and, and_true, or_true, true_or, false_or, or_false, false_and, and_false, not_true_eq_false, not_false_eq_true] <;> omega)), (by simp only [fe_787, fe_788, fe_789, fe_790, true_and, and_true, or_true, true_or, false_or, or_false, false_and, and_false, not_true_eq_false, not_false_eq_true] <;> first | omega | (simp only [Int32.lt_iff_toInt_lt, Int32.le_iff_toInt_le, Int32.reduceToInt, ← Int32.toInt_inj, true_and, and_true, or_true, true_or, false_or, or_false, false_and, and_false, not_true_eq_false, not_false_eq_true] <;> omega)), (by simp only [fe_791, true_and, and_true, or_true, true_or, false_or, or_false, false_and, and_false, not_true_eq_false, not_false_eq_true] <;> first | omega | (simp only [Int32.lt_iff_toInt_lt, Int32.le_iff_toInt_le, Int32.reduceToInt, ← Int32.toInt_inj, true_and, and_true, or_true, true_or, false_or, or_false, false_and, and_false, not_true_eq_false, not_false_eq_true] <;> omega)), (by simp only [fe_792, mz_44, true_and, and_true, or_true, true_or, false_or, or_false, false_and, and_false, not_true_eq_false, not_false_eq_true] <;> first | omega | (simp only [Int32.lt_iff_toInt_lt, Int32.le_iff_toInt_le, Int32.reduceToInt, ← Int32.toInt_inj, true_and, and_true, or_true, true_or, false_or, or_false, false_and, and_false, not_true_eq_false, not_false_eq_true] <;> omega))⟩
        · simp only [Int32.lt_iff_toInt_lt, Int32.le_iff_toInt_le, Int32.reduceToInt, ← Int32.toInt_inj] at h_725
          refine v_aload_n hC dX12_number_42 rfl ?_
          refine v_iconst hC dX12_number_43 (v := 2) (by decide) ?_
          refine v_vv hC (rest := []) m_1 e_607 rfl mi_X12_errs ms_X12_errs (p_X12_errs hW_601 k_0 (by decide)) mx_X12_errs ml_X12_162 (by decide) rfl (cells1 := 0) (slots1 := 0) (by decide) (by decide) (Nat.le_of_ble_eq_true rfl) (Nat.le_of_ble_eq_true rfl) rfl (Nat.le_of_ble_eq_true rfl) dX12_number_44 (fun L_794 f_795 h_796 => ?_)
          obtain ⟨rfl, hW_802, hF_803, x_797, x_798, x_799, x_800, x_801⟩ := h_796
          have fe_804 : fld (f_594 a_0) 8 = (v_613 : Int32).toInt := by rw [e_607]; rfl
          have fe_805 : fld (f_594 a_0) 9 = (v_615 : Int32).toInt := by rw [e_607]; rfl
          have fe_806 : fld (f_594 a_0) 10 = (v_617 : Int32).toInt := by rw [e_607]; rfl
          have fe_807 : fld (f_594 a_0) 20 = (v_624 : Int32).toInt := by rw [e_607]; rfl
          obtain ⟨v_809, v_810, v_812, v_814, v_816, v_818, v_820, v_821, v_822, v_823, v_825, e_808, b_811, b_813, b_815, b_817, b_819, b_824, b_826⟩ := hW_802.at m_1 t_2
          have fe_827 : fld (f_795 a_0) 8 = (v_814 : Int32).toInt := by rw [e_808]; rfl
          have fe_828 : fld (f_795 a_0) 9 = (v_816 : Int32).toInt := by rw [e_808]; rfl
          have fe_829 : fld (f_795 a_0) 10 = (v_818 : Int32).toInt := by rw [e_808]; rfl
          have fe_830 : fld (f_795 a_0) 12 = (v_821 : Int32).toInt := by rw [e_808]; rfl
          have fe_831 : fld (f_795 a_0) 20 = (v_825 : Int32).toInt := by rw [e_808]; rfl
          rw [fe_830] at x_797
          rw [fe_827, fe_804] at x_798
          rw [fe_828, fe_805] at x_799
          rw [fe_829, fe_806] at x_800
          rw [fe_831, fe_807] at x_801
          clear fe_804 fe_805 fe_806 fe_807 fe_827 fe_828 fe_829 fe_830 fe_831
          refine v_aload_n hC dX12_number_47 rfl ?_
          refine v_vi hC (rest := []) m_1 e_808 rfl mi_X12_good ms_X12_good (p_X12_good hW_802 k_0) mx_X12_good ml_X12_139 (by decide) rfl (cells1 := 0) (slots1 := 0) (by decide) (by decide) (Nat.le_of_ble_eq_true rfl) (Nat.le_of_ble_eq_true rfl) rfl (Nat.le_of_ble_eq_true rfl) dX12_number_48 (fun r_832 L_833 f_834 h_835 => ?_)
          obtain ⟨rfl, rfl, b_836, x_837⟩ := h_835
          have fe_840 : fld (f_795 a_0) 12 = (v_821 : Int32).toInt := by rw [e_808]; rfl
          rw [fe_840] at x_837
          clear fe_840
          try simp only [Int32.reduceToInt, Int64.reduceToInt] at x_837
          refine v_if_ne hC dX12_number_51 (tgt := 56) (by decide) (fun h_841 => ?_) (fun h_841 => ?_)
          · simp only [Int32.lt_iff_toInt_lt, Int32.le_iff_toInt_le, Int32.reduceToInt, ← Int32.toInt_inj] at h_841
            refine v_aload_n hC dX12_number_56 rfl ?_
            refine v_get hC fl_X12_131 m_1 e_808 rfl dX12_number_57 ?_
            refine v_istore_n hC dX12_number_60 (by decide) (lv' := [(3, .int v_820), (0, .ref a_0), (1, .int a_1), (2, .int a_2)]) rfl ?_
            refine v_aload_n hC dX12_number_61 rfl ?_
            refine v_vv hC (rest := []) m_1 e_808 rfl mi_X12_advance ms_X12_advance (p_X12_advance hW_802 k_0) mx_X12_advance ml_X12_156 (by decide) rfl (cells1 := 0) (slots1 := 0) (by decide) (by decide) (Nat.le_of_ble_eq_true rfl) (Nat.le_of_ble_eq_true rfl) rfl (Nat.le_of_ble_eq_true rfl) dX12_number_62 (fun L_843 f_844 h_845 => ?_)
            obtain ⟨rfl, hW_850, hF_851, x_846, x_847, x_848, x_849⟩ := h_845
            have fe_852 : fld (f_795 a_0) 8 = (v_814 : Int32).toInt := by rw [e_808]; rfl
            have fe_853 : fld (f_795 a_0) 12 = (v_821 : Int32).toInt := by rw [e_808]; rfl
            have fe_854 : fld (f_795 a_0) 20 = (v_825 : Int32).toInt := by rw [e_808]; rfl
            obtain ⟨v_856, v_857, v_859, v_861, v_863, v_865, v_867, v_868, v_869, v_870, v_872, e_855, b_858, b_860, b_862, b_864, b_866, b_871, b_873⟩ := hW_850.at m_1 t_2
            have fe_874 : fld (f_844 a_0) 8 = (v_861 : Int32).toInt := by rw [e_855]; rfl
            have fe_875 : fld (f_844 a_0) 9 = (v_863 : Int32).toInt := by rw [e_855]; rfl
            have fe_876 : fld (f_844 a_0) 10 = (v_865 : Int32).toInt := by rw [e_855]; rfl
            have fe_877 : fld (f_844 a_0) 12 = (v_868 : Int32).toInt := by rw [e_855]; rfl
            have fe_878 : fld (f_844 a_0) 20 = (v_872 : Int32).toInt := by rw [e_855]; rfl
            rw [fe_852, fe_875, fe_874] at x_846
            rw [fe_876, fe_875, fe_874] at x_847
            rw [fe_877, fe_853] at x_848
            rw [fe_878, fe_854] at x_849
            clear fe_852 fe_853 fe_854 fe_874 fe_875 fe_876 fe_877 fe_878
            refine v_iload_n hC dX12_number_65 rfl ?_
            have fe_879 : fld (f_844 a_0) 12 = (v_868 : Int32).toInt := by rw [e_855]; rfl
            have fe_880 : fld (f_844 a_0) 8 = (v_861 : Int32).toInt := by rw [e_855]; rfl
            have fe_881 : fld (f_844 a_0) 9 = (v_863 : Int32).toInt := by rw [e_855]; rfl
            have fe_882 : fld (f_844 a_0) 12 = (v_868 : Int32).toInt := by rw [e_855]; rfl
            have fe_883 : fld (f_844 a_0) 8 = (v_861 : Int32).toInt := by rw [e_855]; rfl
            have fe_884 : fld (f_844 a_0) 9 = (v_863 : Int32).toInt := by rw [e_855]; rfl
            have fe_885 : fld (f_844 a_0) 10 = (v_865 : Int32).toInt := by rw [e_855]; rfl
            have fe_886 : fld (f_844 a_0) 12 = (v_868 : Int32).toInt := by rw [e_855]; rfl
            have fe_887 : fld (f_844 a_0) 12 = (v_868 : Int32).toInt := by rw [e_855]; rfl
            have fe_888 : fld (f_844 a_0) 20 = (v_872 : Int32).toInt := by rw [e_855]; rfl
            exact hR _ _ _ _ _ _ _ dX12_number_66 rfl (Nat.le_of_ble_eq_true rfl) (Nat.le_of_ble_eq_true rfl) ⟨rfl, hW_850, (((hF_602.tr hF_803).tr hF_851).mono rfl), (by simp only [fe_879, mz_43, true_and, and_true, or_true, true_or, false_or, or_false, false_and, and_false, not_true_eq_false, not_false_eq_true] <;> first | omega | (simp only [Int32.lt_iff_toInt_lt, Int32.le_iff_toInt_le, Int32.reduceToInt, ← Int32.toInt_inj, true_and, and_true, or_true, true_or, false_or, or_false, false_and, and_false, not_true_eq_false, not_false_eq_true] <;> omega)), (by simp only [fe_880, fe_881, fe_882, mz_41, mz_42, true_and, and_true, or_true, true_or, false_or, or_false, false_and, and_false, not_true_eq_false, not_false_eq_true] <;> first | omega | (simp only [Int32.lt_iff_toInt_lt, Int32.le_iff_toInt_le, Int32.reduceToInt, ← Int32.toInt_inj, true_and, and_true, or_true, true_or, false_or, or_false, false_and, and_false, not_true_eq_false, not_false_eq_true] <;> omega)), (by simp only [fe_883, fe_884, fe_885, fe_886, true_and, and_true, or_true, true_or, false_or, or_false, false_and, and_false, not_true_eq_false, not_false_eq_true] <;> first | omega | (simp only [Int32.lt_iff_toInt_lt, Int32.le_iff_toInt_le, Int32.reduceToInt, ← Int32.toInt_inj, true_and, and_true, or_true, true_or, false_or, or_false, false_and, and_false, not_true_eq_false, not_false_eq_true] <;> omega)), (by simp only [fe_887, true_and, and_true, or_true, true_or, false_or, or_false, false_and, and_false, not_true_eq_false, not_false_eq_true] <;> first | omega | (simp only [Int32.lt_iff_toInt_lt, Int32.le_iff_toInt_le, Int32.reduceToInt, ← Int32.toInt_inj, true_and, and_true, or_true, true_or, false_or, or_false, false_and, and_false, not_true_eq_false, not_false_eq_true] <;> omega)), (by simp only [fe_888, mz_44, true_and, and_true, or_true, true_or, false_or, or_false, false_and, and_false, not_true_eq_false, not_false_eq_true] <;> first | omega | (simp only [Int32.lt_iff_toInt_lt, Int32.le_iff_toInt_le, Int32.reduceToInt, ← Int32.toInt_inj, true_and, and_true, or_true, true_or, false_or, or_false, false_and, and_false, not_true_eq_false, not_false_eq_true] <;> omega))⟩
          · simp only [Int32.lt_iff_toInt_lt, Int32.le_iff_toInt_le, Int32.reduceToInt, ← Int32.toInt_inj] at h_841
            refine v_iconst hC dX12_number_54 (v := 0) (by decide) ?_
            have fe_889 : fld (f_795 a_0) 12 = (v_821 : Int32).toInt := by rw [e_808]; rfl
            have fe_890 : fld (f_795 a_0) 8 = (v_814 : Int32).toInt := by rw [e_808]; rfl
            have fe_891 : fld (f_795 a_0) 9 = (v_816 : Int32).toInt := by rw [e_808]; rfl
            have fe_892 : fld (f_795 a_0) 12 = (v_821 : Int32).toInt := by rw [e_808]; rfl
            have fe_893 : fld (f_795 a_0) 8 = (v_814 : Int32).toInt := by rw [e_808]; rfl
            have fe_894 : fld (f_795 a_0) 9 = (v_816 : Int32).toInt := by rw [e_808]; rfl
            have fe_895 : fld (f_795 a_0) 10 = (v_818 : Int32).toInt := by rw [e_808]; rfl
            have fe_896 : fld (f_795 a_0) 12 = (v_821 : Int32).toInt := by rw [e_808]; rfl
            have fe_897 : fld (f_795 a_0) 12 = (v_821 : Int32).toInt := by rw [e_808]; rfl
            have fe_898 : fld (f_795 a_0) 20 = (v_825 : Int32).toInt := by rw [e_808]; rfl
            exact hR _ _ _ _ _ _ _ dX12_number_55 rfl (Nat.le_of_ble_eq_true rfl) (Nat.le_of_ble_eq_true rfl) ⟨rfl, hW_802, ((hF_602.tr hF_803).mono rfl), (by simp only [fe_889, mz_43, true_and, and_true, or_true, true_or, false_or, or_false, false_and, and_false, not_true_eq_false, not_false_eq_true] <;> first | omega | (simp only [Int32.lt_iff_toInt_lt, Int32.le_iff_toInt_le, Int32.reduceToInt, ← Int32.toInt_inj, true_and, and_true, or_true, true_or, false_or, or_false, false_and, and_false, not_true_eq_false, not_false_eq_true] <;> omega)), (by simp only [fe_890, fe_891, fe_892, mz_41, mz_42, true_and, and_true, or_true, true_or, false_or, or_false, false_and, and_false, not_true_eq_false, not_false_eq_true] <;> first | omega | (simp only [Int32.lt_iff_toInt_lt, Int32.le_iff_toInt_le, Int32.reduceToInt, ← Int32.toInt_inj, true_and, and_true, or_true, true_or, false_or, or_false, false_and, and_false, not_true_eq_false, not_false_eq_true] <;> omega)), (by simp only [fe_893, fe_894, fe_895, fe_896, true_and, and_true, or_true, true_or, false_or, or_false, false_and, and_false, not_true_eq_false, not_false_eq_true] <;> first | omega | (simp only [Int32.lt_iff_toInt_lt, Int32.le_iff_toInt_le, Int32.reduceToInt, ← Int32.toInt_inj, true_and, and_true, or_true, true_or, false_or, or_false, false_and, and_false, not_true_eq_false, not_false_eq_true] <;> omega)), (by simp only [fe_897, true_and, and_true, or_true, true_or, false_or, or_false, false_and, and_false, not_true_eq_false, not_false_eq_true] <;> first | omega | (simp only [Int32.lt_iff_toInt_lt, Int32.le_iff_toInt_le, Int32.reduceToInt, ← Int32.toInt_inj, true_and, and_true, or_true, true_or, false_or, or_false, false_and, and_false, not_true_eq_false, not_false_eq_true] <;> omega)), (by simp only [fe_898, mz_44, true_and, and_true, or_true, true_or, false_or, or_false, false_and, and_false, not_true_eq_false, not_false_eq_true] <;> first | omega | (simp only [Int32.lt_iff_toInt_lt, Int32.le_iff_toInt_le, Int32.reduceToInt, ← Int32.toInt_inj, true_and, and_true, or_true, true_or, false_or, or_false, false_and, and_false, not_true_eq_false, not_false_eq_true] <;> omega))⟩
set_option maxRecDepth 100000 in
set_option maxHeartbeats 1500000 in
theorem p_X12_told {l : Launch} {E : Ez} {L : List Nat} {f : Nat → va_E} {T : Nat → va_E → Prop} {a_0 : Nat} {a_1 : Nat} {a_2 : Int32} {a_3 : Int32} {q : Nat → Nat} (hW : WT T L f) (k_0 : isM T L E a_0 q) (ha_1 : a_1 < 77) : CI l yX12_told cX12_told 4 .int 7 0 0 E [.ref a_0, .ref (eK E a_1), .int a_2, .int a_3] L f (fun r L1 f1 => L = L1 ∧ WT T L f1 ∧ FR [12] f f1 ∧ (¬ fld (f1 a_0) 12 = 0 ∨ (fld (f a_0) 12 = 0 ∧ a_2.toInt ≤ r.toInt ∧ r.toInt ≤ a_3.toInt)) ∧ (¬ fld (f1 a_0) 12 = 0 ∨ (fld (f a_0) 8 ≤ fld (f1 a_0) 9 ∧ fld (f1 a_0) 9 ≤ fld (f1 a_0) 8)) ∧ (¬ fld (f1 a_0) 12 = 0 ∨ fld (f1 a_0) 10 = 0 ∨ fld (f1 a_0) 9 < fld (f1 a_0) 8) ∧ (fld (f1 a_0) 12 = 0 ∨ r.toInt = 0) ∧ fld (f1 a_0) 20 = fld (f a_0) 20) := by
  refine ci_of (by decide) (Nat.le_of_ble_eq_true rfl) (fun z hz hnm hC hR => ?_)
  have hC : Cx z E cX12_told RX12 4 7 0 0 := hC
  subst hz
  show V z E 4 0 0 L f 0 [(0, .ref a_0), (1, .ref (eK E a_1)), (2, .int a_2), (3, .int a_3)] []
  obtain ⟨m_1, t_2, nq_21, k_3, k_4, k_5, k_6, k_7, k_8, k_9, k_10, k_11, k_12, k_13, k_14, k_15, k_16, k_17, k_18, k_19, k_20⟩ := id k_0
  obtain ⟨v_23, v_24, v_26, v_28, v_30, v_32, v_34, v_35, v_36, v_37, v_39, e_22, b_25, b_27, b_29, b_31, b_33, b_38, b_40⟩ := hW.at m_1 t_2
  have mz_41 : fld (f a_0) 8 = v_28.toInt := by rw [e_22]; rfl
  have mz_42 : fld (f a_0) 12 = v_35.toInt := by rw [e_22]; rfl
  have mz_43 : fld (f a_0) 20 = v_39.toInt := by rw [e_22]; rfl
  refine v_aload_n hC dX12_told_0 rfl ?_
  refine v_aload_n hC dX12_told_1 rfl ?_
  refine v_vv hC (rest := []) m_1 e_22 rfl mi_X12_needs ms_X12_needs (p_X12_needs hW k_0 ha_1) mx_X12_needs ml_X12_166 (by decide) rfl (cells1 := 0) (slots1 := 0) (by decide) (by decide) (Nat.le_of_ble_eq_true rfl) (Nat.le_of_ble_eq_true rfl) rfl (Nat.le_of_ble_eq_true rfl) dX12_told_2 (fun L_45 f_46 h_47 => ?_)
  obtain ⟨rfl, hW_52, hF_53, x_48, x_49, x_50, x_51⟩ := h_47
  have fe_54 : fld (f a_0) 8 = (v_28 : Int32).toInt := by rw [e_22]; rfl
  have fe_55 : fld (f a_0) 9 = (v_30 : Int32).toInt := by rw [e_22]; rfl
  have fe_56 : fld (f a_0) 10 = (v_32 : Int32).toInt := by rw [e_22]; rfl
  have fe_57 : fld (f a_0) 12 = (v_35 : Int32).toInt := by rw [e_22]; rfl
  have fe_58 : fld (f a_0) 20 = (v_39 : Int32).toInt := by rw [e_22]; rfl
  have ib_59 := iw_b (f a_0) (f (q 4)) a_1
  rw [fe_57, fe_56, fe_54, fe_55] at ib_59
  obtain ⟨v_61, v_62, v_64, v_66, v_68, v_70, v_72, v_73, v_74, v_75, v_77, e_60, b_63, b_65, b_67, b_69, b_71, b_76, b_78⟩ := hW_52.at m_1 t_2
  have fe_79 : fld (f_46 a_0) 8 = (v_66 : Int32).toInt := by rw [e_60]; rfl
  have fe_80 : fld (f_46 a_0) 9 = (v_68 : Int32).toInt := by rw [e_60]; rfl
  have fe_81 : fld (f_46 a_0) 10 = (v_70 : Int32).toInt := by rw [e_60]; rfl
  have fe_82 : fld (f_46 a_0) 12 = (v_73 : Int32).toInt := by rw [e_60]; rfl
  have fe_83 : fld (f_46 a_0) 20 = (v_77 : Int32).toInt := by rw [e_60]; rfl
  rw [fe_82, fe_54, fe_80, fe_79] at x_48
  rw [fe_82, fe_81, fe_80, fe_79] at x_49
  rw [fe_82, fe_57] at x_50
  rw [fe_83, fe_58] at x_51
  clear fe_54 fe_55 fe_56 fe_57 fe_58 fe_79 fe_80 fe_81 fe_82 fe_83
  refine v_aload_n hC dX12_told_5 rfl ?_
  refine v_iload_n hC dX12_told_6 rfl ?_
  refine v_iload_n hC dX12_told_7 rfl ?_
  refine v_vi hC (rest := []) m_1 e_60 rfl mi_X12_number ms_X12_number (p_X12_number hW_52 k_0) mx_X12_number ml_X12_170 (by decide) rfl (cells1 := 0) (slots1 := 0) (by decide) (by decide) (Nat.le_of_ble_eq_true rfl) (Nat.le_of_ble_eq_true rfl) rfl (Nat.le_of_ble_eq_true rfl) dX12_told_8 (fun r_84 L_85 f_86 h_87 => ?_)
  obtain ⟨rfl, hW_93, hF_94, x_88, x_89, x_90, x_91, x_92⟩ := h_87
  have fe_95 : fld (f_46 a_0) 8 = (v_66 : Int32).toInt := by rw [e_60]; rfl
  have fe_96 : fld (f_46 a_0) 10 = (v_70 : Int32).toInt := by rw [e_60]; rfl
  have fe_97 : fld (f_46 a_0) 12 = (v_73 : Int32).toInt := by rw [e_60]; rfl
  have fe_98 : fld (f_46 a_0) 20 = (v_77 : Int32).toInt := by rw [e_60]; rfl
  obtain ⟨v_100, v_101, v_103, v_105, v_107, v_109, v_111, v_112, v_113, v_114, v_116, e_99, b_102, b_104, b_106, b_108, b_110, b_115, b_117⟩ := hW_93.at m_1 t_2
  have fe_118 : fld (f_86 a_0) 8 = (v_105 : Int32).toInt := by rw [e_99]; rfl
  have fe_119 : fld (f_86 a_0) 9 = (v_107 : Int32).toInt := by rw [e_99]; rfl
  have fe_120 : fld (f_86 a_0) 10 = (v_109 : Int32).toInt := by rw [e_99]; rfl
  have fe_121 : fld (f_86 a_0) 12 = (v_112 : Int32).toInt := by rw [e_99]; rfl
  have fe_122 : fld (f_86 a_0) 20 = (v_116 : Int32).toInt := by rw [e_99]; rfl
  rw [fe_121, fe_97] at x_88
  rw [fe_121, fe_96, fe_95, fe_119, fe_118] at x_89
  rw [fe_121, fe_120, fe_119, fe_118] at x_90
  rw [fe_121] at x_91
  rw [fe_122, fe_98] at x_92
  clear fe_95 fe_96 fe_97 fe_98 fe_118 fe_119 fe_120 fe_121 fe_122
  try simp only [Int32.reduceToInt, Int64.reduceToInt] at x_88
  try simp only [Int32.reduceToInt, Int64.reduceToInt] at x_89
  try simp only [Int32.reduceToInt, Int64.reduceToInt] at x_90
  try simp only [Int32.reduceToInt, Int64.reduceToInt] at x_91
  try simp only [Int32.reduceToInt, Int64.reduceToInt] at x_92
  have fe_123 : fld (f_86 a_0) 12 = (v_112 : Int32).toInt := by rw [e_99]; rfl
  have fe_124 : fld (f_86 a_0) 8 = (v_105 : Int32).toInt := by rw [e_99]; rfl
  have fe_125 : fld (f_86 a_0) 9 = (v_107 : Int32).toInt := by rw [e_99]; rfl
  have fe_126 : fld (f_86 a_0) 12 = (v_112 : Int32).toInt := by rw [e_99]; rfl
  have fe_127 : fld (f_86 a_0) 8 = (v_105 : Int32).toInt := by rw [e_99]; rfl
  have fe_128 : fld (f_86 a_0) 9 = (v_107 : Int32).toInt := by rw [e_99]; rfl
  have fe_129 : fld (f_86 a_0) 10 = (v_109 : Int32).toInt := by rw [e_99]; rfl
  have fe_130 : fld (f_86 a_0) 12 = (v_112 : Int32).toInt := by rw [e_99]; rfl
  have fe_131 : fld (f_86 a_0) 12 = (v_112 : Int32).toInt := by rw [e_99]; rfl
  have fe_132 : fld (f_86 a_0) 20 = (v_116 : Int32).toInt := by rw [e_99]; rfl
  exact hR _ _ _ _ _ _ _ dX12_told_11 rfl (Nat.le_of_ble_eq_true rfl) (Nat.le_of_ble_eq_true rfl) ⟨rfl, hW_93, ((hF_53.tr hF_94).mono rfl), (by simp only [fe_123, mz_42, true_and, and_true, or_true, true_or, false_or, or_false, false_and, and_false, not_true_eq_false, not_false_eq_true] <;> first | omega | (simp only [Int32.lt_iff_toInt_lt, Int32.le_iff_toInt_le, Int32.reduceToInt, ← Int32.toInt_inj, true_and, and_true, or_true, true_or, false_or, or_false, false_and, and_false, not_true_eq_false, not_false_eq_true] <;> omega)), (by simp only [fe_124, fe_125, fe_126, mz_41, true_and, and_true, or_true, true_or, false_or, or_false, false_and, and_false, not_true_eq_false, not_false_eq_true] <;> first | omega | (simp only [Int32.lt_iff_toInt_lt, Int32.le_iff_toInt_le, Int32.reduceToInt, ← Int32.toInt_inj, true_and, and_true, or_true, true_or, false_or, or_false, false_and, and_false, not_true_eq_false, not_false_eq_true] <;> omega)), (by simp only [fe_127, fe_128, fe_129, fe_130, true_and, and_true, or_true, true_or, false_or, or_false, false_and, and_false, not_true_eq_false, not_false_eq_true] <;> first | omega | (simp only [Int32.lt_iff_toInt_lt, Int32.le_iff_toInt_le, Int32.reduceToInt, ← Int32.toInt_inj, true_and, and_true, or_true, true_or, false_or, or_false, false_and, and_false, not_true_eq_false, not_false_eq_true] <;> omega)), (by simp only [fe_131, true_and, and_true, or_true, true_or, false_or, or_false, false_and, and_false, not_true_eq_false, not_false_eq_true] <;> first | omega | (simp only [Int32.lt_iff_toInt_lt, Int32.le_iff_toInt_le, Int32.reduceToInt, ← Int32.toInt_inj, true_and, and_true, or_true, true_or, false_or, or_false, false_and, and_false, not_true_eq_false, not_false_eq_true] <;> omega)), (by simp only [fe_132, mz_43, true_and, and_true, or_true, true_or, false_or, or_false, false_and, and_false, not_true_eq_false, not_false_eq_true] <;> first | omega | (simp only [Int32.lt_iff_toInt_lt, Int32.le_iff_toInt_le, Int32.reduceToInt, ← Int32.toInt_inj, true_and, and_true, or_true, true_or, false_or, or_false, false_and, and_false, not_true_eq_false, not_false_eq_true] <;> omega))⟩
set_option maxRecDepth 100000 in
set_option maxHeartbeats 1500000 in
theorem p_X12_rows {l : Launch} {E : Ez} {L : List Nat} {f : Nat → va_E} {T : Nat → va_E → Prop} {a_0 : Nat} {q : Nat → Nat} {g_w : Nat → Int32} (hW : WT T L f) (k_0 : isM T L E a_0 q) (e_w : f (q 1) = aI E 2076 g_w) (o_w : WOK g_w) : CI l yX12_rows cX12_rows 1 .int 0 0 0 E [.ref a_0] L f (fun r L1 f1 => L = L1 ∧ f = f1 ∧ r = (g_w 0)) := by
  refine ci_of (by decide) (Nat.le_of_ble_eq_true rfl) (fun z hz hnm hC hR => ?_)
  have hC : Cx z E cX12_rows RX12 1 0 0 0 := hC
  subst hz
  show V z E 1 0 0 L f 0 [(0, .ref a_0)] []
  obtain ⟨m_1, t_2, nq_21, k_3, k_4, k_5, k_6, k_7, k_8, k_9, k_10, k_11, k_12, k_13, k_14, k_15, k_16, k_17, k_18, k_19, k_20⟩ := id k_0
  obtain ⟨m_22, t_23⟩ := id k_3
  have b_24 := o_w.r0
  have b_25 := o_w.w0
  refine v_aload_n hC dX12_rows_0 rfl ?_
  obtain ⟨v_27, v_28, v_30, v_32, v_34, v_36, v_38, v_39, v_40, v_41, v_43, e_26, b_29, b_31, b_33, b_35, b_37, b_42, b_44⟩ := hW.at m_1 t_2
  refine v_get hC fl_X12_13 m_1 e_26 rfl dX12_rows_1 ?_
  refine v_iconst hC dX12_rows_4 (v := 0) (by decide) ?_
  refine v_iald hC m_22 e_w (vp_in_iff.mpr (by decide)) (v := g_w 0) rfl dX12_rows_5 ?_
  exact hR _ _ _ _ _ _ _ dX12_rows_6 rfl (Nat.le_of_ble_eq_true rfl) (Nat.le_of_ble_eq_true rfl) ⟨rfl, rfl, rfl⟩
set_option maxRecDepth 100000 in
set_option maxHeartbeats 1500000 in
theorem p_X12_wide {l : Launch} {E : Ez} {L : List Nat} {f : Nat → va_E} {T : Nat → va_E → Prop} {a_0 : Nat} {q : Nat → Nat} {g_w : Nat → Int32} (hW : WT T L f) (k_0 : isM T L E a_0 q) (e_w : f (q 1) = aI E 2076 g_w) (o_w : WOK g_w) : CI l yX12_wide cX12_wide 1 .int 0 0 0 E [.ref a_0] L f (fun r L1 f1 => L = L1 ∧ f = f1 ∧ r = (g_w 1)) := by
  refine ci_of (by decide) (Nat.le_of_ble_eq_true rfl) (fun z hz hnm hC hR => ?_)
  have hC : Cx z E cX12_wide RX12 1 0 0 0 := hC
  subst hz
  show V z E 1 0 0 L f 0 [(0, .ref a_0)] []
  obtain ⟨m_1, t_2, nq_21, k_3, k_4, k_5, k_6, k_7, k_8, k_9, k_10, k_11, k_12, k_13, k_14, k_15, k_16, k_17, k_18, k_19, k_20⟩ := id k_0
  obtain ⟨m_22, t_23⟩ := id k_3
  have b_24 := o_w.r0
  have b_25 := o_w.w0
  refine v_aload_n hC dX12_wide_0 rfl ?_
  obtain ⟨v_27, v_28, v_30, v_32, v_34, v_36, v_38, v_39, v_40, v_41, v_43, e_26, b_29, b_31, b_33, b_35, b_37, b_42, b_44⟩ := hW.at m_1 t_2
  refine v_get hC fl_X12_13 m_1 e_26 rfl dX12_wide_1 ?_
  refine v_iconst hC dX12_wide_4 (v := 1) (by decide) ?_
  refine v_iald hC m_22 e_w (vp_in_iff.mpr (by decide)) (v := g_w 1) rfl dX12_wide_5 ?_
  exact hR _ _ _ _ _ _ _ dX12_wide_6 rfl (Nat.le_of_ble_eq_true rfl) (Nat.le_of_ble_eq_true rfl) ⟨rfl, rfl, rfl⟩
set_option maxRecDepth 100000 in
set_option maxHeartbeats 1500000 in
theorem p_X12_area {l : Launch} {E : Ez} {L : List Nat} {f : Nat → va_E} {T : Nat → va_E → Prop} {a_0 : Nat} {q : Nat → Nat} {g_w : Nat → Int32} (hW : WT T L f) (k_0 : isM T L E a_0 q) (e_w : f (q 1) = aI E 2076 g_w) (o_w : WOK g_w) : CI l yX12_area cX12_area 1 .int 1 0 0 E [.ref a_0] L f (fun r L1 f1 => L = L1 ∧ f = f1 ∧ r = (g_w 0 * g_w 1)) := by
  refine ci_of (by decide) (Nat.le_of_ble_eq_true rfl) (fun z hz hnm hC hR => ?_)
  have hC : Cx z E cX12_area RX12 1 1 0 0 := hC
  subst hz
  show V z E 1 0 0 L f 0 [(0, .ref a_0)] []
  obtain ⟨m_1, t_2, nq_21, k_3, k_4, k_5, k_6, k_7, k_8, k_9, k_10, k_11, k_12, k_13, k_14, k_15, k_16, k_17, k_18, k_19, k_20⟩ := id k_0
  obtain ⟨m_22, t_23⟩ := id k_3
  have b_24 := o_w.r0
  have b_25 := o_w.w0
  refine v_aload_n hC dX12_area_0 rfl ?_
  obtain ⟨v_27, v_28, v_30, v_32, v_34, v_36, v_38, v_39, v_40, v_41, v_43, e_26, b_29, b_31, b_33, b_35, b_37, b_42, b_44⟩ := hW.at m_1 t_2
  refine v_vi hC (rest := []) m_1 e_26 rfl mi_X12_rows ms_X12_rows (p_X12_rows hW k_0 e_w o_w) mx_X12_rows ml_X12_83 (by decide) rfl (cells1 := 0) (slots1 := 0) (by decide) (by decide) (Nat.le_of_ble_eq_true rfl) (Nat.le_of_ble_eq_true rfl) rfl (Nat.le_of_ble_eq_true rfl) dX12_area_1 (fun r_45 L_46 f_47 h_48 => ?_)
  obtain ⟨rfl, rfl, rfl⟩ := h_48
  refine v_aload_n hC dX12_area_4 rfl ?_
  refine v_vi hC (rest := [.int (g_w 0)]) m_1 e_26 rfl mi_X12_wide ms_X12_wide (p_X12_wide hW k_0 e_w o_w) mx_X12_wide ml_X12_87 (by decide) rfl (cells1 := 0) (slots1 := 0) (by decide) (by decide) (Nat.le_of_ble_eq_true rfl) (Nat.le_of_ble_eq_true rfl) rfl (Nat.le_of_ble_eq_true rfl) dX12_area_5 (fun r_51 L_52 f_53 h_54 => ?_)
  obtain ⟨rfl, rfl, rfl⟩ := h_54
  obtain ⟨v_57, h_58⟩ : ∃ v9 : Int32, (g_w 0) * (g_w 1) = v9 := ⟨_, rfl⟩
  refine v_imul hC dX12_area_8 h_58 ?_
  have h_59 := mul_v 16 16 256 h_58 (by first | omega | (simp only [Int32.lt_iff_toInt_lt, Int32.le_iff_toInt_le, Int32.reduceToInt, ← Int32.toInt_inj, true_and, and_true, or_true, true_or, false_or, or_false, false_and, and_false, not_true_eq_false, not_false_eq_true] <;> omega)) (by first | omega | (simp only [Int32.lt_iff_toInt_lt, Int32.le_iff_toInt_le, Int32.reduceToInt, ← Int32.toInt_inj, true_and, and_true, or_true, true_or, false_or, or_false, false_and, and_false, not_true_eq_false, not_false_eq_true] <;> omega)) (by decide) (by decide)
  exact hR _ _ _ _ _ _ _ dX12_area_9 rfl (Nat.le_of_ble_eq_true rfl) (Nat.le_of_ble_eq_true rfl) ⟨rfl, rfl, h_58.symm⟩
set_option maxRecDepth 100000 in
set_option maxHeartbeats 1500000 in
theorem p_X12_sortOf {l : Launch} {E : Ez} {L : List Nat} {f : Nat → va_E} {T : Nat → va_E → Prop} {a_0 : Nat} {a_1 : Int32} {q : Nat → Nat} {g_w : Nat → Int32} (hW : WT T L f) (k_0 : isM T L E a_0 q) (g_1 : (0 ≤ a_1.toInt)) (e_w : f (q 1) = aI E 2076 g_w) (o_w : WOK g_w) (hpt : 1 ≤ (g_w 0).toInt) : CI l yX12_sortOf cX12_sortOf 4 .int 1 0 0 E [.ref a_0, .int a_1] L f (fun r L1 f1 => L = L1 ∧ f = f1 ∧ ((-1) ≤ r.toInt ∧ r.toInt ≤ 12)) := by
  refine ci_of (by decide) (Nat.le_of_ble_eq_true rfl) (fun z hz hnm hC hR => ?_)
  have hC : Cx z E cX12_sortOf RX12 4 1 0 0 := hC
  subst hz
  show V z E 4 0 0 L f 0 [(0, .ref a_0), (1, .int a_1)] []
  obtain ⟨m_1, t_2, nq_21, k_3, k_4, k_5, k_6, k_7, k_8, k_9, k_10, k_11, k_12, k_13, k_14, k_15, k_16, k_17, k_18, k_19, k_20⟩ := id k_0
  obtain ⟨m_22, t_23⟩ := id k_3
  have b_24 := o_w.r0
  have b_25 := o_w.w0
  obtain ⟨pt_1, pt_2, pt_3⟩ := o_w.pt hpt
  refine v_iload_n hC dX12_sortOf_0 rfl ?_
  refine v_aload_n hC dX12_sortOf_1 rfl ?_
  obtain ⟨v_27, v_28, v_30, v_32, v_34, v_36, v_38, v_39, v_40, v_41, v_43, e_26, b_29, b_31, b_33, b_35, b_37, b_42, b_44⟩ := hW.at m_1 t_2
  refine v_vi hC (rest := [.int a_1]) m_1 e_26 rfl mi_X12_wide ms_X12_wide (p_X12_wide hW k_0 e_w o_w) mx_X12_wide ml_X12_87 (by decide) rfl (cells1 := 0) (slots1 := 0) (by decide) (by decide) (Nat.le_of_ble_eq_true rfl) (Nat.le_of_ble_eq_true rfl) rfl (Nat.le_of_ble_eq_true rfl) dX12_sortOf_2 (fun r_45 L_46 f_47 h_48 => ?_)
  obtain ⟨rfl, rfl, rfl⟩ := h_48
  obtain ⟨v_51, h_52⟩ : ∃ v9 : Int32, a_1 / (g_w 1) = v9 := ⟨_, rfl⟩
  refine v_idiv hC dX12_sortOf_5 (by first | omega | (simp only [Int32.lt_iff_toInt_lt, Int32.le_iff_toInt_le, Int32.reduceToInt, ← Int32.toInt_inj, true_and, and_true, or_true, true_or, false_or, or_false, false_and, and_false, not_true_eq_false, not_false_eq_true] <;> omega)) h_52 ?_
  have h_53 := div_v h_52 (by first | omega | (simp only [Int32.lt_iff_toInt_lt, Int32.le_iff_toInt_le, Int32.reduceToInt, ← Int32.toInt_inj, true_and, and_true, or_true, true_or, false_or, or_false, false_and, and_false, not_true_eq_false, not_false_eq_true] <;> omega)) (by first | omega | (simp only [Int32.lt_iff_toInt_lt, Int32.le_iff_toInt_le, Int32.reduceToInt, ← Int32.toInt_inj, true_and, and_true, or_true, true_or, false_or, or_false, false_and, and_false, not_true_eq_false, not_false_eq_true] <;> omega))
  refine v_aload_n hC dX12_sortOf_6 rfl ?_
  refine v_get hC fl_X12_13 m_1 e_26 rfl dX12_sortOf_7 ?_
  refine v_iconst hC dX12_sortOf_10 (v := 2) (by decide) ?_
  refine v_iald hC m_22 e_w (vp_in_iff.mpr (by decide)) (v := g_w 2) rfl dX12_sortOf_11 ?_
  obtain ⟨v_54, h_55⟩ : ∃ v9 : Int32, v_51 - v_51 / (g_w 2) * (g_w 2) = v9 := ⟨_, rfl⟩
  refine v_irem hC dX12_sortOf_12 (by first | omega | (simp only [Int32.lt_iff_toInt_lt, Int32.le_iff_toInt_le, Int32.reduceToInt, ← Int32.toInt_inj, true_and, and_true, or_true, true_or, false_or, or_false, false_and, and_false, not_true_eq_false, not_false_eq_true] <;> omega)) h_55 ?_
  have h_56 := rem_v h_55 (by first | omega | (simp only [Int32.lt_iff_toInt_lt, Int32.le_iff_toInt_le, Int32.reduceToInt, ← Int32.toInt_inj, true_and, and_true, or_true, true_or, false_or, or_false, false_and, and_false, not_true_eq_false, not_false_eq_true] <;> omega)) (by first | omega | (simp only [Int32.lt_iff_toInt_lt, Int32.le_iff_toInt_le, Int32.reduceToInt, ← Int32.toInt_inj, true_and, and_true, or_true, true_or, false_or, or_false, false_and, and_false, not_true_eq_false, not_false_eq_true] <;> omega))
  refine v_istore_n hC dX12_sortOf_13 (by decide) (lv' := [(2, .int v_54), (0, .ref a_0), (1, .int a_1)]) rfl ?_
  refine v_bipush hC dX12_sortOf_14 (v := 16) (by decide) ?_
  refine v_bipush hC dX12_sortOf_16 (v := 13) (by decide) ?_
  refine v_iload_n hC dX12_sortOf_18 rfl ?_
  obtain ⟨v_57, h_58⟩ : ∃ v9 : Int32, (13 : Int32) * v_54 = v9 := ⟨_, rfl⟩
  refine v_imul hC dX12_sortOf_19 h_58 ?_
  have h_59 := mul_v 13 7 91 h_58 (by decide) (by first | omega | (simp only [Int32.lt_iff_toInt_lt, Int32.le_iff_toInt_le, Int32.reduceToInt, ← Int32.toInt_inj, true_and, and_true, or_true, true_or, false_or, or_false, false_and, and_false, not_true_eq_false, not_false_eq_true] <;> omega)) (by decide) (by decide)
  try simp only [Int32.reduceToInt] at h_59
  obtain ⟨v_60, h_61⟩ : ∃ v9 : Int32, (16 : Int32) + v_57 = v9 := ⟨_, rfl⟩
  refine v_iadd hC dX12_sortOf_20 h_61 ?_
  have h_62 := add_v h_61 (by first | omega | (simp only [Int32.lt_iff_toInt_lt, Int32.le_iff_toInt_le, Int32.reduceToInt, ← Int32.toInt_inj, true_and, and_true, or_true, true_or, false_or, or_false, false_and, and_false, not_true_eq_false, not_false_eq_true] <;> omega)) (by first | omega | (simp only [Int32.lt_iff_toInt_lt, Int32.le_iff_toInt_le, Int32.reduceToInt, ← Int32.toInt_inj, true_and, and_true, or_true, true_or, false_or, or_false, false_and, and_false, not_true_eq_false, not_false_eq_true] <;> omega))
  try simp only [Int32.reduceToInt] at h_62
  refine v_istore_n hC dX12_sortOf_21 (by decide) (lv' := [(3, .int v_60), (2, .int v_54), (0, .ref a_0), (1, .int a_1)]) rfl ?_
  refine v_aload_n hC dX12_sortOf_22 rfl ?_
  refine v_get hC fl_X12_13 m_1 e_26 rfl dX12_sortOf_23 ?_
  refine v_iload_n hC dX12_sortOf_26 rfl ?_
  refine v_iconst hC dX12_sortOf_27 (v := 1) (by decide) ?_
  obtain ⟨v_63, h_64⟩ : ∃ v9 : Int32, v_60 + 1 = v9 := ⟨_, rfl⟩
  refine v_iadd hC dX12_sortOf_28 h_64 ?_
  have h_65 := add_v h_64 (by first | omega | (simp only [Int32.lt_iff_toInt_lt, Int32.le_iff_toInt_le, Int32.reduceToInt, ← Int32.toInt_inj, true_and, and_true, or_true, true_or, false_or, or_false, false_and, and_false, not_true_eq_false, not_false_eq_true] <;> omega)) (by first | omega | (simp only [Int32.lt_iff_toInt_lt, Int32.le_iff_toInt_le, Int32.reduceToInt, ← Int32.toInt_inj, true_and, and_true, or_true, true_or, false_or, or_false, false_and, and_false, not_true_eq_false, not_false_eq_true] <;> omega))
  try simp only [Int32.reduceToInt] at h_65
  refine v_iload_n hC dX12_sortOf_29 rfl ?_
  refine v_aload_n hC dX12_sortOf_30 rfl ?_
  refine v_vi hC (rest := [.int a_1, .int v_63, .ref (q 1)]) m_1 e_26 rfl mi_X12_wide ms_X12_wide (p_X12_wide hW k_0 e_w o_w) mx_X12_wide ml_X12_87 (by decide) rfl (cells1 := 0) (slots1 := 0) (by decide) (by decide) (Nat.le_of_ble_eq_true rfl) (Nat.le_of_ble_eq_true rfl) rfl (Nat.le_of_ble_eq_true rfl) dX12_sortOf_31 (fun r_66 L_67 f_68 h_69 => ?_)
  obtain ⟨rfl, rfl, rfl⟩ := h_69
  obtain ⟨v_72, h_73⟩ : ∃ v9 : Int32, a_1 - a_1 / (g_w 1) * (g_w 1) = v9 := ⟨_, rfl⟩
  refine v_irem hC dX12_sortOf_34 (by first | omega | (simp only [Int32.lt_iff_toInt_lt, Int32.le_iff_toInt_le, Int32.reduceToInt, ← Int32.toInt_inj, true_and, and_true, or_true, true_or, false_or, or_false, false_and, and_false, not_true_eq_false, not_false_eq_true] <;> omega)) h_73 ?_
  have h_74 := rem_v h_73 (by first | omega | (simp only [Int32.lt_iff_toInt_lt, Int32.le_iff_toInt_le, Int32.reduceToInt, ← Int32.toInt_inj, true_and, and_true, or_true, true_or, false_or, or_false, false_and, and_false, not_true_eq_false, not_false_eq_true] <;> omega)) (by first | omega | (simp only [Int32.lt_iff_toInt_lt, Int32.le_iff_toInt_le, Int32.reduceToInt, ← Int32.toInt_inj, true_and, and_true, or_true, true_or, false_or, or_false, false_and, and_false, not_true_eq_false, not_false_eq_true] <;> omega))
  refine v_aload_n hC dX12_sortOf_35 rfl ?_
  refine v_get hC fl_X12_13 m_1 e_26 rfl dX12_sortOf_36 ?_
  refine v_iload_n hC dX12_sortOf_39 rfl ?_
  obtain ⟨v_75, h_76⟩ : ∃ v9 : Int32, g_w (v_60 : Int32).toNatClampNeg = v9 := ⟨_, rfl⟩
  refine v_iald hC m_22 e_w (vp_in_iff.mpr (by first | omega | (simp only [Int32.lt_iff_toInt_lt, Int32.le_iff_toInt_le, Int32.reduceToInt, ← Int32.toInt_inj, true_and, and_true, or_true, true_or, false_or, or_false, false_and, and_false, not_true_eq_false, not_false_eq_true] <;> omega))) h_76 dX12_sortOf_40 ?_
  have b_77 := len_at o_w (i := v_60) (r := v_54) hpt (by omega) (by omega) (by omega)
  rw [h_76] at b_77
  obtain ⟨v_78, h_79⟩ : ∃ v9 : Int32, v_72 - v_72 / v_75 * v_75 = v9 := ⟨_, rfl⟩
  refine v_irem hC dX12_sortOf_41 (by first | omega | (simp only [Int32.lt_iff_toInt_lt, Int32.le_iff_toInt_le, Int32.reduceToInt, ← Int32.toInt_inj, true_and, and_true, or_true, true_or, false_or, or_false, false_and, and_false, not_true_eq_false, not_false_eq_true] <;> omega)) h_79 ?_
  have h_80 := rem_v h_79 (by first | omega | (simp only [Int32.lt_iff_toInt_lt, Int32.le_iff_toInt_le, Int32.reduceToInt, ← Int32.toInt_inj, true_and, and_true, or_true, true_or, false_or, or_false, false_and, and_false, not_true_eq_false, not_false_eq_true] <;> omega)) (by first | omega | (simp only [Int32.lt_iff_toInt_lt, Int32.le_iff_toInt_le, Int32.reduceToInt, ← Int32.toInt_inj, true_and, and_true, or_true, true_or, false_or, or_false, false_and, and_false, not_true_eq_false, not_false_eq_true] <;> omega))
  obtain ⟨v_81, h_82⟩ : ∃ v9 : Int32, v_63 + v_78 = v9 := ⟨_, rfl⟩
  refine v_iadd hC dX12_sortOf_42 h_82 ?_
  have h_83 := add_v h_82 (by first | omega | (simp only [Int32.lt_iff_toInt_lt, Int32.le_iff_toInt_le, Int32.reduceToInt, ← Int32.toInt_inj, true_and, and_true, or_true, true_or, false_or, or_false, false_and, and_false, not_true_eq_false, not_false_eq_true] <;> omega)) (by first | omega | (simp only [Int32.lt_iff_toInt_lt, Int32.le_iff_toInt_le, Int32.reduceToInt, ← Int32.toInt_inj, true_and, and_true, or_true, true_or, false_or, or_false, false_and, and_false, not_true_eq_false, not_false_eq_true] <;> omega))
  obtain ⟨v_84, h_85⟩ : ∃ v9 : Int32, g_w (v_81 : Int32).toNatClampNeg = v9 := ⟨_, rfl⟩
  refine v_iald hC m_22 e_w (vp_in_iff.mpr (by first | omega | (simp only [Int32.lt_iff_toInt_lt, Int32.le_iff_toInt_le, Int32.reduceToInt, ← Int32.toInt_inj, true_and, and_true, or_true, true_or, false_or, or_false, false_and, and_false, not_true_eq_false, not_false_eq_true] <;> omega))) h_85 dX12_sortOf_43 ?_
  have b_86 := sg_at o_w (i := v_81) (by omega) (by omega)
  rw [h_85] at b_86
  exact hR _ _ _ _ _ _ _ dX12_sortOf_44 rfl (Nat.le_of_ble_eq_true rfl) (Nat.le_of_ble_eq_true rfl) ⟨rfl, rfl, (by first | omega | (simp only [Int32.lt_iff_toInt_lt, Int32.le_iff_toInt_le, Int32.reduceToInt, ← Int32.toInt_inj, true_and, and_true, or_true, true_or, false_or, or_false, false_and, and_false, not_true_eq_false, not_false_eq_true] <;> omega))⟩
set_option maxRecDepth 100000 in
set_option maxHeartbeats 1500000 in
theorem p_X12_isFree {l : Launch} {E : Ez} {L : List Nat} {f : Nat → va_E} {T : Nat → va_E → Prop} {a_0 : Nat} {a_1 : Int32} {q : Nat → Nat} {g_w : Nat → Int32} (hW : WT T L f) (k_0 : isM T L E a_0 q) (g_1 : (0 ≤ a_1.toInt)) (e_w : f (q 1) = aI E 2076 g_w) (o_w : WOK g_w) (hpt : 1 ≤ (g_w 0).toInt) : CI l yX12_isFree cX12_isFree 2 .boolean 2 0 0 E [.ref a_0, .int a_1] L f (fun r L1 f1 => L = L1 ∧ f = f1 ∧ (0 ≤ r.toInt ∧ r.toInt ≤ 1)) := by
  refine ci_of (by decide) (Nat.le_of_ble_eq_true rfl) (fun z hz hnm hC hR => ?_)
  have hC : Cx z E cX12_isFree RX12 2 2 0 0 := hC
  subst hz
  show V z E 2 0 0 L f 0 [(0, .ref a_0), (1, .int a_1)] []
  obtain ⟨m_1, t_2, nq_21, k_3, k_4, k_5, k_6, k_7, k_8, k_9, k_10, k_11, k_12, k_13, k_14, k_15, k_16, k_17, k_18, k_19, k_20⟩ := id k_0
  obtain ⟨m_22, t_23⟩ := id k_3
  have b_24 := o_w.r0
  have b_25 := o_w.w0
  refine v_aload_n hC dX12_isFree_0 rfl ?_
  refine v_iload_n hC dX12_isFree_1 rfl ?_
  obtain ⟨v_27, v_28, v_30, v_32, v_34, v_36, v_38, v_39, v_40, v_41, v_43, e_26, b_29, b_31, b_33, b_35, b_37, b_42, b_44⟩ := hW.at m_1 t_2
  refine v_vi hC (rest := []) m_1 e_26 rfl mi_X12_sortOf ms_X12_sortOf (p_X12_sortOf hW k_0 (by first | omega | (simp only [Int32.lt_iff_toInt_lt, Int32.le_iff_toInt_le, Int32.reduceToInt, ← Int32.toInt_inj, true_and, and_true, or_true, true_or, false_or, or_false, false_and, and_false, not_true_eq_false, not_false_eq_true] <;> omega)) e_w o_w (by first | omega | (simp only [Int32.lt_iff_toInt_lt, Int32.le_iff_toInt_le, Int32.reduceToInt, ← Int32.toInt_inj, true_and, and_true, or_true, true_or, false_or, or_false, false_and, and_false, not_true_eq_false, not_false_eq_true] <;> omega))) mx_X12_sortOf ml_X12_98 (by decide) rfl (cells1 := 0) (slots1 := 0) (by decide) (by decide) (Nat.le_of_ble_eq_true rfl) (Nat.le_of_ble_eq_true rfl) rfl (Nat.le_of_ble_eq_true rfl) dX12_isFree_2 (fun r_45 L_46 f_47 h_48 => ?_)
  obtain ⟨rfl, rfl, b_49⟩ := h_48
  refine v_iconst hC dX12_isFree_5 (v := 1) (by decide) ?_
  refine v_icmp_le hC dX12_isFree_6 (tgt := 13) (by decide) (fun h_52 => ?_) (fun h_52 => ?_)
  · simp only [Int32.lt_iff_toInt_lt, Int32.le_iff_toInt_le, Int32.reduceToInt, ← Int32.toInt_inj] at h_52
    refine v_iconst hC dX12_isFree_13 (v := 0) (by decide) ?_
    exact hR _ _ _ _ _ _ _ dX12_isFree_14 rfl (Nat.le_of_ble_eq_true rfl) (Nat.le_of_ble_eq_true rfl) ⟨rfl, rfl, (by decide)⟩
  · simp only [Int32.lt_iff_toInt_lt, Int32.le_iff_toInt_le, Int32.reduceToInt, ← Int32.toInt_inj] at h_52
    refine v_iconst hC dX12_isFree_9 (v := 1) (by decide) ?_
    refine v_goto hC dX12_isFree_10 (tgt := 14) (by decide) ?_
    exact hR _ _ _ _ _ _ _ dX12_isFree_14 rfl (Nat.le_of_ble_eq_true rfl) (Nat.le_of_ble_eq_true rfl) ⟨rfl, rfl, (by decide)⟩
set_option maxRecDepth 100000 in
set_option maxHeartbeats 1500000 in
theorem p_X12_frees {l : Launch} {E : Ez} {L : List Nat} {f : Nat → va_E} {T : Nat → va_E → Prop} {a_0 : Nat} {q : Nat → Nat} {g_w : Nat → Int32} (hW : WT T L f) (k_0 : isM T L E a_0 q) (e_w : f (q 1) = aI E 2076 g_w) (o_w : WOK g_w) : CI l yX12_frees cX12_frees 3 .int 3 0 0 E [.ref a_0] L f (fun r L1 f1 => L = L1 ∧ f = f1) := by
  refine ci_of (by decide) (Nat.le_of_ble_eq_true rfl) (fun z hz hnm hC hR => ?_)
  have hC : Cx z E cX12_frees RX12 3 3 0 0 := hC
  subst hz
  show V z E 3 0 0 L f 0 [(0, .ref a_0)] []
  obtain ⟨m_1, t_2, nq_21, k_3, k_4, k_5, k_6, k_7, k_8, k_9, k_10, k_11, k_12, k_13, k_14, k_15, k_16, k_17, k_18, k_19, k_20⟩ := id k_0
  obtain ⟨m_22, t_23⟩ := id k_3
  have b_24 := o_w.r0
  have b_25 := o_w.w0
  refine v_iconst hC dX12_frees_0 (v := 0) (by decide) ?_
  refine v_istore_n hC dX12_frees_1 (by decide) (lv' := [(1, .int 0), (0, .ref a_0)]) rfl ?_
  refine v_iconst hC dX12_frees_2 (v := 0) (by decide) ?_
  refine v_istore_n hC dX12_frees_3 (by decide) (lv' := [(2, .int 0), (1, .int 0), (0, .ref a_0)]) rfl ?_
  have lp_500 : ∀ (n_501 : Nat) (i_497 : Int32) (b_499 : (0 ≤ i_497.toInt ∧ i_497.toInt ≤ 256)) (i_498 : Int32) (hm_503 : 256 - i_497.toInt < (n_501 : Int)), V z E 3 0 0 L f 4 [(2, .int i_497), (1, .int i_498), (0, .ref a_0)] [] := by
    intro n_501
    induction n_501 with
    | zero =>
      intro i_497 b_499 i_498 hm_503
      exfalso; omega
    | succ n_501 ih_502 =>
      intro i_497 b_499 i_498 hm_503
      refine v_iload_n hC dX12_frees_4 rfl ?_
      refine v_aload_n hC dX12_frees_5 rfl ?_
      obtain ⟨v_505, v_506, v_508, v_510, v_512, v_514, v_516, v_517, v_518, v_519, v_521, e_504, b_507, b_509, b_511, b_513, b_515, b_520, b_522⟩ := hW.at m_1 t_2
      refine v_vi hC (rest := [.int i_497]) m_1 e_504 rfl mi_X12_area ms_X12_area (p_X12_area hW k_0 e_w o_w) mx_X12_area ml_X12_203 (by decide) rfl (cells1 := 0) (slots1 := 0) (by decide) (by decide) (Nat.le_of_ble_eq_true rfl) (Nat.le_of_ble_eq_true rfl) rfl (Nat.le_of_ble_eq_true rfl) dX12_frees_6 (fun r_523 L_524 f_525 h_526 => ?_)
      obtain ⟨rfl, rfl, rfl⟩ := h_526
      have ar_529 := area_v o_w
      refine v_icmp_ge hC dX12_frees_9 (tgt := 34) (by decide) (fun h_530 => ?_) (fun h_530 => ?_)
      · simp only [Int32.lt_iff_toInt_lt, Int32.le_iff_toInt_le, Int32.reduceToInt, ← Int32.toInt_inj] at h_530
        refine v_iload_n hC dX12_frees_34 rfl ?_
        exact hR _ _ _ _ _ _ _ dX12_frees_35 rfl (Nat.le_of_ble_eq_true rfl) (Nat.le_of_ble_eq_true rfl) ⟨rfl, rfl⟩
      · simp only [Int32.lt_iff_toInt_lt, Int32.le_iff_toInt_le, Int32.reduceToInt, ← Int32.toInt_inj] at h_530
        refine v_iload_n hC dX12_frees_12 rfl ?_
        refine v_aload_n hC dX12_frees_13 rfl ?_
        refine v_iload_n hC dX12_frees_14 rfl ?_
        refine v_vi hC (rest := [.int i_498]) m_1 e_504 rfl mi_X12_isFree ms_X12_isFree (p_X12_isFree hW k_0 (by first | omega | (simp only [Int32.lt_iff_toInt_lt, Int32.le_iff_toInt_le, Int32.reduceToInt, ← Int32.toInt_inj, true_and, and_true, or_true, true_or, false_or, or_false, false_and, and_false, not_true_eq_false, not_false_eq_true] <;> omega)) e_w o_w (by first | omega | (simp only [Int32.lt_iff_toInt_lt, Int32.le_iff_toInt_le, Int32.reduceToInt, ← Int32.toInt_inj, true_and, and_true, or_true, true_or, false_or, or_false, false_and, and_false, not_true_eq_false, not_false_eq_true] <;> omega))) mx_X12_isFree ml_X12_206 (by decide) rfl (cells1 := 0) (slots1 := 0) (by decide) (by decide) (Nat.le_of_ble_eq_true rfl) (Nat.le_of_ble_eq_true rfl) rfl (Nat.le_of_ble_eq_true rfl) dX12_frees_15 (fun r_531 L_532 f_533 h_534 => ?_)
        obtain ⟨rfl, rfl, b_535⟩ := h_534
        refine v_if_eq hC dX12_frees_18 (tgt := 25) (by decide) (fun h_538 => ?_) (fun h_538 => ?_)
        · simp only [Int32.lt_iff_toInt_lt, Int32.le_iff_toInt_le, Int32.reduceToInt, ← Int32.toInt_inj] at h_538
          refine v_iconst hC dX12_frees_25 (v := 0) (by decide) ?_
          obtain ⟨v_539, h_540⟩ : ∃ v9 : Int32, i_498 + 0 = v9 := ⟨_, rfl⟩
          refine v_iadd hC dX12_frees_26 h_540 ?_
          have rg_542 := Int32.toInt_lt i_498
          have rg_543 := Int32.le_toInt i_498
          have h_541 := add_v h_540 (by first | omega | (simp only [Int32.lt_iff_toInt_lt, Int32.le_iff_toInt_le, Int32.reduceToInt, ← Int32.toInt_inj, true_and, and_true, or_true, true_or, false_or, or_false, false_and, and_false, not_true_eq_false, not_false_eq_true] <;> omega)) (by first | omega | (simp only [Int32.lt_iff_toInt_lt, Int32.le_iff_toInt_le, Int32.reduceToInt, ← Int32.toInt_inj, true_and, and_true, or_true, true_or, false_or, or_false, false_and, and_false, not_true_eq_false, not_false_eq_true] <;> omega))
          try simp only [Int32.reduceToInt] at h_541
          refine v_istore_n hC dX12_frees_27 (by decide) (lv' := [(1, .int v_539), (2, .int i_497), (0, .ref a_0)]) rfl ?_
          obtain ⟨v_544, h_545⟩ : ∃ v9 : Int32, i_497 + Int32.ofInt 1 = v9 := ⟨_, rfl⟩
          have h_546 := add_v (b := 1) h_545 (by first | omega | (simp only [Int32.lt_iff_toInt_lt, Int32.le_iff_toInt_le, Int32.reduceToInt, ← Int32.toInt_inj, true_and, and_true, or_true, true_or, false_or, or_false, false_and, and_false, not_true_eq_false, not_false_eq_true] <;> omega)) (by first | omega | (simp only [Int32.lt_iff_toInt_lt, Int32.le_iff_toInt_le, Int32.reduceToInt, ← Int32.toInt_inj, true_and, and_true, or_true, true_or, false_or, or_false, false_and, and_false, not_true_eq_false, not_false_eq_true] <;> omega))
          simp only [Int32.reduceToInt] at h_546
          refine v_iinc hC dX12_frees_28 (k := 1) rfl (v := v_544) h_545 (by decide) (lv' := [(2, .int v_544), (1, .int v_539), (0, .ref a_0)]) rfl ?_
          refine v_goto hC dX12_frees_31 (tgt := 4) (by decide) ?_
          refine v_pick [0, 1, 2] rfl ?_
          exact ih_502 v_544 (by first | omega | (simp only [Int32.lt_iff_toInt_lt, Int32.le_iff_toInt_le, Int32.reduceToInt, ← Int32.toInt_inj, true_and, and_true, or_true, true_or, false_or, or_false, false_and, and_false, not_true_eq_false, not_false_eq_true] <;> omega)) v_539 (by first | omega | (simp only [Int32.lt_iff_toInt_lt, Int32.le_iff_toInt_le, Int32.reduceToInt, ← Int32.toInt_inj, true_and, and_true, or_true, true_or, false_or, or_false, false_and, and_false, not_true_eq_false, not_false_eq_true] <;> omega))
        · simp only [Int32.lt_iff_toInt_lt, Int32.le_iff_toInt_le, Int32.reduceToInt, ← Int32.toInt_inj] at h_538
          refine v_iconst hC dX12_frees_21 (v := 1) (by decide) ?_
          refine v_goto hC dX12_frees_22 (tgt := 26) (by decide) ?_
          obtain ⟨v_547, h_548⟩ : ∃ v9 : Int32, i_498 + 1 = v9 := ⟨_, rfl⟩
          refine v_iadd hC dX12_frees_26 h_548 ?_
          refine v_istore_n hC dX12_frees_27 (by decide) (lv' := [(1, .int v_547), (2, .int i_497), (0, .ref a_0)]) rfl ?_
          obtain ⟨v_550, h_551⟩ : ∃ v9 : Int32, i_497 + Int32.ofInt 1 = v9 := ⟨_, rfl⟩
          have h_552 := add_v (b := 1) h_551 (by first | omega | (simp only [Int32.lt_iff_toInt_lt, Int32.le_iff_toInt_le, Int32.reduceToInt, ← Int32.toInt_inj, true_and, and_true, or_true, true_or, false_or, or_false, false_and, and_false, not_true_eq_false, not_false_eq_true] <;> omega)) (by first | omega | (simp only [Int32.lt_iff_toInt_lt, Int32.le_iff_toInt_le, Int32.reduceToInt, ← Int32.toInt_inj, true_and, and_true, or_true, true_or, false_or, or_false, false_and, and_false, not_true_eq_false, not_false_eq_true] <;> omega))
          simp only [Int32.reduceToInt] at h_552
          refine v_iinc hC dX12_frees_28 (k := 1) rfl (v := v_550) h_551 (by decide) (lv' := [(2, .int v_550), (1, .int v_547), (0, .ref a_0)]) rfl ?_
          refine v_goto hC dX12_frees_31 (tgt := 4) (by decide) ?_
          refine v_pick [0, 1, 2] rfl ?_
          exact ih_502 v_550 (by first | omega | (simp only [Int32.lt_iff_toInt_lt, Int32.le_iff_toInt_le, Int32.reduceToInt, ← Int32.toInt_inj, true_and, and_true, or_true, true_or, false_or, or_false, false_and, and_false, not_true_eq_false, not_false_eq_true] <;> omega)) v_547 (by first | omega | (simp only [Int32.lt_iff_toInt_lt, Int32.le_iff_toInt_le, Int32.reduceToInt, ← Int32.toInt_inj, true_and, and_true, or_true, true_or, false_or, or_false, false_and, and_false, not_true_eq_false, not_false_eq_true] <;> omega))
  refine v_pick [0, 1, 2] rfl ?_
  exact lp_500 258 0 (by decide) 0 (by decide)
