set_option maxRecDepth 100000 in
set_option maxHeartbeats 8000000 in
theorem p_X12_keeps {l : Launch} {E : Ez} {L : List Nat} {f : Nat → va_E} {T : Nat → va_E → Prop} {a_0 : Nat} {a_1 a_2 : Int32} {q : Nat → Nat} {g_w g_f : Nat → Int32} {u_0 u_5 u_7 u_8 u_9 u_10 u_11 u_12 u_13 u_17 u_20 : Int32} (k_0 : isM T L E a_0 q) (e_m : f a_0 = ob 12 [.int u_0, .ref (q 1), .ref (q 2), .ref (q 3), .ref (q 4), .int u_5, .ref (q 6), .int u_7, .int u_8, .int u_9, .int u_10, .int u_11, .int u_12, .int u_13, .ref (q 14), .ref (q 15), .ref (q 16), .int u_17, .ref (q 18), .ref (q 19), .int u_20, .ref (q 21), .ref (q 22), .ref (q 23), .ref (q 24), .ref (q 25), .ref (q 26), .ref (q 27), .ref (q 28)]) (e_w : f (q 1) = aI E 2076 g_w) (e_f : f (q 14) = aI E 2076 g_f) (g_1 : 0 ≤ a_1.toInt ∧ a_1.toInt ≤ a_2.toInt ∧ a_2.toInt ≤ 2076) : CV l yX12_keeps cX12_keeps 4 0 0 0 E [.ref a_0, .int a_1, .int a_2] L f (fun L1 f1 => L = L1 ∧ f1 (q 1) = aI E 2076 (va_cpy g_f g_w a_1.toNatClampNeg a_1.toNatClampNeg (a_2.toNatClampNeg - a_1.toNatClampNeg)) ∧ ∀ x9, x9 ≠ (q 1) → f1 x9 = f x9) := by
  refine cv_of (by decide) (Nat.le_of_ble_eq_true rfl) (fun z hz hnm hC hR => ?_)
  have hC : Cx z E cX12_keeps RX12 4 0 0 0 := hC
  subst hz
  show V z E 4 0 0 L f 0 [(0, .ref a_0), (1, .int a_1), (2, .int a_2)] []
  obtain ⟨m_1, t_2, nq_21, k_3, k_4, k_5, k_6, k_7, k_8, k_9, k_10, k_11, k_12, k_13, k_14, k_15, k_16, k_17, k_18, k_19, k_20⟩ := id k_0
  obtain ⟨m_22, t_23⟩ := id k_3
  obtain ⟨m_24, t_25⟩ := id k_8
  refine v_iload_n hC dX12_keeps_0 rfl ?_
  refine v_istore_n hC dX12_keeps_1 (by decide) (lv' := [(3, .int a_1), (0, .ref a_0), (1, .int a_1), (2, .int a_2)]) rfl ?_
  have lp_34 : ∀ (n_27 : Nat) (f_30 : Nat → va_E) (i_26 : Int32) (b_33 : (a_1 : Int32).toInt ≤ i_26.toInt ∧ i_26.toInt ≤ a_2.toInt) (eR_31 : f_30 (q 1) = aI E 2076 (va_cpy g_f g_w a_1.toNatClampNeg a_1.toNatClampNeg (i_26.toNatClampNeg - a_1.toNatClampNeg))) (kR_32 : ∀ x9, x9 ≠ (q 1) → f_30 x9 = f x9) (hm_29 : a_2.toInt - i_26.toInt < (n_27 : Int)), V z E 4 0 0 L f_30 2 [(3, .int i_26), (0, .ref a_0), (2, .int a_2)] [] := by
    intro n_27
    induction n_27 with
    | zero =>
      intro f_30 i_26 b_33 eR_31 kR_32 hm_29
      exfalso; omega
    | succ n_27 ih_28 =>
      intro f_30 i_26 b_33 eR_31 kR_32 hm_29
      have hf_35 := (kR_32 a_0 (ne_kd e_m e_w rfl)).trans e_m
      have hf_36 := (kR_32 (q 14) nq_21.symm).trans e_f
      refine v_iload_n hC dX12_keeps_2 rfl ?_
      refine v_iload_n hC dX12_keeps_3 rfl ?_
      refine v_icmp_ge hC dX12_keeps_4 (tgt := 25) (by decide) (fun h_37 => ?_) (fun h_37 => ?_)
      · simp only [Int32.lt_iff_toInt_lt, Int32.le_iff_toInt_le, Int32.reduceToInt, ← Int32.toInt_inj] at h_37
        exact hR _ _ _ _ _ _ dX12_keeps_25 (Nat.le_of_ble_eq_true rfl) (Nat.le_of_ble_eq_true rfl) ⟨rfl, eR_31.trans (congrArg (aI E 2076) (by rw [show (i_26 : Int32).toNatClampNeg = a_2.toNatClampNeg from by rw [clamp_t, clamp_t]; omega])), kR_32⟩
      · simp only [Int32.lt_iff_toInt_lt, Int32.le_iff_toInt_le, Int32.reduceToInt, ← Int32.toInt_inj] at h_37
        refine v_aload_n hC dX12_keeps_7 rfl ?_
        refine v_get hC fl_X12_13 m_1 hf_35 rfl dX12_keeps_8 ?_
        refine v_iload_n hC dX12_keeps_11 rfl ?_
        refine v_aload_n hC dX12_keeps_12 rfl ?_
        refine v_get hC fl_X12_34 m_1 hf_35 rfl dX12_keeps_13 ?_
        refine v_iload_n hC dX12_keeps_16 rfl ?_
        obtain ⟨v_38, h_39⟩ : ∃ v9 : Int32, g_f (i_26 : Int32).toNatClampNeg = v9 := ⟨_, rfl⟩
        refine v_iald hC m_24 hf_36 (vp_in_iff.mpr (by first | omega | (simp only [Int32.lt_iff_toInt_lt, Int32.le_iff_toInt_le, Int32.reduceToInt, ← Int32.toInt_inj, true_and, and_true, or_true, true_or, false_or, or_false, false_and, and_false, not_true_eq_false, not_false_eq_true] <;> omega))) h_39 dX12_keeps_17 ?_
        refine v_iast hC m_22 eR_31 (vp_in_iff.mpr (by first | omega | (simp only [Int32.lt_iff_toInt_lt, Int32.le_iff_toInt_le, Int32.reduceToInt, ← Int32.toInt_inj, true_and, and_true, or_true, true_or, false_or, or_false, false_and, and_false, not_true_eq_false, not_false_eq_true] <;> omega))) dX12_keeps_18 (fun f_40 hf_41 hk_42 => ?_)
        have hf_43 := (hk_42 a_0 (ne_kd hf_35 eR_31 rfl)).trans hf_35
        have hf_44 := (hk_42 (q 14) nq_21.symm).trans hf_36
        have kr_45 : ∀ x9, x9 ≠ (q 1) → f_40 x9 = f x9 := fun x9 hx9 => (hk_42 x9 hx9).trans (kR_32 x9 hx9)
        obtain ⟨v_46, h_47⟩ : ∃ v9 : Int32, i_26 + Int32.ofInt 1 = v9 := ⟨_, rfl⟩
        have h_48 := add_v (b := 1) h_47 (by first | omega | (simp only [Int32.lt_iff_toInt_lt, Int32.le_iff_toInt_le, Int32.reduceToInt, ← Int32.toInt_inj, true_and, and_true, or_true, true_or, false_or, or_false, false_and, and_false, not_true_eq_false, not_false_eq_true] <;> omega)) (by first | omega | (simp only [Int32.lt_iff_toInt_lt, Int32.le_iff_toInt_le, Int32.reduceToInt, ← Int32.toInt_inj, true_and, and_true, or_true, true_or, false_or, or_false, false_and, and_false, not_true_eq_false, not_false_eq_true] <;> omega))
        simp only [Int32.reduceToInt] at h_48
        refine v_iinc hC dX12_keeps_19 (k := 0) rfl (v := v_46) h_47 (by decide) (lv' := [(3, .int v_46), (0, .ref a_0), (2, .int a_2)]) rfl ?_
        refine v_goto hC dX12_keeps_22 (tgt := 2) (by decide) ?_
        refine v_pick [0, 1, 2] rfl ?_
        have kx_49 : ∀ x9, x9 ≠ (q 1) → f_40 x9 = f x9 := fun x9 hx9 => (hk_42 x9 hx9).trans (kR_32 x9 hx9)
        exact ih_28 f_40 v_46 (by omega) (hf_41.trans (congrArg (aI E 2076) ((cpy_step (by rw [clamp_t, clamp_t]; omega) (by rw [← h_39, show a_1.toNatClampNeg + (i_26.toNatClampNeg - a_1.toNatClampNeg) = i_26.toNatClampNeg from by rw [clamp_t, clamp_t]; omega])).trans (by rw [show i_26.toNatClampNeg - a_1.toNatClampNeg + 1 = v_46.toNatClampNeg - a_1.toNatClampNeg from by rw [clamp_t, clamp_t, clamp_t]; omega])))) kx_49 (by omega)
  refine v_pick [0, 1, 3] rfl ?_
  exact lp_34 7000 f a_1 (by first | omega | decide) (e_w.trans (congrArg (aI E 2076) (by simp only [Nat.sub_self, cpy_nil, clamp_0]))) (fun _ _ => rfl) (by first | omega | (simp only [Int32.reduceToInt]; omega))
set_option maxRecDepth 100000 in
set_option maxHeartbeats 8000000 in
theorem p_X12_clears {l : Launch} {E : Ez} {L : List Nat} {f : Nat → va_E} {T : Nat → va_E → Prop} {a_0 : Nat} {a_1 a_2 : Int32} {q : Nat → Nat} {g_f : Nat → Int32} {u_0 u_5 u_7 u_8 u_9 u_10 u_11 u_12 u_13 u_17 u_20 : Int32} (k_0 : isM T L E a_0 q) (e_m : f a_0 = ob 12 [.int u_0, .ref (q 1), .ref (q 2), .ref (q 3), .ref (q 4), .int u_5, .ref (q 6), .int u_7, .int u_8, .int u_9, .int u_10, .int u_11, .int u_12, .int u_13, .ref (q 14), .ref (q 15), .ref (q 16), .int u_17, .ref (q 18), .ref (q 19), .int u_20, .ref (q 21), .ref (q 22), .ref (q 23), .ref (q 24), .ref (q 25), .ref (q 26), .ref (q 27), .ref (q 28)]) (e_f : f (q 14) = aI E 2076 g_f) (g_1 : 0 ≤ a_1.toInt ∧ a_1.toInt ≤ a_2.toInt ∧ a_2.toInt ≤ 2076) : CV l yX12_clears cX12_clears 4 0 0 0 E [.ref a_0, .int a_1, .int a_2] L f (fun L1 f1 => L = L1 ∧ f1 (q 14) = aI E 2076 (va_cpy (fun _ => 0) g_f a_1.toNatClampNeg a_1.toNatClampNeg (a_2.toNatClampNeg - a_1.toNatClampNeg)) ∧ ∀ x9, x9 ≠ (q 14) → f1 x9 = f x9) := by
  refine cv_of (by decide) (Nat.le_of_ble_eq_true rfl) (fun z hz hnm hC hR => ?_)
  have hC : Cx z E cX12_clears RX12 4 0 0 0 := hC
  subst hz
  show V z E 4 0 0 L f 0 [(0, .ref a_0), (1, .int a_1), (2, .int a_2)] []
  obtain ⟨m_1, t_2, nq_21, k_3, k_4, k_5, k_6, k_7, k_8, k_9, k_10, k_11, k_12, k_13, k_14, k_15, k_16, k_17, k_18, k_19, k_20⟩ := id k_0
  obtain ⟨m_22, t_23⟩ := id k_3
  obtain ⟨m_24, t_25⟩ := id k_8
  refine v_iload_n hC dX12_clears_0 rfl ?_
  refine v_istore_n hC dX12_clears_1 (by decide) (lv' := [(3, .int a_1), (0, .ref a_0), (1, .int a_1), (2, .int a_2)]) rfl ?_
  have lp_34 : ∀ (n_27 : Nat) (f_30 : Nat → va_E) (i_26 : Int32) (b_33 : (a_1 : Int32).toInt ≤ i_26.toInt ∧ i_26.toInt ≤ a_2.toInt) (eR_31 : f_30 (q 14) = aI E 2076 (va_cpy (fun _ => 0) g_f a_1.toNatClampNeg a_1.toNatClampNeg (i_26.toNatClampNeg - a_1.toNatClampNeg))) (kR_32 : ∀ x9, x9 ≠ (q 14) → f_30 x9 = f x9) (hm_29 : a_2.toInt - i_26.toInt < (n_27 : Int)), V z E 4 0 0 L f_30 2 [(3, .int i_26), (0, .ref a_0), (2, .int a_2)] [] := by
    intro n_27
    induction n_27 with
    | zero =>
      intro f_30 i_26 b_33 eR_31 kR_32 hm_29
      exfalso; omega
    | succ n_27 ih_28 =>
      intro f_30 i_26 b_33 eR_31 kR_32 hm_29
      have hf_35 := (kR_32 a_0 (ne_kd e_m e_f rfl)).trans e_m
      refine v_iload_n hC dX12_clears_2 rfl ?_
      refine v_iload_n hC dX12_clears_3 rfl ?_
      refine v_icmp_ge hC dX12_clears_4 (tgt := 20) (by decide) (fun h_36 => ?_) (fun h_36 => ?_)
      · simp only [Int32.lt_iff_toInt_lt, Int32.le_iff_toInt_le, Int32.reduceToInt, ← Int32.toInt_inj] at h_36
        exact hR _ _ _ _ _ _ dX12_clears_20 (Nat.le_of_ble_eq_true rfl) (Nat.le_of_ble_eq_true rfl) ⟨rfl, eR_31.trans (congrArg (aI E 2076) (by rw [show (i_26 : Int32).toNatClampNeg = a_2.toNatClampNeg from by rw [clamp_t, clamp_t]; omega])), kR_32⟩
      · simp only [Int32.lt_iff_toInt_lt, Int32.le_iff_toInt_le, Int32.reduceToInt, ← Int32.toInt_inj] at h_36
        refine v_aload_n hC dX12_clears_7 rfl ?_
        refine v_get hC fl_X12_34 m_1 hf_35 rfl dX12_clears_8 ?_
        refine v_iload_n hC dX12_clears_11 rfl ?_
        refine v_iconst hC dX12_clears_12 (v := 0) (by decide) ?_
        refine v_iast hC m_24 eR_31 (vp_in_iff.mpr (by first | omega | (simp only [Int32.lt_iff_toInt_lt, Int32.le_iff_toInt_le, Int32.reduceToInt, ← Int32.toInt_inj, true_and, and_true, or_true, true_or, false_or, or_false, false_and, and_false, not_true_eq_false, not_false_eq_true] <;> omega))) dX12_clears_13 (fun f_37 hf_38 hk_39 => ?_)
        have hf_40 := (hk_39 a_0 (ne_kd hf_35 eR_31 rfl)).trans hf_35
        have kr_41 : ∀ x9, x9 ≠ (q 14) → f_37 x9 = f x9 := fun x9 hx9 => (hk_39 x9 hx9).trans (kR_32 x9 hx9)
        obtain ⟨v_42, h_43⟩ : ∃ v9 : Int32, i_26 + Int32.ofInt 1 = v9 := ⟨_, rfl⟩
        have h_44 := add_v (b := 1) h_43 (by first | omega | (simp only [Int32.lt_iff_toInt_lt, Int32.le_iff_toInt_le, Int32.reduceToInt, ← Int32.toInt_inj, true_and, and_true, or_true, true_or, false_or, or_false, false_and, and_false, not_true_eq_false, not_false_eq_true] <;> omega)) (by first | omega | (simp only [Int32.lt_iff_toInt_lt, Int32.le_iff_toInt_le, Int32.reduceToInt, ← Int32.toInt_inj, true_and, and_true, or_true, true_or, false_or, or_false, false_and, and_false, not_true_eq_false, not_false_eq_true] <;> omega))
        simp only [Int32.reduceToInt] at h_44
        refine v_iinc hC dX12_clears_14 (k := 0) rfl (v := v_42) h_43 (by decide) (lv' := [(3, .int v_42), (0, .ref a_0), (2, .int a_2)]) rfl ?_
        refine v_goto hC dX12_clears_17 (tgt := 2) (by decide) ?_
        refine v_pick [0, 1, 2] rfl ?_
        have kx_45 : ∀ x9, x9 ≠ (q 14) → f_37 x9 = f x9 := fun x9 hx9 => (hk_39 x9 hx9).trans (kR_32 x9 hx9)
        exact ih_28 f_37 v_42 (by omega) (hf_38.trans (congrArg (aI E 2076) ((cpy_step (by rw [clamp_t, clamp_t]; omega) rfl).trans (by rw [show i_26.toNatClampNeg - a_1.toNatClampNeg + 1 = v_42.toNatClampNeg - a_1.toNatClampNeg from by rw [clamp_t, clamp_t, clamp_t]; omega])))) kx_45 (by omega)
  refine v_pick [0, 1, 3] rfl ?_
  exact lp_34 7000 f a_1 (by first | omega | decide) (e_f.trans (congrArg (aI E 2076) (by simp only [Nat.sub_self, cpy_nil, clamp_0]))) (fun _ _ => rfl) (by first | omega | (simp only [Int32.reduceToInt]; omega))
set_option maxRecDepth 100000 in
set_option maxHeartbeats 8000000 in
theorem p_X12_begin {l : Launch} {E : Ez} {L : List Nat} {f : Nat → va_E} {T : Nat → va_E → Prop} {a_0 : Nat} {q : Nat → Nat} (hW : WT T L f) (k_0 : isM T L E a_0 q) : CV l yX12_begin cX12_begin 1 0 0 0 E [.ref a_0] L f (fun L1 f1 => L = L1 ∧ WT T L f1 ∧ FR [12] f f1 ∧ fld (f1 a_0) 12 = 0 ∧ fld (f1 a_0) 8 = 0 ∧ fld (f1 a_0) 20 = fld (f a_0) 20) := by
  refine cv_of (by decide) (Nat.le_of_ble_eq_true rfl) (fun z hz hnm hC hR => ?_)
  have hC : Cx z E cX12_begin RX12 1 0 0 0 := hC
  subst hz
  show V z E 1 0 0 L f 0 [(0, .ref a_0)] []
  obtain ⟨m_1, t_2, nq_21, k_3, k_4, k_5, k_6, k_7, k_8, k_9, k_10, k_11, k_12, k_13, k_14, k_15, k_16, k_17, k_18, k_19, k_20⟩ := id k_0
  obtain ⟨v_23, v_24, v_26, v_28, v_30, v_32, v_34, v_35, v_36, v_37, v_39, e_22, b_25, b_27, b_29, b_31, b_33, b_38, b_40⟩ := hW.at m_1 t_2
  have mz_41 : fld (f a_0) 20 = v_39.toInt := by rw [e_22]; rfl
  refine v_aload_n hC dX12_begin_0 rfl ?_
  refine v_aload_n hC dX12_begin_1 rfl ?_
  refine v_get hC fl_X12_102 m_1 e_22 rfl dX12_begin_2 ?_
  refine v_put hC fl_X12_105 m_1 e_22 rfl rfl (Nat.le_of_ble_eq_true rfl) (fs' := [.int v_23, .ref (q 1), .ref (q 2), .ref (q 3), .ref (q 4), .int v_24, .ref (q 6), .int v_24, .int v_28, .int v_30, .int v_32, .int v_34, .int v_35, .int v_36, .ref (q 14), .ref (q 15), .ref (q 16), .int v_37, .ref (q 18), .ref (q 19), .int v_39, .ref (q 21), .ref (q 22), .ref (q 23), .ref (q 24), .ref (q 25), .ref (q 26), .ref (q 27), .ref (q 28)]) rfl dX12_begin_5 (fun f_42 hf_43 hk_44 => ?_)
  have hW_45 := hW.up hf_43 hk_44 t_2 ⟨v_23, v_24, v_24, v_28, v_30, v_32, v_34, v_35, v_36, v_37, v_39, rfl, (by first | omega | (simp only [Int32.lt_iff_toInt_lt, Int32.le_iff_toInt_le, Int32.reduceToInt, ← Int32.toInt_inj, true_and, and_true, or_true, true_or, false_or, or_false, false_and, and_false, not_true_eq_false, not_false_eq_true] <;> omega)), (by first | omega | (simp only [Int32.lt_iff_toInt_lt, Int32.le_iff_toInt_le, Int32.reduceToInt, ← Int32.toInt_inj, true_and, and_true, or_true, true_or, false_or, or_false, false_and, and_false, not_true_eq_false, not_false_eq_true] <;> omega)), (by first | omega | (simp only [Int32.lt_iff_toInt_lt, Int32.le_iff_toInt_le, Int32.reduceToInt, ← Int32.toInt_inj, true_and, and_true, or_true, true_or, false_or, or_false, false_and, and_false, not_true_eq_false, not_false_eq_true] <;> omega)), (by first | omega | (simp only [Int32.lt_iff_toInt_lt, Int32.le_iff_toInt_le, Int32.reduceToInt, ← Int32.toInt_inj, true_and, and_true, or_true, true_or, false_or, or_false, false_and, and_false, not_true_eq_false, not_false_eq_true] <;> omega)), (by first | omega | (simp only [Int32.lt_iff_toInt_lt, Int32.le_iff_toInt_le, Int32.reduceToInt, ← Int32.toInt_inj, true_and, and_true, or_true, true_or, false_or, or_false, false_and, and_false, not_true_eq_false, not_false_eq_true] <;> omega)), (by first | omega | (simp only [Int32.lt_iff_toInt_lt, Int32.le_iff_toInt_le, Int32.reduceToInt, ← Int32.toInt_inj, true_and, and_true, or_true, true_or, false_or, or_false, false_and, and_false, not_true_eq_false, not_false_eq_true] <;> omega)), (by first | omega | (simp only [Int32.lt_iff_toInt_lt, Int32.le_iff_toInt_le, Int32.reduceToInt, ← Int32.toInt_inj, true_and, and_true, or_true, true_or, false_or, or_false, false_and, and_false, not_true_eq_false, not_false_eq_true] <;> omega))⟩
  have fr_46 := FR.w hk_44 e_22 (k := 12) rfl
  refine v_aload_n hC dX12_begin_8 rfl ?_
  refine v_iconst hC dX12_begin_9 (v := 0) (by decide) ?_
  refine v_put hC fl_X12_102 m_1 hf_43 rfl rfl (Nat.le_of_ble_eq_true rfl) (fs' := [.int v_23, .ref (q 1), .ref (q 2), .ref (q 3), .ref (q 4), .int 0, .ref (q 6), .int v_24, .int v_28, .int v_30, .int v_32, .int v_34, .int v_35, .int v_36, .ref (q 14), .ref (q 15), .ref (q 16), .int v_37, .ref (q 18), .ref (q 19), .int v_39, .ref (q 21), .ref (q 22), .ref (q 23), .ref (q 24), .ref (q 25), .ref (q 26), .ref (q 27), .ref (q 28)]) rfl dX12_begin_10 (fun f_47 hf_48 hk_49 => ?_)
  have hW_50 := hW_45.up hf_48 hk_49 t_2 ⟨v_23, 0, v_24, v_28, v_30, v_32, v_34, v_35, v_36, v_37, v_39, rfl, (by decide), (by first | omega | (simp only [Int32.lt_iff_toInt_lt, Int32.le_iff_toInt_le, Int32.reduceToInt, ← Int32.toInt_inj, true_and, and_true, or_true, true_or, false_or, or_false, false_and, and_false, not_true_eq_false, not_false_eq_true] <;> omega)), (by first | omega | (simp only [Int32.lt_iff_toInt_lt, Int32.le_iff_toInt_le, Int32.reduceToInt, ← Int32.toInt_inj, true_and, and_true, or_true, true_or, false_or, or_false, false_and, and_false, not_true_eq_false, not_false_eq_true] <;> omega)), (by first | omega | (simp only [Int32.lt_iff_toInt_lt, Int32.le_iff_toInt_le, Int32.reduceToInt, ← Int32.toInt_inj, true_and, and_true, or_true, true_or, false_or, or_false, false_and, and_false, not_true_eq_false, not_false_eq_true] <;> omega)), (by first | omega | (simp only [Int32.lt_iff_toInt_lt, Int32.le_iff_toInt_le, Int32.reduceToInt, ← Int32.toInt_inj, true_and, and_true, or_true, true_or, false_or, or_false, false_and, and_false, not_true_eq_false, not_false_eq_true] <;> omega)), (by first | omega | (simp only [Int32.lt_iff_toInt_lt, Int32.le_iff_toInt_le, Int32.reduceToInt, ← Int32.toInt_inj, true_and, and_true, or_true, true_or, false_or, or_false, false_and, and_false, not_true_eq_false, not_false_eq_true] <;> omega)), (by first | omega | (simp only [Int32.lt_iff_toInt_lt, Int32.le_iff_toInt_le, Int32.reduceToInt, ← Int32.toInt_inj, true_and, and_true, or_true, true_or, false_or, or_false, false_and, and_false, not_true_eq_false, not_false_eq_true] <;> omega))⟩
  have fr_51 := FR.w hk_49 hf_43 (k := 12) rfl
  refine v_aload_n hC dX12_begin_13 rfl ?_
  refine v_iconst hC dX12_begin_14 (v := 0) (by decide) ?_
  refine v_put hC fl_X12_108 m_1 hf_48 rfl rfl (Nat.le_of_ble_eq_true rfl) (fs' := [.int v_23, .ref (q 1), .ref (q 2), .ref (q 3), .ref (q 4), .int 0, .ref (q 6), .int v_24, .int 0, .int v_30, .int v_32, .int v_34, .int v_35, .int v_36, .ref (q 14), .ref (q 15), .ref (q 16), .int v_37, .ref (q 18), .ref (q 19), .int v_39, .ref (q 21), .ref (q 22), .ref (q 23), .ref (q 24), .ref (q 25), .ref (q 26), .ref (q 27), .ref (q 28)]) rfl dX12_begin_15 (fun f_52 hf_53 hk_54 => ?_)
  have hW_55 := hW_50.up hf_53 hk_54 t_2 ⟨v_23, 0, v_24, 0, v_30, v_32, v_34, v_35, v_36, v_37, v_39, rfl, (by decide), (by first | omega | (simp only [Int32.lt_iff_toInt_lt, Int32.le_iff_toInt_le, Int32.reduceToInt, ← Int32.toInt_inj, true_and, and_true, or_true, true_or, false_or, or_false, false_and, and_false, not_true_eq_false, not_false_eq_true] <;> omega)), (by decide), (by first | omega | (simp only [Int32.lt_iff_toInt_lt, Int32.le_iff_toInt_le, Int32.reduceToInt, ← Int32.toInt_inj, true_and, and_true, or_true, true_or, false_or, or_false, false_and, and_false, not_true_eq_false, not_false_eq_true] <;> omega)), (by first | omega | (simp only [Int32.lt_iff_toInt_lt, Int32.le_iff_toInt_le, Int32.reduceToInt, ← Int32.toInt_inj, true_and, and_true, or_true, true_or, false_or, or_false, false_and, and_false, not_true_eq_false, not_false_eq_true] <;> omega)), (by first | omega | (simp only [Int32.lt_iff_toInt_lt, Int32.le_iff_toInt_le, Int32.reduceToInt, ← Int32.toInt_inj, true_and, and_true, or_true, true_or, false_or, or_false, false_and, and_false, not_true_eq_false, not_false_eq_true] <;> omega)), (by first | omega | (simp only [Int32.lt_iff_toInt_lt, Int32.le_iff_toInt_le, Int32.reduceToInt, ← Int32.toInt_inj, true_and, and_true, or_true, true_or, false_or, or_false, false_and, and_false, not_true_eq_false, not_false_eq_true] <;> omega))⟩
  have fr_56 := FR.w hk_54 hf_48 (k := 12) rfl
  refine v_aload_n hC dX12_begin_18 rfl ?_
  refine v_iconst hC dX12_begin_19 (v := 0) (by decide) ?_
  refine v_put hC fl_X12_111 m_1 hf_53 rfl rfl (Nat.le_of_ble_eq_true rfl) (fs' := [.int v_23, .ref (q 1), .ref (q 2), .ref (q 3), .ref (q 4), .int 0, .ref (q 6), .int v_24, .int 0, .int v_30, .int v_32, .int v_34, .int 0, .int v_36, .ref (q 14), .ref (q 15), .ref (q 16), .int v_37, .ref (q 18), .ref (q 19), .int v_39, .ref (q 21), .ref (q 22), .ref (q 23), .ref (q 24), .ref (q 25), .ref (q 26), .ref (q 27), .ref (q 28)]) rfl dX12_begin_20 (fun f_57 hf_58 hk_59 => ?_)
  have hW_60 := hW_55.up hf_58 hk_59 t_2 ⟨v_23, 0, v_24, 0, v_30, v_32, v_34, 0, v_36, v_37, v_39, rfl, (by decide), (by first | omega | (simp only [Int32.lt_iff_toInt_lt, Int32.le_iff_toInt_le, Int32.reduceToInt, ← Int32.toInt_inj, true_and, and_true, or_true, true_or, false_or, or_false, false_and, and_false, not_true_eq_false, not_false_eq_true] <;> omega)), (by decide), (by first | omega | (simp only [Int32.lt_iff_toInt_lt, Int32.le_iff_toInt_le, Int32.reduceToInt, ← Int32.toInt_inj, true_and, and_true, or_true, true_or, false_or, or_false, false_and, and_false, not_true_eq_false, not_false_eq_true] <;> omega)), (by first | omega | (simp only [Int32.lt_iff_toInt_lt, Int32.le_iff_toInt_le, Int32.reduceToInt, ← Int32.toInt_inj, true_and, and_true, or_true, true_or, false_or, or_false, false_and, and_false, not_true_eq_false, not_false_eq_true] <;> omega)), (by first | omega | (simp only [Int32.lt_iff_toInt_lt, Int32.le_iff_toInt_le, Int32.reduceToInt, ← Int32.toInt_inj, true_and, and_true, or_true, true_or, false_or, or_false, false_and, and_false, not_true_eq_false, not_false_eq_true] <;> omega)), (by first | omega | (simp only [Int32.lt_iff_toInt_lt, Int32.le_iff_toInt_le, Int32.reduceToInt, ← Int32.toInt_inj, true_and, and_true, or_true, true_or, false_or, or_false, false_and, and_false, not_true_eq_false, not_false_eq_true] <;> omega))⟩
  have fr_61 := FR.w hk_59 hf_53 (k := 12) rfl
  refine v_aload_n hC dX12_begin_23 rfl ?_
  refine v_iconst hC dX12_begin_24 (v := (-1)) (by decide) ?_
  refine v_put hC fl_X12_31 m_1 hf_58 rfl rfl (Nat.le_of_ble_eq_true rfl) (fs' := [.int v_23, .ref (q 1), .ref (q 2), .ref (q 3), .ref (q 4), .int 0, .ref (q 6), .int v_24, .int 0, .int v_30, .int v_32, .int v_34, .int 0, .int (-1), .ref (q 14), .ref (q 15), .ref (q 16), .int v_37, .ref (q 18), .ref (q 19), .int v_39, .ref (q 21), .ref (q 22), .ref (q 23), .ref (q 24), .ref (q 25), .ref (q 26), .ref (q 27), .ref (q 28)]) rfl dX12_begin_25 (fun f_62 hf_63 hk_64 => ?_)
  have hW_65 := hW_60.up hf_63 hk_64 t_2 ⟨v_23, 0, v_24, 0, v_30, v_32, v_34, 0, (-1), v_37, v_39, rfl, (by decide), (by first | omega | (simp only [Int32.lt_iff_toInt_lt, Int32.le_iff_toInt_le, Int32.reduceToInt, ← Int32.toInt_inj, true_and, and_true, or_true, true_or, false_or, or_false, false_and, and_false, not_true_eq_false, not_false_eq_true] <;> omega)), (by decide), (by first | omega | (simp only [Int32.lt_iff_toInt_lt, Int32.le_iff_toInt_le, Int32.reduceToInt, ← Int32.toInt_inj, true_and, and_true, or_true, true_or, false_or, or_false, false_and, and_false, not_true_eq_false, not_false_eq_true] <;> omega)), (by first | omega | (simp only [Int32.lt_iff_toInt_lt, Int32.le_iff_toInt_le, Int32.reduceToInt, ← Int32.toInt_inj, true_and, and_true, or_true, true_or, false_or, or_false, false_and, and_false, not_true_eq_false, not_false_eq_true] <;> omega)), (by first | omega | (simp only [Int32.lt_iff_toInt_lt, Int32.le_iff_toInt_le, Int32.reduceToInt, ← Int32.toInt_inj, true_and, and_true, or_true, true_or, false_or, or_false, false_and, and_false, not_true_eq_false, not_false_eq_true] <;> omega)), (by first | omega | (simp only [Int32.lt_iff_toInt_lt, Int32.le_iff_toInt_le, Int32.reduceToInt, ← Int32.toInt_inj, true_and, and_true, or_true, true_or, false_or, or_false, false_and, and_false, not_true_eq_false, not_false_eq_true] <;> omega))⟩
  have fr_66 := FR.w hk_64 hf_58 (k := 12) rfl
  have fe_67 : fld (f_62 a_0) 12 = (0 : Int32).toInt := by rw [hf_63]; rfl
  simp only [Int32.reduceToInt] at fe_67
  have fe_68 : fld (f_62 a_0) 8 = (0 : Int32).toInt := by rw [hf_63]; rfl
  simp only [Int32.reduceToInt] at fe_68
  have fe_69 : fld (f_62 a_0) 20 = (v_39 : Int32).toInt := by rw [hf_63]; rfl
  exact hR _ _ _ _ _ _ dX12_begin_28 (Nat.le_of_ble_eq_true rfl) (Nat.le_of_ble_eq_true rfl) ⟨rfl, hW_65, (((((fr_46.tr fr_51).tr fr_56).tr fr_61).tr fr_66).mono rfl), (by simp only [fe_67, true_and, and_true, or_true, true_or, false_or, or_false, false_and, and_false, not_true_eq_false, not_false_eq_true] <;> first | omega | (simp only [Int32.lt_iff_toInt_lt, Int32.le_iff_toInt_le, Int32.reduceToInt, ← Int32.toInt_inj, true_and, and_true, or_true, true_or, false_or, or_false, false_and, and_false, not_true_eq_false, not_false_eq_true] <;> omega)), (by simp only [fe_68, true_and, and_true, or_true, true_or, false_or, or_false, false_and, and_false, not_true_eq_false, not_false_eq_true] <;> first | omega | (simp only [Int32.lt_iff_toInt_lt, Int32.le_iff_toInt_le, Int32.reduceToInt, ← Int32.toInt_inj, true_and, and_true, or_true, true_or, false_or, or_false, false_and, and_false, not_true_eq_false, not_false_eq_true] <;> omega)), (by simp only [fe_69, mz_41, true_and, and_true, or_true, true_or, false_or, or_false, false_and, and_false, not_true_eq_false, not_false_eq_true] <;> first | omega | (simp only [Int32.lt_iff_toInt_lt, Int32.le_iff_toInt_le, Int32.reduceToInt, ← Int32.toInt_inj, true_and, and_true, or_true, true_or, false_or, or_false, false_and, and_false, not_true_eq_false, not_false_eq_true] <;> omega))⟩
set_option maxRecDepth 100000 in
set_option maxHeartbeats 8000000 in
theorem p_X12_see {l : Launch} {E : Ez} {L : List Nat} {f : Nat → va_E} {T : Nat → va_E → Prop} {a_0 : Nat} {a_1 : Int32} {q : Nat → Nat} (hW : WT T L f) (k_0 : isM T L E a_0 q) (g_1 : (0 ≤ a_1.toInt ∧ a_1.toInt ≤ 600)) : CI l yX12_see cX12_see 2 .int 0 0 0 E [.ref a_0, .int a_1] L f (fun r L1 f1 => L = L1 ∧ f = f1 ∧ r = (sv (f a_0) (f (q 4)) a_1)) := by
  refine ci_of (by decide) (Nat.le_of_ble_eq_true rfl) (fun z hz hnm hC hR => ?_)
  have hC : Cx z E cX12_see RX12 2 0 0 0 := hC
  subst hz
  show V z E 2 0 0 L f 0 [(0, .ref a_0), (1, .int a_1)] []
  obtain ⟨m_1, t_2, nq_21, k_3, k_4, k_5, k_6, k_7, k_8, k_9, k_10, k_11, k_12, k_13, k_14, k_15, k_16, k_17, k_18, k_19, k_20⟩ := id k_0
  refine v_iload_n hC dX12_see_0 rfl ?_
  refine v_aload_n hC dX12_see_1 rfl ?_
  obtain ⟨v_23, v_24, v_26, v_28, v_30, v_32, v_34, v_35, v_36, v_37, v_39, e_22, b_25, b_27, b_29, b_31, b_33, b_38, b_40⟩ := hW.at m_1 t_2
  refine v_get hC fl_X12_105 m_1 e_22 rfl dX12_see_2 ?_
  refine v_icmp_ge hC dX12_see_5 (tgt := 21) (by decide) (fun h_41 => ?_) (fun h_41 => ?_)
  · simp only [Int32.lt_iff_toInt_lt, Int32.le_iff_toInt_le, Int32.reduceToInt, ← Int32.toInt_inj] at h_41
    refine v_iconst hC dX12_see_21 (v := (-1)) (by decide) ?_
    have fe_42 : fld (f a_0) 7 = (v_26 : Int32).toInt := by rw [e_22]; rfl
    exact hR _ _ _ _ _ _ _ dX12_see_22 rfl (Nat.le_of_ble_eq_true rfl) (Nat.le_of_ble_eq_true rfl) ⟨rfl, rfl, (sv_out (by rw [fe_42]; omega))⟩
  · simp only [Int32.lt_iff_toInt_lt, Int32.le_iff_toInt_le, Int32.reduceToInt, ← Int32.toInt_inj] at h_41
    refine v_aload_n hC dX12_see_8 rfl ?_
    refine v_get hC fl_X12_24 m_1 e_22 rfl dX12_see_9 ?_
    refine v_iload_n hC dX12_see_12 rfl ?_
    obtain ⟨m_43, t_44⟩ := id k_6
    obtain ⟨g_46, e_45, fit_47⟩ := hW.at m_43 t_44
    obtain ⟨v_48, h_49⟩ : ∃ v9 : Int32, g_46 (a_1 : Int32).toNatClampNeg = v9 := ⟨_, rfl⟩
    refine v_bald hC m_43 e_45 (vp_in_iff.mpr (by first | omega | (simp only [Int32.lt_iff_toInt_lt, Int32.le_iff_toInt_le, Int32.reduceToInt, ← Int32.toInt_inj, true_and, and_true, or_true, true_or, false_or, or_false, false_and, and_false, not_true_eq_false, not_false_eq_true] <;> omega))) h_49 dX12_see_13 ?_
    refine v_sipush hC dX12_see_14 (v := 255) (by decide) ?_
    obtain ⟨v_50, h_51⟩ : ∃ v9 : Int32, v_48 &&& 255 = v9 := ⟨_, rfl⟩
    refine v_iand hC dX12_see_17 h_51 ?_
    have h_52 := and_v h_51 (by decide)
    try simp only [Int32.reduceToInt] at h_52
    refine v_goto hC dX12_see_18 (tgt := 22) (by decide) ?_
    have fe_53 : fld (f a_0) 7 = (v_26 : Int32).toInt := by rw [e_22]; rfl
    exact hR _ _ _ _ _ _ _ dX12_see_22 rfl (Nat.le_of_ble_eq_true rfl) (Nat.le_of_ble_eq_true rfl) ⟨rfl, rfl, (sv_in (by rw [fe_53]; omega) e_45 h_49 h_51)⟩
set_option maxRecDepth 100000 in
set_option maxHeartbeats 8000000 in
theorem p_X12_in {l : Launch} {E : Ez} {L : List Nat} {f : Nat → va_E} {T : Nat → va_E → Prop} {a_0 : Int64} {a_1 : Int64} {a_2 : Int64} (hW : WT T L f) : CI l yX12_in cX12_in 6 .boolean 0 0 0 E [.long a_0, .long a_1, .long a_2] L f (fun r L1 f1 => L = L1 ∧ f = f1 ∧ (0 ≤ r.toInt ∧ r.toInt ≤ 1) ∧ ((r.toInt = 1 ∧ a_1.toInt ≤ a_0.toInt ∧ a_0.toInt ≤ a_2.toInt) ∨ (r.toInt = 0 ∧ (a_0.toInt < a_1.toInt ∨ a_2.toInt < a_0.toInt)))) := by
  refine ci_of (by decide) (Nat.le_of_ble_eq_true rfl) (fun z hz hnm hC hR => ?_)
  have hC : Cx z E cX12_in RX12 6 0 0 0 := hC
  subst hz
  show V z E 6 0 0 L f 0 [(0, .long a_0), (2, .long a_1), (4, .long a_2)] []
  refine v_lload_n hC dX12_in_0 rfl ?_
  refine v_lload_n hC dX12_in_1 rfl ?_
  obtain ⟨v_1, h_2⟩ : ∃ v9 : Int32, lg_cmp (a_0 : Int64) a_1 = v9 := ⟨_, rfl⟩
  refine v_lcmp hC dX12_in_2 h_2 ?_
  refine v_if_lt hC dX12_in_3 (tgt := 17) (by decide) (fun h_3 => ?_) (fun h_3 => ?_)
  · rw [← h_2] at h_3
    have h_4 := (lgc_lt.mp h_3)
    simp only [Int64.lt_iff_toInt_lt, Int64.le_iff_toInt_le] at h_4
    refine v_iconst hC dX12_in_17 (v := 0) (by decide) ?_
    exact hR _ _ _ _ _ _ _ dX12_in_18 rfl (Nat.le_of_ble_eq_true rfl) (Nat.le_of_ble_eq_true rfl) ⟨rfl, rfl, (by decide), (by first | omega | (simp only [Int32.lt_iff_toInt_lt, Int32.le_iff_toInt_le, Int32.reduceToInt, ← Int32.toInt_inj, true_and, and_true, or_true, true_or, false_or, or_false, false_and, and_false, not_true_eq_false, not_false_eq_true] <;> omega))⟩
  · rw [← h_2] at h_3
    have h_5 := (mt lgc_lt.mpr h_3)
    simp only [Int64.lt_iff_toInt_lt, Int64.le_iff_toInt_le] at h_5
    refine v_lload_n hC dX12_in_6 rfl ?_
    refine v_lload hC dX12_in_7 rfl ?_
    obtain ⟨v_6, h_7⟩ : ∃ v9 : Int32, lg_cmp (a_0 : Int64) a_2 = v9 := ⟨_, rfl⟩
    refine v_lcmp hC dX12_in_9 h_7 ?_
    refine v_if_gt hC dX12_in_10 (tgt := 17) (by decide) (fun h_8 => ?_) (fun h_8 => ?_)
    · rw [← h_7] at h_8
      have h_9 := (lgc_gt.mp h_8)
      simp only [Int64.lt_iff_toInt_lt, Int64.le_iff_toInt_le] at h_9
      refine v_iconst hC dX12_in_17 (v := 0) (by decide) ?_
      exact hR _ _ _ _ _ _ _ dX12_in_18 rfl (Nat.le_of_ble_eq_true rfl) (Nat.le_of_ble_eq_true rfl) ⟨rfl, rfl, (by decide), (by first | omega | (simp only [Int32.lt_iff_toInt_lt, Int32.le_iff_toInt_le, Int32.reduceToInt, ← Int32.toInt_inj, true_and, and_true, or_true, true_or, false_or, or_false, false_and, and_false, not_true_eq_false, not_false_eq_true] <;> omega))⟩
    · rw [← h_7] at h_8
      have h_10 := (mt lgc_gt.mpr h_8)
      simp only [Int64.lt_iff_toInt_lt, Int64.le_iff_toInt_le] at h_10
      refine v_iconst hC dX12_in_13 (v := 1) (by decide) ?_
      refine v_goto hC dX12_in_14 (tgt := 18) (by decide) ?_
      exact hR _ _ _ _ _ _ _ dX12_in_18 rfl (Nat.le_of_ble_eq_true rfl) (Nat.le_of_ble_eq_true rfl) ⟨rfl, rfl, (by decide), (by first | omega | (simp only [Int32.lt_iff_toInt_lt, Int32.le_iff_toInt_le, Int32.reduceToInt, ← Int32.toInt_inj, true_and, and_true, or_true, true_or, false_or, or_false, false_and, and_false, not_true_eq_false, not_false_eq_true] <;> omega))⟩
set_option maxRecDepth 100000 in
set_option maxHeartbeats 8000000 in
theorem p_X12_advance {l : Launch} {E : Ez} {L : List Nat} {f : Nat → va_E} {T : Nat → va_E → Prop} {a_0 : Nat} {q : Nat → Nat} (hW : WT T L f) (k_0 : isM T L E a_0 q) : CV l yX12_advance cX12_advance 2 1 0 0 E [.ref a_0] L f (fun L1 f1 => L = L1 ∧ WT T L f1 ∧ FR [12] f f1 ∧ (fld (f a_0) 8 ≤ fld (f1 a_0) 9 ∧ fld (f1 a_0) 9 ≤ fld (f1 a_0) 8) ∧ (fld (f1 a_0) 10 = 0 ∨ fld (f1 a_0) 9 < fld (f1 a_0) 8) ∧ fld (f1 a_0) 12 = fld (f a_0) 12 ∧ fld (f1 a_0) 20 = fld (f a_0) 20) := by
  refine cv_of (by decide) (Nat.le_of_ble_eq_true rfl) (fun z hz hnm hC hR => ?_)
  have hC : Cx z E cX12_advance RX12 2 1 0 0 := hC
  subst hz
  show V z E 2 0 0 L f 0 [(0, .ref a_0)] []
  obtain ⟨m_1, t_2, nq_21, k_3, k_4, k_5, k_6, k_7, k_8, k_9, k_10, k_11, k_12, k_13, k_14, k_15, k_16, k_17, k_18, k_19, k_20⟩ := id k_0
  obtain ⟨v_23, v_24, v_26, v_28, v_30, v_32, v_34, v_35, v_36, v_37, v_39, e_22, b_25, b_27, b_29, b_31, b_33, b_38, b_40⟩ := hW.at m_1 t_2
  have mz_41 : fld (f a_0) 8 = v_28.toInt := by rw [e_22]; rfl
  have mz_42 : fld (f a_0) 12 = v_35.toInt := by rw [e_22]; rfl
  have mz_43 : fld (f a_0) 20 = v_39.toInt := by rw [e_22]; rfl
  have lp_2816 : ∀ (n_2817 : Nat) (f_2810 : Nat → va_E) (hW_2811 : WT T L f_2810) (hF_2812 : FR [12] f f_2810)  (nv_2813 : v_28.toInt ≤ fld (f_2810 a_0) 8) (nv_2814 : fld (f_2810 a_0) 12 = v_35.toInt) (nv_2815 : fld (f_2810 a_0) 20 = v_39.toInt) (hm_2819 : 600 - fld (f_2810 a_0) 8 < (n_2817 : Int)), V z E 2 0 0 L f_2810 0 [(0, .ref a_0)] [] := by
    intro n_2817
    induction n_2817 with
    | zero =>
      intro f_2810 hW_2811 hF_2812 nv_2813 nv_2814 nv_2815 hm_2819
      obtain ⟨v_2821, v_2822, v_2824, v_2826, v_2828, v_2830, v_2832, v_2833, v_2834, v_2835, v_2837, e_2820, b_2823, b_2825, b_2827, b_2829, b_2831, b_2836, b_2838⟩ := hW_2811.at m_1 t_2
      have fe_2839 : fld (f_2810 a_0) 8 = (v_2826 : Int32).toInt := by rw [e_2820]; rfl
      rw [fe_2839] at nv_2813
      have fe_2840 : fld (f_2810 a_0) 12 = (v_2833 : Int32).toInt := by rw [e_2820]; rfl
      rw [fe_2840] at nv_2814
      have fe_2841 : fld (f_2810 a_0) 20 = (v_2837 : Int32).toInt := by rw [e_2820]; rfl
      rw [fe_2841] at nv_2815
      have h_2842 : fld (f_2810 a_0) 8 = (v_2826 : Int32).toInt := by rw [e_2820]; rfl
      rw [h_2842] at hm_2819
      exfalso; omega
    | succ n_2817 ih_2818 =>
      intro f_2810 hW_2811 hF_2812 nv_2813 nv_2814 nv_2815 hm_2819
      obtain ⟨v_2821, v_2822, v_2824, v_2826, v_2828, v_2830, v_2832, v_2833, v_2834, v_2835, v_2837, e_2820, b_2823, b_2825, b_2827, b_2829, b_2831, b_2836, b_2838⟩ := hW_2811.at m_1 t_2
      have fe_2839 : fld (f_2810 a_0) 8 = (v_2826 : Int32).toInt := by rw [e_2820]; rfl
      rw [fe_2839] at nv_2813
      have fe_2840 : fld (f_2810 a_0) 12 = (v_2833 : Int32).toInt := by rw [e_2820]; rfl
      rw [fe_2840] at nv_2814
      have fe_2841 : fld (f_2810 a_0) 20 = (v_2837 : Int32).toInt := by rw [e_2820]; rfl
      rw [fe_2841] at nv_2815
      have h_2842 : fld (f_2810 a_0) 8 = (v_2826 : Int32).toInt := by rw [e_2820]; rfl
      rw [h_2842] at hm_2819
      refine v_aload_n hC dX12_advance_0 rfl ?_
      refine v_aload_n hC dX12_advance_1 rfl ?_
      refine v_get hC fl_X12_108 m_1 e_2820 rfl dX12_advance_2 ?_
      refine v_vi hC (rest := []) m_1 e_2820 rfl mi_X12_see ms_X12_see (p_X12_see hW_2811 k_0 (by first | omega | (simp only [Int32.lt_iff_toInt_lt, Int32.le_iff_toInt_le, Int32.reduceToInt, ← Int32.toInt_inj, true_and, and_true, or_true, true_or, false_or, or_false, false_and, and_false, not_true_eq_false, not_false_eq_true] <;> omega))) mx_X12_see ml_X12_114 (by decide) rfl (cells1 := 0) (slots1 := 0) (by decide) (by decide) (Nat.le_of_ble_eq_true rfl) (Nat.le_of_ble_eq_true rfl) rfl (Nat.le_of_ble_eq_true rfl) dX12_advance_5 (fun r_2843 L_2844 f_2845 h_2846 => ?_)
      obtain ⟨rfl, rfl, rfl⟩ := h_2846
      have sb_2849 := sv_b (f_2810 a_0) (f_2810 (q 4)) v_2826
      have fe_2850 : fld (f_2810 a_0) 7 = (v_2824 : Int32).toInt := by rw [e_2820]; rfl
      rw [fe_2850] at sb_2849
      refine v_bipush hC dX12_advance_8 (v := 32) (by decide) ?_
      refine v_icmp_eq hC dX12_advance_10 (tgt := 26) (by decide) (fun h_2851 => ?_) (fun h_2851 => ?_)
      · simp only [Int32.lt_iff_toInt_lt, Int32.le_iff_toInt_le, Int32.reduceToInt, ← Int32.toInt_inj] at h_2851
        refine v_aload_n hC dX12_advance_26 rfl ?_
        refine v_dup hC dX12_advance_27 rfl ?_
        refine v_get hC fl_X12_108 m_1 e_2820 rfl dX12_advance_28 ?_
        refine v_iconst hC dX12_advance_31 (v := 1) (by decide) ?_
        obtain ⟨v_2864, h_2865⟩ : ∃ v9 : Int32, v_2826 + 1 = v9 := ⟨_, rfl⟩
        refine v_iadd hC dX12_advance_32 h_2865 ?_
        have h_2866 := add_v h_2865 (by first | omega | (simp only [Int32.lt_iff_toInt_lt, Int32.le_iff_toInt_le, Int32.reduceToInt, ← Int32.toInt_inj, true_and, and_true, or_true, true_or, false_or, or_false, false_and, and_false, not_true_eq_false, not_false_eq_true] <;> omega)) (by first | omega | (simp only [Int32.lt_iff_toInt_lt, Int32.le_iff_toInt_le, Int32.reduceToInt, ← Int32.toInt_inj, true_and, and_true, or_true, true_or, false_or, or_false, false_and, and_false, not_true_eq_false, not_false_eq_true] <;> omega))
        try simp only [Int32.reduceToInt] at h_2866
        refine v_put hC fl_X12_108 m_1 e_2820 rfl rfl (Nat.le_of_ble_eq_true rfl) (fs' := [.int v_2821, .ref (q 1), .ref (q 2), .ref (q 3), .ref (q 4), .int v_2822, .ref (q 6), .int v_2824, .int v_2864, .int v_2828, .int v_2830, .int v_2832, .int v_2833, .int v_2834, .ref (q 14), .ref (q 15), .ref (q 16), .int v_2835, .ref (q 18), .ref (q 19), .int v_2837, .ref (q 21), .ref (q 22), .ref (q 23), .ref (q 24), .ref (q 25), .ref (q 26), .ref (q 27), .ref (q 28)]) rfl dX12_advance_33 (fun f_2867 hf_2868 hk_2869 => ?_)
        have hW_2870 := hW_2811.up hf_2868 hk_2869 t_2 ⟨v_2821, v_2822, v_2824, v_2864, v_2828, v_2830, v_2832, v_2833, v_2834, v_2835, v_2837, rfl, (by first | omega | (simp only [Int32.lt_iff_toInt_lt, Int32.le_iff_toInt_le, Int32.reduceToInt, ← Int32.toInt_inj, true_and, and_true, or_true, true_or, false_or, or_false, false_and, and_false, not_true_eq_false, not_false_eq_true] <;> omega)), (by first | omega | (simp only [Int32.lt_iff_toInt_lt, Int32.le_iff_toInt_le, Int32.reduceToInt, ← Int32.toInt_inj, true_and, and_true, or_true, true_or, false_or, or_false, false_and, and_false, not_true_eq_false, not_false_eq_true] <;> omega)), (by first | omega | (simp only [Int32.lt_iff_toInt_lt, Int32.le_iff_toInt_le, Int32.reduceToInt, ← Int32.toInt_inj, true_and, and_true, or_true, true_or, false_or, or_false, false_and, and_false, not_true_eq_false, not_false_eq_true] <;> omega)), (by first | omega | (simp only [Int32.lt_iff_toInt_lt, Int32.le_iff_toInt_le, Int32.reduceToInt, ← Int32.toInt_inj, true_and, and_true, or_true, true_or, false_or, or_false, false_and, and_false, not_true_eq_false, not_false_eq_true] <;> omega)), (by first | omega | (simp only [Int32.lt_iff_toInt_lt, Int32.le_iff_toInt_le, Int32.reduceToInt, ← Int32.toInt_inj, true_and, and_true, or_true, true_or, false_or, or_false, false_and, and_false, not_true_eq_false, not_false_eq_true] <;> omega)), (by first | omega | (simp only [Int32.lt_iff_toInt_lt, Int32.le_iff_toInt_le, Int32.reduceToInt, ← Int32.toInt_inj, true_and, and_true, or_true, true_or, false_or, or_false, false_and, and_false, not_true_eq_false, not_false_eq_true] <;> omega)), (by first | omega | (simp only [Int32.lt_iff_toInt_lt, Int32.le_iff_toInt_le, Int32.reduceToInt, ← Int32.toInt_inj, true_and, and_true, or_true, true_or, false_or, or_false, false_and, and_false, not_true_eq_false, not_false_eq_true] <;> omega))⟩
        have fr_2871 := FR.w hk_2869 e_2820 (k := 12) rfl
        refine v_goto hC dX12_advance_36 (tgt := 0) (by decide) ?_
        refine v_pick [0] rfl ?_
        have fe_2872 : fld (f_2867 a_0) 8 = (v_2864 : Int32).toInt := by rw [hf_2868]; rfl
        have fe_2873 : fld (f_2867 a_0) 12 = (v_2833 : Int32).toInt := by rw [hf_2868]; rfl
        have fe_2874 : fld (f_2867 a_0) 20 = (v_2837 : Int32).toInt := by rw [hf_2868]; rfl
        have h_2875 : fld (f_2867 a_0) 8 = (v_2864 : Int32).toInt := by rw [hf_2868]; rfl
        exact ih_2818 f_2867 hW_2870 ((hF_2812.tr fr_2871).mono rfl) (by rw [fe_2872] <;> first | omega | (simp only [Int32.lt_iff_toInt_lt, Int32.le_iff_toInt_le, Int32.reduceToInt, ← Int32.toInt_inj, true_and, and_true, or_true, true_or, false_or, or_false, false_and, and_false, not_true_eq_false, not_false_eq_true] <;> omega)) (by rw [fe_2873] <;> first | omega | (simp only [Int32.lt_iff_toInt_lt, Int32.le_iff_toInt_le, Int32.reduceToInt, ← Int32.toInt_inj, true_and, and_true, or_true, true_or, false_or, or_false, false_and, and_false, not_true_eq_false, not_false_eq_true] <;> omega)) (by rw [fe_2874] <;> first | omega | (simp only [Int32.lt_iff_toInt_lt, Int32.le_iff_toInt_le, Int32.reduceToInt, ← Int32.toInt_inj, true_and, and_true, or_true, true_or, false_or, or_false, false_and, and_false, not_true_eq_false, not_false_eq_true] <;> omega)) (by rw [h_2875]; omega)
      · simp only [Int32.lt_iff_toInt_lt, Int32.le_iff_toInt_le, Int32.reduceToInt, ← Int32.toInt_inj] at h_2851
        refine v_aload_n hC dX12_advance_13 rfl ?_
        refine v_aload_n hC dX12_advance_14 rfl ?_
        refine v_get hC fl_X12_108 m_1 e_2820 rfl dX12_advance_15 ?_
        refine v_vi hC (rest := []) m_1 e_2820 rfl mi_X12_see ms_X12_see (p_X12_see hW_2811 k_0 (by first | omega | (simp only [Int32.lt_iff_toInt_lt, Int32.le_iff_toInt_le, Int32.reduceToInt, ← Int32.toInt_inj, true_and, and_true, or_true, true_or, false_or, or_false, false_and, and_false, not_true_eq_false, not_false_eq_true] <;> omega))) mx_X12_see ml_X12_114 (by decide) rfl (cells1 := 0) (slots1 := 0) (by decide) (by decide) (Nat.le_of_ble_eq_true rfl) (Nat.le_of_ble_eq_true rfl) rfl (Nat.le_of_ble_eq_true rfl) dX12_advance_18 (fun r_2876 L_2877 f_2878 h_2879 => ?_)
        obtain ⟨rfl, rfl, rfl⟩ := h_2879
        have sb_2882 := sv_b (f_2810 a_0) (f_2810 (q 4)) v_2826
        have fe_2883 : fld (f_2810 a_0) 7 = (v_2824 : Int32).toInt := by rw [e_2820]; rfl
        rw [fe_2883] at sb_2882
        refine v_bipush hC dX12_advance_21 (v := 10) (by decide) ?_
        refine v_icmp_ne hC dX12_advance_23 (tgt := 39) (by decide) (fun h_2884 => ?_) (fun h_2884 => ?_)
        · simp only [Int32.lt_iff_toInt_lt, Int32.le_iff_toInt_le, Int32.reduceToInt, ← Int32.toInt_inj] at h_2884
          refine v_aload_n hC dX12_advance_39 rfl ?_
          refine v_aload_n hC dX12_advance_40 rfl ?_
          refine v_get hC fl_X12_108 m_1 e_2820 rfl dX12_advance_41 ?_
          refine v_put hC fl_X12_117 m_1 e_2820 rfl rfl (Nat.le_of_ble_eq_true rfl) (fs' := [.int v_2821, .ref (q 1), .ref (q 2), .ref (q 3), .ref (q 4), .int v_2822, .ref (q 6), .int v_2824, .int v_2826, .int v_2826, .int v_2830, .int v_2832, .int v_2833, .int v_2834, .ref (q 14), .ref (q 15), .ref (q 16), .int v_2835, .ref (q 18), .ref (q 19), .int v_2837, .ref (q 21), .ref (q 22), .ref (q 23), .ref (q 24), .ref (q 25), .ref (q 26), .ref (q 27), .ref (q 28)]) rfl dX12_advance_44 (fun f_2897 hf_2898 hk_2899 => ?_)
          have hW_2900 := hW_2811.up hf_2898 hk_2899 t_2 ⟨v_2821, v_2822, v_2824, v_2826, v_2826, v_2830, v_2832, v_2833, v_2834, v_2835, v_2837, rfl, (by first | omega | (simp only [Int32.lt_iff_toInt_lt, Int32.le_iff_toInt_le, Int32.reduceToInt, ← Int32.toInt_inj, true_and, and_true, or_true, true_or, false_or, or_false, false_and, and_false, not_true_eq_false, not_false_eq_true] <;> omega)), (by first | omega | (simp only [Int32.lt_iff_toInt_lt, Int32.le_iff_toInt_le, Int32.reduceToInt, ← Int32.toInt_inj, true_and, and_true, or_true, true_or, false_or, or_false, false_and, and_false, not_true_eq_false, not_false_eq_true] <;> omega)), (by first | omega | (simp only [Int32.lt_iff_toInt_lt, Int32.le_iff_toInt_le, Int32.reduceToInt, ← Int32.toInt_inj, true_and, and_true, or_true, true_or, false_or, or_false, false_and, and_false, not_true_eq_false, not_false_eq_true] <;> omega)), (by first | omega | (simp only [Int32.lt_iff_toInt_lt, Int32.le_iff_toInt_le, Int32.reduceToInt, ← Int32.toInt_inj, true_and, and_true, or_true, true_or, false_or, or_false, false_and, and_false, not_true_eq_false, not_false_eq_true] <;> omega)), (by first | omega | (simp only [Int32.lt_iff_toInt_lt, Int32.le_iff_toInt_le, Int32.reduceToInt, ← Int32.toInt_inj, true_and, and_true, or_true, true_or, false_or, or_false, false_and, and_false, not_true_eq_false, not_false_eq_true] <;> omega)), (by first | omega | (simp only [Int32.lt_iff_toInt_lt, Int32.le_iff_toInt_le, Int32.reduceToInt, ← Int32.toInt_inj, true_and, and_true, or_true, true_or, false_or, or_false, false_and, and_false, not_true_eq_false, not_false_eq_true] <;> omega)), (by first | omega | (simp only [Int32.lt_iff_toInt_lt, Int32.le_iff_toInt_le, Int32.reduceToInt, ← Int32.toInt_inj, true_and, and_true, or_true, true_or, false_or, or_false, false_and, and_false, not_true_eq_false, not_false_eq_true] <;> omega))⟩
          have fr_2901 := FR.w hk_2899 e_2820 (k := 12) rfl
          refine v_aload_n hC dX12_advance_47 rfl ?_
          refine v_aload_n hC dX12_advance_48 rfl ?_
          refine v_get hC fl_X12_108 m_1 hf_2898 rfl dX12_advance_49 ?_
          refine v_vi hC (rest := []) m_1 hf_2898 rfl mi_X12_see ms_X12_see (p_X12_see hW_2900 k_0 (by first | omega | (simp only [Int32.lt_iff_toInt_lt, Int32.le_iff_toInt_le, Int32.reduceToInt, ← Int32.toInt_inj, true_and, and_true, or_true, true_or, false_or, or_false, false_and, and_false, not_true_eq_false, not_false_eq_true] <;> omega))) mx_X12_see ml_X12_114 (by decide) rfl (cells1 := 0) (slots1 := 0) (by decide) (by decide) (Nat.le_of_ble_eq_true rfl) (Nat.le_of_ble_eq_true rfl) rfl (Nat.le_of_ble_eq_true rfl) dX12_advance_52 (fun r_2902 L_2903 f_2904 h_2905 => ?_)
          obtain ⟨rfl, rfl, rfl⟩ := h_2905
          have sb_2908 := sv_b (f_2897 a_0) (f_2897 (q 4)) v_2826
          have fe_2909 : fld (f_2897 a_0) 7 = (v_2824 : Int32).toInt := by rw [hf_2898]; rfl
          rw [fe_2909] at sb_2908
          obtain ⟨m_2910, t_2911⟩ := id k_6
          obtain ⟨g_2913, e_2912, fit_2914⟩ := hW_2900.at m_2910 t_2911
          have fe_2915 : fld (f_2897 a_0) 7 = (v_2824 : Int32).toInt := by rw [hf_2898]; rfl
          refine v_istore_n hC dX12_advance_55 (by decide) (lv' := [(1, .int (sv (f_2897 a_0) (f_2897 (q 4)) v_2826)), (0, .ref a_0)]) rfl ?_
          refine v_iload_n hC dX12_advance_56 rfl ?_
          refine v_iconst hC dX12_advance_57 (v := (-1)) (by decide) ?_
          refine v_icmp_ne hC dX12_advance_58 (tgt := 69) (by decide) (fun h_2916 => ?_) (fun h_2916 => ?_)
          · simp only [Int32.lt_iff_toInt_lt, Int32.le_iff_toInt_le, Int32.reduceToInt, ← Int32.toInt_inj] at h_2916
            refine v_iload_n hC dX12_advance_69 rfl ?_
            obtain ⟨v_2917, h_2918⟩ : ∃ v9 : Int64, (sv (f_2897 a_0) (f_2897 (q 4)) v_2826).toInt64 = v9 := ⟨_, rfl⟩
            refine v_i2l hC dX12_advance_70 h_2918 ?_
            have h_2919 : v_2917.toInt = (sv (f_2897 a_0) (f_2897 (q 4)) v_2826).toInt := by rw [← h_2918]; exact Int32.toInt_toInt64 _
            refine v_ldc2 hC kl_X12_123 dX12_advance_71 ?_
            refine v_ldc2 hC kl_X12_125 dX12_advance_74 ?_
            refine v_si hC (rest := []) mt_X12_in (p_X12_in hW_2900) mx_X12_in ml_X12_79 (by decide) rfl (cells1 := 0) (slots1 := 0) (by decide) (by decide) (Nat.le_of_ble_eq_true rfl) (Nat.le_of_ble_eq_true rfl) rfl (Nat.le_of_ble_eq_true rfl) dX12_advance_77 (fun r_2920 L_2921 f_2922 h_2923 => ?_)
            obtain ⟨rfl, rfl, b_2924, x_2925⟩ := h_2923
            try simp only [Int32.reduceToInt, Int64.reduceToInt] at x_2925
            refine v_if_eq hC dX12_advance_80 (tgt := 125) (by decide) (fun h_2928 => ?_) (fun h_2928 => ?_)
            · simp only [Int32.lt_iff_toInt_lt, Int32.le_iff_toInt_le, Int32.reduceToInt, ← Int32.toInt_inj] at h_2928
              refine v_iload_n hC dX12_advance_125 rfl ?_
              obtain ⟨v_2929, h_2930⟩ : ∃ v9 : Int64, (sv (f_2897 a_0) (f_2897 (q 4)) v_2826).toInt64 = v9 := ⟨_, rfl⟩
              refine v_i2l hC dX12_advance_126 h_2930 ?_
              have h_2931 : v_2929.toInt = (sv (f_2897 a_0) (f_2897 (q 4)) v_2826).toInt := by rw [← h_2930]; exact Int32.toInt_toInt64 _
              refine v_ldc2 hC kl_X12_127 dX12_advance_127 ?_
              refine v_ldc2 hC kl_X12_129 dX12_advance_130 ?_
              refine v_si hC (rest := []) mt_X12_in (p_X12_in hW_2900) mx_X12_in ml_X12_79 (by decide) rfl (cells1 := 0) (slots1 := 0) (by decide) (by decide) (Nat.le_of_ble_eq_true rfl) (Nat.le_of_ble_eq_true rfl) rfl (Nat.le_of_ble_eq_true rfl) dX12_advance_133 (fun r_2932 L_2933 f_2934 h_2935 => ?_)
              obtain ⟨rfl, rfl, b_2936, x_2937⟩ := h_2935
              try simp only [Int32.reduceToInt, Int64.reduceToInt] at x_2937
              refine v_if_eq hC dX12_advance_136 (tgt := 215) (by decide) (fun h_2940 => ?_) (fun h_2940 => ?_)
              · simp only [Int32.lt_iff_toInt_lt, Int32.le_iff_toInt_le, Int32.reduceToInt, ← Int32.toInt_inj] at h_2940
                refine v_aload_n hC dX12_advance_215 rfl ?_
                refine v_iload_n hC dX12_advance_216 rfl ?_
                refine v_bipush hC dX12_advance_217 (v := 59) (by decide) ?_
                refine v_icmp_ne hC dX12_advance_219 (tgt := 226) (by decide) (fun h_2941 => ?_) (fun h_2941 => ?_)
                · simp only [Int32.lt_iff_toInt_lt, Int32.le_iff_toInt_le, Int32.reduceToInt, ← Int32.toInt_inj] at h_2941
                  refine v_iconst hC dX12_advance_226 (v := 4) (by decide) ?_
                  refine v_put hC fl_X12_120 m_1 hf_2898 rfl rfl (Nat.le_of_ble_eq_true rfl) (fs' := [.int v_2821, .ref (q 1), .ref (q 2), .ref (q 3), .ref (q 4), .int v_2822, .ref (q 6), .int v_2824, .int v_2826, .int v_2826, .int 4, .int v_2832, .int v_2833, .int v_2834, .ref (q 14), .ref (q 15), .ref (q 16), .int v_2835, .ref (q 18), .ref (q 19), .int v_2837, .ref (q 21), .ref (q 22), .ref (q 23), .ref (q 24), .ref (q 25), .ref (q 26), .ref (q 27), .ref (q 28)]) rfl dX12_advance_227 (fun f_2942 hf_2943 hk_2944 => ?_)
                  have hW_2945 := hW_2900.up hf_2943 hk_2944 t_2 ⟨v_2821, v_2822, v_2824, v_2826, v_2826, 4, v_2832, v_2833, v_2834, v_2835, v_2837, rfl, (by first | omega | (simp only [Int32.lt_iff_toInt_lt, Int32.le_iff_toInt_le, Int32.reduceToInt, ← Int32.toInt_inj, true_and, and_true, or_true, true_or, false_or, or_false, false_and, and_false, not_true_eq_false, not_false_eq_true] <;> omega)), (by first | omega | (simp only [Int32.lt_iff_toInt_lt, Int32.le_iff_toInt_le, Int32.reduceToInt, ← Int32.toInt_inj, true_and, and_true, or_true, true_or, false_or, or_false, false_and, and_false, not_true_eq_false, not_false_eq_true] <;> omega)), (by first | omega | (simp only [Int32.lt_iff_toInt_lt, Int32.le_iff_toInt_le, Int32.reduceToInt, ← Int32.toInt_inj, true_and, and_true, or_true, true_or, false_or, or_false, false_and, and_false, not_true_eq_false, not_false_eq_true] <;> omega)), (by first | omega | (simp only [Int32.lt_iff_toInt_lt, Int32.le_iff_toInt_le, Int32.reduceToInt, ← Int32.toInt_inj, true_and, and_true, or_true, true_or, false_or, or_false, false_and, and_false, not_true_eq_false, not_false_eq_true] <;> omega)), (by decide), (by first | omega | (simp only [Int32.lt_iff_toInt_lt, Int32.le_iff_toInt_le, Int32.reduceToInt, ← Int32.toInt_inj, true_and, and_true, or_true, true_or, false_or, or_false, false_and, and_false, not_true_eq_false, not_false_eq_true] <;> omega)), (by first | omega | (simp only [Int32.lt_iff_toInt_lt, Int32.le_iff_toInt_le, Int32.reduceToInt, ← Int32.toInt_inj, true_and, and_true, or_true, true_or, false_or, or_false, false_and, and_false, not_true_eq_false, not_false_eq_true] <;> omega))⟩
                  have hf_2946 := (hk_2944 (q 4) (ne_kd e_2912 hf_2898 rfl)).trans e_2912
                  have fr_2947 := FR.w hk_2944 hf_2898 (k := 12) rfl
                  refine v_aload_n hC dX12_advance_230 rfl ?_
                  refine v_dup hC dX12_advance_231 rfl ?_
                  refine v_get hC fl_X12_108 m_1 hf_2943 rfl dX12_advance_232 ?_
                  refine v_iconst hC dX12_advance_235 (v := 1) (by decide) ?_
                  obtain ⟨v_2948, h_2949⟩ : ∃ v9 : Int32, v_2826 + 1 = v9 := ⟨_, rfl⟩
                  refine v_iadd hC dX12_advance_236 h_2949 ?_
                  have h_2950 := add_v h_2949 (by first | omega | (simp only [Int32.lt_iff_toInt_lt, Int32.le_iff_toInt_le, Int32.reduceToInt, ← Int32.toInt_inj, true_and, and_true, or_true, true_or, false_or, or_false, false_and, and_false, not_true_eq_false, not_false_eq_true] <;> omega)) (by first | omega | (simp only [Int32.lt_iff_toInt_lt, Int32.le_iff_toInt_le, Int32.reduceToInt, ← Int32.toInt_inj, true_and, and_true, or_true, true_or, false_or, or_false, false_and, and_false, not_true_eq_false, not_false_eq_true] <;> omega))
                  try simp only [Int32.reduceToInt] at h_2950
                  refine v_put hC fl_X12_108 m_1 hf_2943 rfl rfl (Nat.le_of_ble_eq_true rfl) (fs' := [.int v_2821, .ref (q 1), .ref (q 2), .ref (q 3), .ref (q 4), .int v_2822, .ref (q 6), .int v_2824, .int v_2948, .int v_2826, .int 4, .int v_2832, .int v_2833, .int v_2834, .ref (q 14), .ref (q 15), .ref (q 16), .int v_2835, .ref (q 18), .ref (q 19), .int v_2837, .ref (q 21), .ref (q 22), .ref (q 23), .ref (q 24), .ref (q 25), .ref (q 26), .ref (q 27), .ref (q 28)]) rfl dX12_advance_237 (fun f_2951 hf_2952 hk_2953 => ?_)
                  have hW_2954 := hW_2945.up hf_2952 hk_2953 t_2 ⟨v_2821, v_2822, v_2824, v_2948, v_2826, 4, v_2832, v_2833, v_2834, v_2835, v_2837, rfl, (by first | omega | (simp only [Int32.lt_iff_toInt_lt, Int32.le_iff_toInt_le, Int32.reduceToInt, ← Int32.toInt_inj, true_and, and_true, or_true, true_or, false_or, or_false, false_and, and_false, not_true_eq_false, not_false_eq_true] <;> omega)), (by first | omega | (simp only [Int32.lt_iff_toInt_lt, Int32.le_iff_toInt_le, Int32.reduceToInt, ← Int32.toInt_inj, true_and, and_true, or_true, true_or, false_or, or_false, false_and, and_false, not_true_eq_false, not_false_eq_true] <;> omega)), (by first | omega | (simp only [Int32.lt_iff_toInt_lt, Int32.le_iff_toInt_le, Int32.reduceToInt, ← Int32.toInt_inj, true_and, and_true, or_true, true_or, false_or, or_false, false_and, and_false, not_true_eq_false, not_false_eq_true] <;> omega)), (by first | omega | (simp only [Int32.lt_iff_toInt_lt, Int32.le_iff_toInt_le, Int32.reduceToInt, ← Int32.toInt_inj, true_and, and_true, or_true, true_or, false_or, or_false, false_and, and_false, not_true_eq_false, not_false_eq_true] <;> omega)), (by decide), (by first | omega | (simp only [Int32.lt_iff_toInt_lt, Int32.le_iff_toInt_le, Int32.reduceToInt, ← Int32.toInt_inj, true_and, and_true, or_true, true_or, false_or, or_false, false_and, and_false, not_true_eq_false, not_false_eq_true] <;> omega)), (by first | omega | (simp only [Int32.lt_iff_toInt_lt, Int32.le_iff_toInt_le, Int32.reduceToInt, ← Int32.toInt_inj, true_and, and_true, or_true, true_or, false_or, or_false, false_and, and_false, not_true_eq_false, not_false_eq_true] <;> omega))⟩
                  have hf_2955 := (hk_2953 (q 4) (ne_kd hf_2946 hf_2943 rfl)).trans hf_2946
                  have fr_2956 := FR.w hk_2953 hf_2943 (k := 12) rfl
                  have fe_2957 : fld (f_2951 a_0) 8 = (v_2948 : Int32).toInt := by rw [hf_2952]; rfl
                  have fe_2958 : fld (f_2951 a_0) 9 = (v_2826 : Int32).toInt := by rw [hf_2952]; rfl
                  have fe_2959 : fld (f_2951 a_0) 8 = (v_2948 : Int32).toInt := by rw [hf_2952]; rfl
                  have fe_2960 : fld (f_2951 a_0) 9 = (v_2826 : Int32).toInt := by rw [hf_2952]; rfl
                  have fe_2961 : fld (f_2951 a_0) 10 = (4 : Int32).toInt := by rw [hf_2952]; rfl
                  simp only [Int32.reduceToInt] at fe_2961
                  have fe_2962 : fld (f_2951 a_0) 12 = (v_2833 : Int32).toInt := by rw [hf_2952]; rfl
                  have fe_2963 : fld (f_2951 a_0) 20 = (v_2837 : Int32).toInt := by rw [hf_2952]; rfl
                  exact hR _ _ _ _ _ _ dX12_advance_240 (Nat.le_of_ble_eq_true rfl) (Nat.le_of_ble_eq_true rfl) ⟨rfl, hW_2954, ((((hF_2812.tr fr_2901).tr fr_2947).tr fr_2956).mono rfl), (by simp only [fe_2957, fe_2958, mz_41, true_and, and_true, or_true, true_or, false_or, or_false, false_and, and_false, not_true_eq_false, not_false_eq_true] <;> first | omega | (simp only [Int32.lt_iff_toInt_lt, Int32.le_iff_toInt_le, Int32.reduceToInt, ← Int32.toInt_inj, true_and, and_true, or_true, true_or, false_or, or_false, false_and, and_false, not_true_eq_false, not_false_eq_true] <;> omega)), (by simp only [fe_2959, fe_2960, fe_2961, true_and, and_true, or_true, true_or, false_or, or_false, false_and, and_false, not_true_eq_false, not_false_eq_true] <;> first | omega | (simp only [Int32.lt_iff_toInt_lt, Int32.le_iff_toInt_le, Int32.reduceToInt, ← Int32.toInt_inj, true_and, and_true, or_true, true_or, false_or, or_false, false_and, and_false, not_true_eq_false, not_false_eq_true] <;> omega)), (by simp only [fe_2962, mz_42, true_and, and_true, or_true, true_or, false_or, or_false, false_and, and_false, not_true_eq_false, not_false_eq_true] <;> first | omega | (simp only [Int32.lt_iff_toInt_lt, Int32.le_iff_toInt_le, Int32.reduceToInt, ← Int32.toInt_inj, true_and, and_true, or_true, true_or, false_or, or_false, false_and, and_false, not_true_eq_false, not_false_eq_true] <;> omega)), (by simp only [fe_2963, mz_43, true_and, and_true, or_true, true_or, false_or, or_false, false_and, and_false, not_true_eq_false, not_false_eq_true] <;> first | omega | (simp only [Int32.lt_iff_toInt_lt, Int32.le_iff_toInt_le, Int32.reduceToInt, ← Int32.toInt_inj, true_and, and_true, or_true, true_or, false_or, or_false, false_and, and_false, not_true_eq_false, not_false_eq_true] <;> omega))⟩
                · simp only [Int32.lt_iff_toInt_lt, Int32.le_iff_toInt_le, Int32.reduceToInt, ← Int32.toInt_inj] at h_2941
                  refine v_iconst hC dX12_advance_222 (v := 3) (by decide) ?_
                  refine v_goto hC dX12_advance_223 (tgt := 227) (by decide) ?_
                  refine v_put hC fl_X12_120 m_1 hf_2898 rfl rfl (Nat.le_of_ble_eq_true rfl) (fs' := [.int v_2821, .ref (q 1), .ref (q 2), .ref (q 3), .ref (q 4), .int v_2822, .ref (q 6), .int v_2824, .int v_2826, .int v_2826, .int 3, .int v_2832, .int v_2833, .int v_2834, .ref (q 14), .ref (q 15), .ref (q 16), .int v_2835, .ref (q 18), .ref (q 19), .int v_2837, .ref (q 21), .ref (q 22), .ref (q 23), .ref (q 24), .ref (q 25), .ref (q 26), .ref (q 27), .ref (q 28)]) rfl dX12_advance_227 (fun f_2964 hf_2965 hk_2966 => ?_)
                  have hW_2967 := hW_2900.up hf_2965 hk_2966 t_2 ⟨v_2821, v_2822, v_2824, v_2826, v_2826, 3, v_2832, v_2833, v_2834, v_2835, v_2837, rfl, (by first | omega | (simp only [Int32.lt_iff_toInt_lt, Int32.le_iff_toInt_le, Int32.reduceToInt, ← Int32.toInt_inj, true_and, and_true, or_true, true_or, false_or, or_false, false_and, and_false, not_true_eq_false, not_false_eq_true] <;> omega)), (by first | omega | (simp only [Int32.lt_iff_toInt_lt, Int32.le_iff_toInt_le, Int32.reduceToInt, ← Int32.toInt_inj, true_and, and_true, or_true, true_or, false_or, or_false, false_and, and_false, not_true_eq_false, not_false_eq_true] <;> omega)), (by first | omega | (simp only [Int32.lt_iff_toInt_lt, Int32.le_iff_toInt_le, Int32.reduceToInt, ← Int32.toInt_inj, true_and, and_true, or_true, true_or, false_or, or_false, false_and, and_false, not_true_eq_false, not_false_eq_true] <;> omega)), (by first | omega | (simp only [Int32.lt_iff_toInt_lt, Int32.le_iff_toInt_le, Int32.reduceToInt, ← Int32.toInt_inj, true_and, and_true, or_true, true_or, false_or, or_false, false_and, and_false, not_true_eq_false, not_false_eq_true] <;> omega)), (by decide), (by first | omega | (simp only [Int32.lt_iff_toInt_lt, Int32.le_iff_toInt_le, Int32.reduceToInt, ← Int32.toInt_inj, true_and, and_true, or_true, true_or, false_or, or_false, false_and, and_false, not_true_eq_false, not_false_eq_true] <;> omega)), (by first | omega | (simp only [Int32.lt_iff_toInt_lt, Int32.le_iff_toInt_le, Int32.reduceToInt, ← Int32.toInt_inj, true_and, and_true, or_true, true_or, false_or, or_false, false_and, and_false, not_true_eq_false, not_false_eq_true] <;> omega))⟩
                  have hf_2968 := (hk_2966 (q 4) (ne_kd e_2912 hf_2898 rfl)).trans e_2912
                  have fr_2969 := FR.w hk_2966 hf_2898 (k := 12) rfl
                  refine v_aload_n hC dX12_advance_230 rfl ?_
                  refine v_dup hC dX12_advance_231 rfl ?_
                  refine v_get hC fl_X12_108 m_1 hf_2965 rfl dX12_advance_232 ?_
                  refine v_iconst hC dX12_advance_235 (v := 1) (by decide) ?_
                  obtain ⟨v_2970, h_2971⟩ : ∃ v9 : Int32, v_2826 + 1 = v9 := ⟨_, rfl⟩
                  refine v_iadd hC dX12_advance_236 h_2971 ?_
                  have h_2972 := add_v h_2971 (by first | omega | (simp only [Int32.lt_iff_toInt_lt, Int32.le_iff_toInt_le, Int32.reduceToInt, ← Int32.toInt_inj, true_and, and_true, or_true, true_or, false_or, or_false, false_and, and_false, not_true_eq_false, not_false_eq_true] <;> omega)) (by first | omega | (simp only [Int32.lt_iff_toInt_lt, Int32.le_iff_toInt_le, Int32.reduceToInt, ← Int32.toInt_inj, true_and, and_true, or_true, true_or, false_or, or_false, false_and, and_false, not_true_eq_false, not_false_eq_true] <;> omega))
                  try simp only [Int32.reduceToInt] at h_2972
                  refine v_put hC fl_X12_108 m_1 hf_2965 rfl rfl (Nat.le_of_ble_eq_true rfl) (fs' := [.int v_2821, .ref (q 1), .ref (q 2), .ref (q 3), .ref (q 4), .int v_2822, .ref (q 6), .int v_2824, .int v_2970, .int v_2826, .int 3, .int v_2832, .int v_2833, .int v_2834, .ref (q 14), .ref (q 15), .ref (q 16), .int v_2835, .ref (q 18), .ref (q 19), .int v_2837, .ref (q 21), .ref (q 22), .ref (q 23), .ref (q 24), .ref (q 25), .ref (q 26), .ref (q 27), .ref (q 28)]) rfl dX12_advance_237 (fun f_2973 hf_2974 hk_2975 => ?_)
                  have hW_2976 := hW_2967.up hf_2974 hk_2975 t_2 ⟨v_2821, v_2822, v_2824, v_2970, v_2826, 3, v_2832, v_2833, v_2834, v_2835, v_2837, rfl, (by first | omega | (simp only [Int32.lt_iff_toInt_lt, Int32.le_iff_toInt_le, Int32.reduceToInt, ← Int32.toInt_inj, true_and, and_true, or_true, true_or, false_or, or_false, false_and, and_false, not_true_eq_false, not_false_eq_true] <;> omega)), (by first | omega | (simp only [Int32.lt_iff_toInt_lt, Int32.le_iff_toInt_le, Int32.reduceToInt, ← Int32.toInt_inj, true_and, and_true, or_true, true_or, false_or, or_false, false_and, and_false, not_true_eq_false, not_false_eq_true] <;> omega)), (by first | omega | (simp only [Int32.lt_iff_toInt_lt, Int32.le_iff_toInt_le, Int32.reduceToInt, ← Int32.toInt_inj, true_and, and_true, or_true, true_or, false_or, or_false, false_and, and_false, not_true_eq_false, not_false_eq_true] <;> omega)), (by first | omega | (simp only [Int32.lt_iff_toInt_lt, Int32.le_iff_toInt_le, Int32.reduceToInt, ← Int32.toInt_inj, true_and, and_true, or_true, true_or, false_or, or_false, false_and, and_false, not_true_eq_false, not_false_eq_true] <;> omega)), (by decide), (by first | omega | (simp only [Int32.lt_iff_toInt_lt, Int32.le_iff_toInt_le, Int32.reduceToInt, ← Int32.toInt_inj, true_and, and_true, or_true, true_or, false_or, or_false, false_and, and_false, not_true_eq_false, not_false_eq_true] <;> omega)), (by first | omega | (simp only [Int32.lt_iff_toInt_lt, Int32.le_iff_toInt_le, Int32.reduceToInt, ← Int32.toInt_inj, true_and, and_true, or_true, true_or, false_or, or_false, false_and, and_false, not_true_eq_false, not_false_eq_true] <;> omega))⟩
                  have hf_2977 := (hk_2975 (q 4) (ne_kd hf_2968 hf_2965 rfl)).trans hf_2968
                  have fr_2978 := FR.w hk_2975 hf_2965 (k := 12) rfl
                  have fe_2979 : fld (f_2973 a_0) 8 = (v_2970 : Int32).toInt := by rw [hf_2974]; rfl
                  have fe_2980 : fld (f_2973 a_0) 9 = (v_2826 : Int32).toInt := by rw [hf_2974]; rfl
                  have fe_2981 : fld (f_2973 a_0) 8 = (v_2970 : Int32).toInt := by rw [hf_2974]; rfl
                  have fe_2982 : fld (f_2973 a_0) 9 = (v_2826 : Int32).toInt := by rw [hf_2974]; rfl
                  have fe_2983 : fld (f_2973 a_0) 10 = (3 : Int32).toInt := by rw [hf_2974]; rfl
                  simp only [Int32.reduceToInt] at fe_2983
                  have fe_2984 : fld (f_2973 a_0) 12 = (v_2833 : Int32).toInt := by rw [hf_2974]; rfl
                  have fe_2985 : fld (f_2973 a_0) 20 = (v_2837 : Int32).toInt := by rw [hf_2974]; rfl
                  exact hR _ _ _ _ _ _ dX12_advance_240 (Nat.le_of_ble_eq_true rfl) (Nat.le_of_ble_eq_true rfl) ⟨rfl, hW_2976, ((((hF_2812.tr fr_2901).tr fr_2969).tr fr_2978).mono rfl), (by simp only [fe_2979, fe_2980, mz_41, true_and, and_true, or_true, true_or, false_or, or_false, false_and, and_false, not_true_eq_false, not_false_eq_true] <;> first | omega | (simp only [Int32.lt_iff_toInt_lt, Int32.le_iff_toInt_le, Int32.reduceToInt, ← Int32.toInt_inj, true_and, and_true, or_true, true_or, false_or, or_false, false_and, and_false, not_true_eq_false, not_false_eq_true] <;> omega)), (by simp only [fe_2981, fe_2982, fe_2983, true_and, and_true, or_true, true_or, false_or, or_false, false_and, and_false, not_true_eq_false, not_false_eq_true] <;> first | omega | (simp only [Int32.lt_iff_toInt_lt, Int32.le_iff_toInt_le, Int32.reduceToInt, ← Int32.toInt_inj, true_and, and_true, or_true, true_or, false_or, or_false, false_and, and_false, not_true_eq_false, not_false_eq_true] <;> omega)), (by simp only [fe_2984, mz_42, true_and, and_true, or_true, true_or, false_or, or_false, false_and, and_false, not_true_eq_false, not_false_eq_true] <;> first | omega | (simp only [Int32.lt_iff_toInt_lt, Int32.le_iff_toInt_le, Int32.reduceToInt, ← Int32.toInt_inj, true_and, and_true, or_true, true_or, false_or, or_false, false_and, and_false, not_true_eq_false, not_false_eq_true] <;> omega)), (by simp only [fe_2985, mz_43, true_and, and_true, or_true, true_or, false_or, or_false, false_and, and_false, not_true_eq_false, not_false_eq_true] <;> first | omega | (simp only [Int32.lt_iff_toInt_lt, Int32.le_iff_toInt_le, Int32.reduceToInt, ← Int32.toInt_inj, true_and, and_true, or_true, true_or, false_or, or_false, false_and, and_false, not_true_eq_false, not_false_eq_true] <;> omega))⟩
              · simp only [Int32.lt_iff_toInt_lt, Int32.le_iff_toInt_le, Int32.reduceToInt, ← Int32.toInt_inj] at h_2940
                refine v_aload_n hC dX12_advance_139 rfl ?_
                refine v_iconst hC dX12_advance_140 (v := 0) (by decide) ?_
                refine v_put hC fl_X12_131 m_1 hf_2898 rfl rfl (Nat.le_of_ble_eq_true rfl) (fs' := [.int v_2821, .ref (q 1), .ref (q 2), .ref (q 3), .ref (q 4), .int v_2822, .ref (q 6), .int v_2824, .int v_2826, .int v_2826, .int v_2830, .int 0, .int v_2833, .int v_2834, .ref (q 14), .ref (q 15), .ref (q 16), .int v_2835, .ref (q 18), .ref (q 19), .int v_2837, .ref (q 21), .ref (q 22), .ref (q 23), .ref (q 24), .ref (q 25), .ref (q 26), .ref (q 27), .ref (q 28)]) rfl dX12_advance_141 (fun f_2986 hf_2987 hk_2988 => ?_)
                have hW_2989 := hW_2900.up hf_2987 hk_2988 t_2 ⟨v_2821, v_2822, v_2824, v_2826, v_2826, v_2830, 0, v_2833, v_2834, v_2835, v_2837, rfl, (by first | omega | (simp only [Int32.lt_iff_toInt_lt, Int32.le_iff_toInt_le, Int32.reduceToInt, ← Int32.toInt_inj, true_and, and_true, or_true, true_or, false_or, or_false, false_and, and_false, not_true_eq_false, not_false_eq_true] <;> omega)), (by first | omega | (simp only [Int32.lt_iff_toInt_lt, Int32.le_iff_toInt_le, Int32.reduceToInt, ← Int32.toInt_inj, true_and, and_true, or_true, true_or, false_or, or_false, false_and, and_false, not_true_eq_false, not_false_eq_true] <;> omega)), (by first | omega | (simp only [Int32.lt_iff_toInt_lt, Int32.le_iff_toInt_le, Int32.reduceToInt, ← Int32.toInt_inj, true_and, and_true, or_true, true_or, false_or, or_false, false_and, and_false, not_true_eq_false, not_false_eq_true] <;> omega)), (by first | omega | (simp only [Int32.lt_iff_toInt_lt, Int32.le_iff_toInt_le, Int32.reduceToInt, ← Int32.toInt_inj, true_and, and_true, or_true, true_or, false_or, or_false, false_and, and_false, not_true_eq_false, not_false_eq_true] <;> omega)), (by first | omega | (simp only [Int32.lt_iff_toInt_lt, Int32.le_iff_toInt_le, Int32.reduceToInt, ← Int32.toInt_inj, true_and, and_true, or_true, true_or, false_or, or_false, false_and, and_false, not_true_eq_false, not_false_eq_true] <;> omega)), (by first | omega | (simp only [Int32.lt_iff_toInt_lt, Int32.le_iff_toInt_le, Int32.reduceToInt, ← Int32.toInt_inj, true_and, and_true, or_true, true_or, false_or, or_false, false_and, and_false, not_true_eq_false, not_false_eq_true] <;> omega)), (by first | omega | (simp only [Int32.lt_iff_toInt_lt, Int32.le_iff_toInt_le, Int32.reduceToInt, ← Int32.toInt_inj, true_and, and_true, or_true, true_or, false_or, or_false, false_and, and_false, not_true_eq_false, not_false_eq_true] <;> omega))⟩
                have hf_2990 := (hk_2988 (q 4) (ne_kd e_2912 hf_2898 rfl)).trans e_2912
                have fr_2991 := FR.w hk_2988 hf_2898 (k := 12) rfl
                refine v_aload_n hC dX12_advance_144 rfl ?_
                refine v_aload_n hC dX12_advance_145 rfl ?_
                refine v_get hC fl_X12_108 m_1 hf_2987 rfl dX12_advance_146 ?_
                refine v_vi hC (rest := []) m_1 hf_2987 rfl mi_X12_see ms_X12_see (p_X12_see hW_2989 k_0 (by first | omega | (simp only [Int32.lt_iff_toInt_lt, Int32.le_iff_toInt_le, Int32.reduceToInt, ← Int32.toInt_inj, true_and, and_true, or_true, true_or, false_or, or_false, false_and, and_false, not_true_eq_false, not_false_eq_true] <;> omega))) mx_X12_see ml_X12_114 (by decide) rfl (cells1 := 0) (slots1 := 0) (by decide) (by decide) (Nat.le_of_ble_eq_true rfl) (Nat.le_of_ble_eq_true rfl) rfl (Nat.le_of_ble_eq_true rfl) dX12_advance_149 (fun r_2992 L_2993 f_2994 h_2995 => ?_)
                obtain ⟨rfl, rfl, rfl⟩ := h_2995
                have sb_2998 := sv_b (f_2986 a_0) (f_2986 (q 4)) v_2826
                have fe_2999 : fld (f_2986 a_0) 7 = (v_2824 : Int32).toInt := by rw [hf_2987]; rfl
                rw [fe_2999] at sb_2998
                have fe_3000 : fld (f_2986 a_0) 7 = (v_2824 : Int32).toInt := by rw [hf_2987]; rfl
                have sc_3001 : ((sv (f_2986 a_0) (f_2986 (q 4)) v_2826)).toInt = ((sv (f_2897 a_0) (f_2897 (q 4)) v_2826)).toInt := congrArg Int32.toInt (sv_congr (fe_3000.trans fe_2915.symm) (hf_2990.trans e_2912.symm))
                obtain ⟨v_3002, h_3003⟩ : ∃ v9 : Int64, (sv (f_2986 a_0) (f_2986 (q 4)) v_2826).toInt64 = v9 := ⟨_, rfl⟩
                refine v_i2l hC dX12_advance_152 h_3003 ?_
                have h_3004 : v_3002.toInt = (sv (f_2986 a_0) (f_2986 (q 4)) v_2826).toInt := by rw [← h_3003]; exact Int32.toInt_toInt64 _
                refine v_ldc2 hC kl_X12_127 dX12_advance_153 ?_
                refine v_ldc2 hC kl_X12_129 dX12_advance_156 ?_
                refine v_si hC (rest := []) mt_X12_in (p_X12_in hW_2989) mx_X12_in ml_X12_79 (by decide) rfl (cells1 := 0) (slots1 := 0) (by decide) (by decide) (Nat.le_of_ble_eq_true rfl) (Nat.le_of_ble_eq_true rfl) rfl (Nat.le_of_ble_eq_true rfl) dX12_advance_159 (fun r_3005 L_3006 f_3007 h_3008 => ?_)
                obtain ⟨rfl, rfl, b_3009, x_3010⟩ := h_3008
                try simp only [Int32.reduceToInt, Int64.reduceToInt] at x_3010
                refine v_if_eq_f hC dX12_advance_162 (tgt := 207) (by decide) (by first | omega | (simp only [Int32.lt_iff_toInt_lt, Int32.le_iff_toInt_le, Int32.reduceToInt, ← Int32.toInt_inj, true_and, and_true, or_true, true_or, false_or, or_false, false_and, and_false, not_true_eq_false, not_false_eq_true] <;> omega)) ?_
                refine v_aload_n hC dX12_advance_165 rfl ?_
                refine v_sipush hC dX12_advance_166 (v := 9999) (by decide) ?_
                refine v_bipush hC dX12_advance_169 (v := 10) (by decide) ?_
                refine v_aload_n hC dX12_advance_171 rfl ?_
                refine v_get hC fl_X12_131 m_1 hf_2987 rfl dX12_advance_172 ?_
                refine v_imul hC dX12_advance_175 (v := 0) (by decide) ?_
                refine v_aload_n hC dX12_advance_176 rfl ?_
                refine v_aload_n hC dX12_advance_177 rfl ?_
                refine v_get hC fl_X12_108 m_1 hf_2987 rfl dX12_advance_178 ?_
                refine v_vi hC (rest := [.int 0, .int 9999, .ref a_0]) m_1 hf_2987 rfl mi_X12_see ms_X12_see (p_X12_see hW_2989 k_0 (by first | omega | (simp only [Int32.lt_iff_toInt_lt, Int32.le_iff_toInt_le, Int32.reduceToInt, ← Int32.toInt_inj, true_and, and_true, or_true, true_or, false_or, or_false, false_and, and_false, not_true_eq_false, not_false_eq_true] <;> omega))) mx_X12_see ml_X12_114 (by decide) rfl (cells1 := 0) (slots1 := 0) (by decide) (by decide) (Nat.le_of_ble_eq_true rfl) (Nat.le_of_ble_eq_true rfl) rfl (Nat.le_of_ble_eq_true rfl) dX12_advance_181 (fun r_3013 L_3014 f_3015 h_3016 => ?_)
                obtain ⟨rfl, rfl, rfl⟩ := h_3016
                have sb_3019 := sv_b (f_2986 a_0) (f_2986 (q 4)) v_2826
                have fe_3020 : fld (f_2986 a_0) 7 = (v_2824 : Int32).toInt := by rw [hf_2987]; rfl
                rw [fe_3020] at sb_3019
                obtain ⟨v_3021, h_3022⟩ : ∃ v9 : Int32, (0 : Int32) + (sv (f_2986 a_0) (f_2986 (q 4)) v_2826) = v9 := ⟨_, rfl⟩
                refine v_iadd hC dX12_advance_184 h_3022 ?_
                have h_3023 := add_v h_3022 (by first | omega | (simp only [Int32.lt_iff_toInt_lt, Int32.le_iff_toInt_le, Int32.reduceToInt, ← Int32.toInt_inj, true_and, and_true, or_true, true_or, false_or, or_false, false_and, and_false, not_true_eq_false, not_false_eq_true] <;> omega)) (by first | omega | (simp only [Int32.lt_iff_toInt_lt, Int32.le_iff_toInt_le, Int32.reduceToInt, ← Int32.toInt_inj, true_and, and_true, or_true, true_or, false_or, or_false, false_and, and_false, not_true_eq_false, not_false_eq_true] <;> omega))
                try simp only [Int32.reduceToInt] at h_3023
                refine v_bipush hC dX12_advance_185 (v := 48) (by decide) ?_
                obtain ⟨v_3024, h_3025⟩ : ∃ v9 : Int32, v_3021 - 48 = v9 := ⟨_, rfl⟩
                refine v_isub hC dX12_advance_187 h_3025 ?_
                have h_3026 := sub_v h_3025 (by first | omega | (simp only [Int32.lt_iff_toInt_lt, Int32.le_iff_toInt_le, Int32.reduceToInt, ← Int32.toInt_inj, true_and, and_true, or_true, true_or, false_or, or_false, false_and, and_false, not_true_eq_false, not_false_eq_true] <;> omega)) (by first | omega | (simp only [Int32.lt_iff_toInt_lt, Int32.le_iff_toInt_le, Int32.reduceToInt, ← Int32.toInt_inj, true_and, and_true, or_true, true_or, false_or, or_false, false_and, and_false, not_true_eq_false, not_false_eq_true] <;> omega))
                try simp only [Int32.reduceToInt] at h_3026
                obtain ⟨v_3027, h_3028⟩ : ∃ v9 : Int32, (if v_3024 < (9999 : Int32) then v_3024 else (9999 : Int32)) = v9 := ⟨_, rfl⟩
                refine v_mmin hC mm_X12_134 mm_smin mm_i mm_cmin (by decide) (Nat.le_of_ble_eq_true rfl) (Nat.le_of_ble_eq_true rfl) (Nat.le_of_ble_eq_true rfl) h_3028 dX12_advance_188 ?_
                have b_3029 := min_v h_3028
                try simp only [Int32.reduceToInt] at b_3029
                refine v_put hC fl_X12_131 m_1 hf_2987 rfl rfl (Nat.le_of_ble_eq_true rfl) (fs' := [.int v_2821, .ref (q 1), .ref (q 2), .ref (q 3), .ref (q 4), .int v_2822, .ref (q 6), .int v_2824, .int v_2826, .int v_2826, .int v_2830, .int v_3027, .int v_2833, .int v_2834, .ref (q 14), .ref (q 15), .ref (q 16), .int v_2835, .ref (q 18), .ref (q 19), .int v_2837, .ref (q 21), .ref (q 22), .ref (q 23), .ref (q 24), .ref (q 25), .ref (q 26), .ref (q 27), .ref (q 28)]) rfl dX12_advance_191 (fun f_3030 hf_3031 hk_3032 => ?_)
                have hW_3033 := hW_2989.up hf_3031 hk_3032 t_2 ⟨v_2821, v_2822, v_2824, v_2826, v_2826, v_2830, v_3027, v_2833, v_2834, v_2835, v_2837, rfl, (by first | omega | (simp only [Int32.lt_iff_toInt_lt, Int32.le_iff_toInt_le, Int32.reduceToInt, ← Int32.toInt_inj, true_and, and_true, or_true, true_or, false_or, or_false, false_and, and_false, not_true_eq_false, not_false_eq_true] <;> omega)), (by first | omega | (simp only [Int32.lt_iff_toInt_lt, Int32.le_iff_toInt_le, Int32.reduceToInt, ← Int32.toInt_inj, true_and, and_true, or_true, true_or, false_or, or_false, false_and, and_false, not_true_eq_false, not_false_eq_true] <;> omega)), (by first | omega | (simp only [Int32.lt_iff_toInt_lt, Int32.le_iff_toInt_le, Int32.reduceToInt, ← Int32.toInt_inj, true_and, and_true, or_true, true_or, false_or, or_false, false_and, and_false, not_true_eq_false, not_false_eq_true] <;> omega)), (by first | omega | (simp only [Int32.lt_iff_toInt_lt, Int32.le_iff_toInt_le, Int32.reduceToInt, ← Int32.toInt_inj, true_and, and_true, or_true, true_or, false_or, or_false, false_and, and_false, not_true_eq_false, not_false_eq_true] <;> omega)), (by first | omega | (simp only [Int32.lt_iff_toInt_lt, Int32.le_iff_toInt_le, Int32.reduceToInt, ← Int32.toInt_inj, true_and, and_true, or_true, true_or, false_or, or_false, false_and, and_false, not_true_eq_false, not_false_eq_true] <;> omega)), (by first | omega | (simp only [Int32.lt_iff_toInt_lt, Int32.le_iff_toInt_le, Int32.reduceToInt, ← Int32.toInt_inj, true_and, and_true, or_true, true_or, false_or, or_false, false_and, and_false, not_true_eq_false, not_false_eq_true] <;> omega)), (by first | omega | (simp only [Int32.lt_iff_toInt_lt, Int32.le_iff_toInt_le, Int32.reduceToInt, ← Int32.toInt_inj, true_and, and_true, or_true, true_or, false_or, or_false, false_and, and_false, not_true_eq_false, not_false_eq_true] <;> omega))⟩
                have hf_3034 := (hk_3032 (q 4) (ne_kd hf_2990 hf_2987 rfl)).trans hf_2990
                have fr_3035 := FR.w hk_3032 hf_2987 (k := 12) rfl
                refine v_aload_n hC dX12_advance_194 rfl ?_
                refine v_dup hC dX12_advance_195 rfl ?_
                refine v_get hC fl_X12_108 m_1 hf_3031 rfl dX12_advance_196 ?_
                refine v_iconst hC dX12_advance_199 (v := 1) (by decide) ?_
                obtain ⟨v_3036, h_3037⟩ : ∃ v9 : Int32, v_2826 + 1 = v9 := ⟨_, rfl⟩
                refine v_iadd hC dX12_advance_200 h_3037 ?_
                have h_3038 := add_v h_3037 (by first | omega | (simp only [Int32.lt_iff_toInt_lt, Int32.le_iff_toInt_le, Int32.reduceToInt, ← Int32.toInt_inj, true_and, and_true, or_true, true_or, false_or, or_false, false_and, and_false, not_true_eq_false, not_false_eq_true] <;> omega)) (by first | omega | (simp only [Int32.lt_iff_toInt_lt, Int32.le_iff_toInt_le, Int32.reduceToInt, ← Int32.toInt_inj, true_and, and_true, or_true, true_or, false_or, or_false, false_and, and_false, not_true_eq_false, not_false_eq_true] <;> omega))
                try simp only [Int32.reduceToInt] at h_3038
                refine v_put hC fl_X12_108 m_1 hf_3031 rfl rfl (Nat.le_of_ble_eq_true rfl) (fs' := [.int v_2821, .ref (q 1), .ref (q 2), .ref (q 3), .ref (q 4), .int v_2822, .ref (q 6), .int v_2824, .int v_3036, .int v_2826, .int v_2830, .int v_3027, .int v_2833, .int v_2834, .ref (q 14), .ref (q 15), .ref (q 16), .int v_2835, .ref (q 18), .ref (q 19), .int v_2837, .ref (q 21), .ref (q 22), .ref (q 23), .ref (q 24), .ref (q 25), .ref (q 26), .ref (q 27), .ref (q 28)]) rfl dX12_advance_201 (fun f_3039 hf_3040 hk_3041 => ?_)
                have hW_3042 := hW_3033.up hf_3040 hk_3041 t_2 ⟨v_2821, v_2822, v_2824, v_3036, v_2826, v_2830, v_3027, v_2833, v_2834, v_2835, v_2837, rfl, (by first | omega | (simp only [Int32.lt_iff_toInt_lt, Int32.le_iff_toInt_le, Int32.reduceToInt, ← Int32.toInt_inj, true_and, and_true, or_true, true_or, false_or, or_false, false_and, and_false, not_true_eq_false, not_false_eq_true] <;> omega)), (by first | omega | (simp only [Int32.lt_iff_toInt_lt, Int32.le_iff_toInt_le, Int32.reduceToInt, ← Int32.toInt_inj, true_and, and_true, or_true, true_or, false_or, or_false, false_and, and_false, not_true_eq_false, not_false_eq_true] <;> omega)), (by first | omega | (simp only [Int32.lt_iff_toInt_lt, Int32.le_iff_toInt_le, Int32.reduceToInt, ← Int32.toInt_inj, true_and, and_true, or_true, true_or, false_or, or_false, false_and, and_false, not_true_eq_false, not_false_eq_true] <;> omega)), (by first | omega | (simp only [Int32.lt_iff_toInt_lt, Int32.le_iff_toInt_le, Int32.reduceToInt, ← Int32.toInt_inj, true_and, and_true, or_true, true_or, false_or, or_false, false_and, and_false, not_true_eq_false, not_false_eq_true] <;> omega)), (by first | omega | (simp only [Int32.lt_iff_toInt_lt, Int32.le_iff_toInt_le, Int32.reduceToInt, ← Int32.toInt_inj, true_and, and_true, or_true, true_or, false_or, or_false, false_and, and_false, not_true_eq_false, not_false_eq_true] <;> omega)), (by first | omega | (simp only [Int32.lt_iff_toInt_lt, Int32.le_iff_toInt_le, Int32.reduceToInt, ← Int32.toInt_inj, true_and, and_true, or_true, true_or, false_or, or_false, false_and, and_false, not_true_eq_false, not_false_eq_true] <;> omega)), (by first | omega | (simp only [Int32.lt_iff_toInt_lt, Int32.le_iff_toInt_le, Int32.reduceToInt, ← Int32.toInt_inj, true_and, and_true, or_true, true_or, false_or, or_false, false_and, and_false, not_true_eq_false, not_false_eq_true] <;> omega))⟩
                have hf_3043 := (hk_3041 (q 4) (ne_kd hf_3034 hf_3031 rfl)).trans hf_3034
                have fr_3044 := FR.w hk_3041 hf_3031 (k := 12) rfl
                refine v_goto hC dX12_advance_204 (tgt := 144) (by decide) ?_
                have lp_3320 : ∀ (n_3321 : Nat) (f_3312 : Nat → va_E) (hW_3313 : WT T L f_3312) (hF_3314 : FR [12] f_3039 f_3312)  (nv_3316 : v_28.toInt ≤ fld (f_3312 a_0) 9) (nv_3317 : fld (f_3312 a_0) 9 < fld (f_3312 a_0) 8) (nv_3318 : fld (f_3312 a_0) 12 = v_35.toInt) (nv_3319 : fld (f_3312 a_0) 20 = v_39.toInt) (hm_3323 : 600 - fld (f_3312 a_0) 8 < (n_3321 : Int)), V z E 2 0 0 L f_3312 144 [(0, .ref a_0)] [] := by
                  intro n_3321
                  induction n_3321 with
                  | zero =>
                    intro f_3312 hW_3313 hF_3314 nv_3316 nv_3317 nv_3318 nv_3319 hm_3323
                    have hf_3315 := hF_3314.at hf_3043 rfl
                    obtain ⟨v_3325, v_3326, v_3328, v_3330, v_3332, v_3334, v_3336, v_3337, v_3338, v_3339, v_3341, e_3324, b_3327, b_3329, b_3331, b_3333, b_3335, b_3340, b_3342⟩ := hW_3313.at m_1 t_2
                    have fe_3343 : fld (f_3312 a_0) 9 = (v_3332 : Int32).toInt := by rw [e_3324]; rfl
                    rw [fe_3343] at nv_3316
                    have fe_3344 : fld (f_3312 a_0) 8 = (v_3330 : Int32).toInt := by rw [e_3324]; rfl
                    have fe_3345 : fld (f_3312 a_0) 9 = (v_3332 : Int32).toInt := by rw [e_3324]; rfl
                    rw [fe_3344, fe_3345] at nv_3317
                    have fe_3346 : fld (f_3312 a_0) 12 = (v_3337 : Int32).toInt := by rw [e_3324]; rfl
                    rw [fe_3346] at nv_3318
                    have fe_3347 : fld (f_3312 a_0) 20 = (v_3341 : Int32).toInt := by rw [e_3324]; rfl
                    rw [fe_3347] at nv_3319
                    have h_3348 : fld (f_3312 a_0) 8 = (v_3330 : Int32).toInt := by rw [e_3324]; rfl
                    rw [h_3348] at hm_3323
                    exfalso; omega
                  | succ n_3321 ih_3322 =>
                    intro f_3312 hW_3313 hF_3314 nv_3316 nv_3317 nv_3318 nv_3319 hm_3323
                    have hf_3315 := hF_3314.at hf_3043 rfl
                    obtain ⟨v_3325, v_3326, v_3328, v_3330, v_3332, v_3334, v_3336, v_3337, v_3338, v_3339, v_3341, e_3324, b_3327, b_3329, b_3331, b_3333, b_3335, b_3340, b_3342⟩ := hW_3313.at m_1 t_2
                    have fe_3343 : fld (f_3312 a_0) 9 = (v_3332 : Int32).toInt := by rw [e_3324]; rfl
                    rw [fe_3343] at nv_3316
                    have fe_3344 : fld (f_3312 a_0) 8 = (v_3330 : Int32).toInt := by rw [e_3324]; rfl
                    have fe_3345 : fld (f_3312 a_0) 9 = (v_3332 : Int32).toInt := by rw [e_3324]; rfl
                    rw [fe_3344, fe_3345] at nv_3317
                    have fe_3346 : fld (f_3312 a_0) 12 = (v_3337 : Int32).toInt := by rw [e_3324]; rfl
                    rw [fe_3346] at nv_3318
                    have fe_3347 : fld (f_3312 a_0) 20 = (v_3341 : Int32).toInt := by rw [e_3324]; rfl
                    rw [fe_3347] at nv_3319
                    have h_3348 : fld (f_3312 a_0) 8 = (v_3330 : Int32).toInt := by rw [e_3324]; rfl
                    rw [h_3348] at hm_3323
                    refine v_aload_n hC dX12_advance_144 rfl ?_
                    refine v_aload_n hC dX12_advance_145 rfl ?_
                    refine v_get hC fl_X12_108 m_1 e_3324 rfl dX12_advance_146 ?_
                    refine v_vi hC (rest := []) m_1 e_3324 rfl mi_X12_see ms_X12_see (p_X12_see hW_3313 k_0 (by first | omega | (simp only [Int32.lt_iff_toInt_lt, Int32.le_iff_toInt_le, Int32.reduceToInt, ← Int32.toInt_inj, true_and, and_true, or_true, true_or, false_or, or_false, false_and, and_false, not_true_eq_false, not_false_eq_true] <;> omega))) mx_X12_see ml_X12_114 (by decide) rfl (cells1 := 0) (slots1 := 0) (by decide) (by decide) (Nat.le_of_ble_eq_true rfl) (Nat.le_of_ble_eq_true rfl) rfl (Nat.le_of_ble_eq_true rfl) dX12_advance_149 (fun r_3349 L_3350 f_3351 h_3352 => ?_)
                    obtain ⟨rfl, rfl, rfl⟩ := h_3352
                    have sb_3355 := sv_b (f_3312 a_0) (f_3312 (q 4)) v_3330
                    have fe_3356 : fld (f_3312 a_0) 7 = (v_3328 : Int32).toInt := by rw [e_3324]; rfl
                    rw [fe_3356] at sb_3355
                    obtain ⟨v_3357, h_3358⟩ : ∃ v9 : Int64, (sv (f_3312 a_0) (f_3312 (q 4)) v_3330).toInt64 = v9 := ⟨_, rfl⟩
                    refine v_i2l hC dX12_advance_152 h_3358 ?_
                    have h_3359 : v_3357.toInt = (sv (f_3312 a_0) (f_3312 (q 4)) v_3330).toInt := by rw [← h_3358]; exact Int32.toInt_toInt64 _
                    refine v_ldc2 hC kl_X12_127 dX12_advance_153 ?_
                    refine v_ldc2 hC kl_X12_129 dX12_advance_156 ?_
                    refine v_si hC (rest := []) mt_X12_in (p_X12_in hW_3313) mx_X12_in ml_X12_79 (by decide) rfl (cells1 := 0) (slots1 := 0) (by decide) (by decide) (Nat.le_of_ble_eq_true rfl) (Nat.le_of_ble_eq_true rfl) rfl (Nat.le_of_ble_eq_true rfl) dX12_advance_159 (fun r_3360 L_3361 f_3362 h_3363 => ?_)
                    obtain ⟨rfl, rfl, b_3364, x_3365⟩ := h_3363
                    try simp only [Int32.reduceToInt, Int64.reduceToInt] at x_3365
                    refine v_if_eq hC dX12_advance_162 (tgt := 207) (by decide) (fun h_3368 => ?_) (fun h_3368 => ?_)
                    · simp only [Int32.lt_iff_toInt_lt, Int32.le_iff_toInt_le, Int32.reduceToInt, ← Int32.toInt_inj] at h_3368
                      refine v_aload_n hC dX12_advance_207 rfl ?_
                      refine v_iconst hC dX12_advance_208 (v := 2) (by decide) ?_
                      refine v_put hC fl_X12_120 m_1 e_3324 rfl rfl (Nat.le_of_ble_eq_true rfl) (fs' := [.int v_3325, .ref (q 1), .ref (q 2), .ref (q 3), .ref (q 4), .int v_3326, .ref (q 6), .int v_3328, .int v_3330, .int v_3332, .int 2, .int v_3336, .int v_3337, .int v_3338, .ref (q 14), .ref (q 15), .ref (q 16), .int v_3339, .ref (q 18), .ref (q 19), .int v_3341, .ref (q 21), .ref (q 22), .ref (q 23), .ref (q 24), .ref (q 25), .ref (q 26), .ref (q 27), .ref (q 28)]) rfl dX12_advance_209 (fun f_3369 hf_3370 hk_3371 => ?_)
                      have hW_3372 := hW_3313.up hf_3370 hk_3371 t_2 ⟨v_3325, v_3326, v_3328, v_3330, v_3332, 2, v_3336, v_3337, v_3338, v_3339, v_3341, rfl, (by first | omega | (simp only [Int32.lt_iff_toInt_lt, Int32.le_iff_toInt_le, Int32.reduceToInt, ← Int32.toInt_inj, true_and, and_true, or_true, true_or, false_or, or_false, false_and, and_false, not_true_eq_false, not_false_eq_true] <;> omega)), (by first | omega | (simp only [Int32.lt_iff_toInt_lt, Int32.le_iff_toInt_le, Int32.reduceToInt, ← Int32.toInt_inj, true_and, and_true, or_true, true_or, false_or, or_false, false_and, and_false, not_true_eq_false, not_false_eq_true] <;> omega)), (by first | omega | (simp only [Int32.lt_iff_toInt_lt, Int32.le_iff_toInt_le, Int32.reduceToInt, ← Int32.toInt_inj, true_and, and_true, or_true, true_or, false_or, or_false, false_and, and_false, not_true_eq_false, not_false_eq_true] <;> omega)), (by first | omega | (simp only [Int32.lt_iff_toInt_lt, Int32.le_iff_toInt_le, Int32.reduceToInt, ← Int32.toInt_inj, true_and, and_true, or_true, true_or, false_or, or_false, false_and, and_false, not_true_eq_false, not_false_eq_true] <;> omega)), (by decide), (by first | omega | (simp only [Int32.lt_iff_toInt_lt, Int32.le_iff_toInt_le, Int32.reduceToInt, ← Int32.toInt_inj, true_and, and_true, or_true, true_or, false_or, or_false, false_and, and_false, not_true_eq_false, not_false_eq_true] <;> omega)), (by first | omega | (simp only [Int32.lt_iff_toInt_lt, Int32.le_iff_toInt_le, Int32.reduceToInt, ← Int32.toInt_inj, true_and, and_true, or_true, true_or, false_or, or_false, false_and, and_false, not_true_eq_false, not_false_eq_true] <;> omega))⟩
                      have hf_3373 := (hk_3371 (q 4) (ne_kd hf_3315 e_3324 rfl)).trans hf_3315
                      have fr_3374 := FR.w hk_3371 e_3324 (k := 12) rfl
                      refine v_goto hC dX12_advance_212 (tgt := 240) (by decide) ?_
                      have fe_3375 : fld (f_3369 a_0) 8 = (v_3330 : Int32).toInt := by rw [hf_3370]; rfl
                      have fe_3376 : fld (f_3369 a_0) 9 = (v_3332 : Int32).toInt := by rw [hf_3370]; rfl
                      have fe_3377 : fld (f_3369 a_0) 8 = (v_3330 : Int32).toInt := by rw [hf_3370]; rfl
                      have fe_3378 : fld (f_3369 a_0) 9 = (v_3332 : Int32).toInt := by rw [hf_3370]; rfl
                      have fe_3379 : fld (f_3369 a_0) 10 = (2 : Int32).toInt := by rw [hf_3370]; rfl
                      simp only [Int32.reduceToInt] at fe_3379
                      have fe_3380 : fld (f_3369 a_0) 12 = (v_3337 : Int32).toInt := by rw [hf_3370]; rfl
                      have fe_3381 : fld (f_3369 a_0) 20 = (v_3341 : Int32).toInt := by rw [hf_3370]; rfl
                      exact hR _ _ _ _ _ _ dX12_advance_240 (Nat.le_of_ble_eq_true rfl) (Nat.le_of_ble_eq_true rfl) ⟨rfl, hW_3372, (((((((hF_2812.tr fr_2901).tr fr_2991).tr fr_3035).tr fr_3044).tr hF_3314).tr fr_3374).mono rfl), (by simp only [fe_3375, fe_3376, mz_41, true_and, and_true, or_true, true_or, false_or, or_false, false_and, and_false, not_true_eq_false, not_false_eq_true] <;> first | omega | (simp only [Int32.lt_iff_toInt_lt, Int32.le_iff_toInt_le, Int32.reduceToInt, ← Int32.toInt_inj, true_and, and_true, or_true, true_or, false_or, or_false, false_and, and_false, not_true_eq_false, not_false_eq_true] <;> omega)), (by simp only [fe_3377, fe_3378, fe_3379, true_and, and_true, or_true, true_or, false_or, or_false, false_and, and_false, not_true_eq_false, not_false_eq_true] <;> first | omega | (simp only [Int32.lt_iff_toInt_lt, Int32.le_iff_toInt_le, Int32.reduceToInt, ← Int32.toInt_inj, true_and, and_true, or_true, true_or, false_or, or_false, false_and, and_false, not_true_eq_false, not_false_eq_true] <;> omega)), (by simp only [fe_3380, mz_42, true_and, and_true, or_true, true_or, false_or, or_false, false_and, and_false, not_true_eq_false, not_false_eq_true] <;> first | omega | (simp only [Int32.lt_iff_toInt_lt, Int32.le_iff_toInt_le, Int32.reduceToInt, ← Int32.toInt_inj, true_and, and_true, or_true, true_or, false_or, or_false, false_and, and_false, not_true_eq_false, not_false_eq_true] <;> omega)), (by simp only [fe_3381, mz_43, true_and, and_true, or_true, true_or, false_or, or_false, false_and, and_false, not_true_eq_false, not_false_eq_true] <;> first | omega | (simp only [Int32.lt_iff_toInt_lt, Int32.le_iff_toInt_le, Int32.reduceToInt, ← Int32.toInt_inj, true_and, and_true, or_true, true_or, false_or, or_false, false_and, and_false, not_true_eq_false, not_false_eq_true] <;> omega))⟩
                    · simp only [Int32.lt_iff_toInt_lt, Int32.le_iff_toInt_le, Int32.reduceToInt, ← Int32.toInt_inj] at h_3368
                      refine v_aload_n hC dX12_advance_165 rfl ?_
                      refine v_sipush hC dX12_advance_166 (v := 9999) (by decide) ?_
                      refine v_bipush hC dX12_advance_169 (v := 10) (by decide) ?_
                      refine v_aload_n hC dX12_advance_171 rfl ?_
                      refine v_get hC fl_X12_131 m_1 e_3324 rfl dX12_advance_172 ?_
                      obtain ⟨v_3382, h_3383⟩ : ∃ v9 : Int32, (10 : Int32) * v_3336 = v9 := ⟨_, rfl⟩
                      refine v_imul hC dX12_advance_175 h_3383 ?_
                      refine v_aload_n hC dX12_advance_176 rfl ?_
                      refine v_aload_n hC dX12_advance_177 rfl ?_
                      refine v_get hC fl_X12_108 m_1 e_3324 rfl dX12_advance_178 ?_
                      refine v_vi hC (rest := [.int v_3382, .int 9999, .ref a_0]) m_1 e_3324 rfl mi_X12_see ms_X12_see (p_X12_see hW_3313 k_0 (by first | omega | (simp only [Int32.lt_iff_toInt_lt, Int32.le_iff_toInt_le, Int32.reduceToInt, ← Int32.toInt_inj, true_and, and_true, or_true, true_or, false_or, or_false, false_and, and_false, not_true_eq_false, not_false_eq_true] <;> omega))) mx_X12_see ml_X12_114 (by decide) rfl (cells1 := 0) (slots1 := 0) (by decide) (by decide) (Nat.le_of_ble_eq_true rfl) (Nat.le_of_ble_eq_true rfl) rfl (Nat.le_of_ble_eq_true rfl) dX12_advance_181 (fun r_3385 L_3386 f_3387 h_3388 => ?_)
                      obtain ⟨rfl, rfl, rfl⟩ := h_3388
                      have sb_3391 := sv_b (f_3312 a_0) (f_3312 (q 4)) v_3330
                      have fe_3392 : fld (f_3312 a_0) 7 = (v_3328 : Int32).toInt := by rw [e_3324]; rfl
                      rw [fe_3392] at sb_3391
                      obtain ⟨v_3393, h_3394⟩ : ∃ v9 : Int32, v_3382 + (sv (f_3312 a_0) (f_3312 (q 4)) v_3330) = v9 := ⟨_, rfl⟩
                      refine v_iadd hC dX12_advance_184 h_3394 ?_
                      refine v_bipush hC dX12_advance_185 (v := 48) (by decide) ?_
                      obtain ⟨v_3396, h_3397⟩ : ∃ v9 : Int32, v_3393 - 48 = v9 := ⟨_, rfl⟩
                      refine v_isub hC dX12_advance_187 h_3397 ?_
                      obtain ⟨v_3399, h_3400⟩ : ∃ v9 : Int32, (if v_3396 < (9999 : Int32) then v_3396 else (9999 : Int32)) = v9 := ⟨_, rfl⟩
                      refine v_mmin hC mm_X12_134 mm_smin mm_i mm_cmin (by decide) (Nat.le_of_ble_eq_true rfl) (Nat.le_of_ble_eq_true rfl) (Nat.le_of_ble_eq_true rfl) h_3400 dX12_advance_188 ?_
                      have b_3401 := min_v h_3400
                      try simp only [Int32.reduceToInt] at b_3401
                      refine v_put hC fl_X12_131 m_1 e_3324 rfl rfl (Nat.le_of_ble_eq_true rfl) (fs' := [.int v_3325, .ref (q 1), .ref (q 2), .ref (q 3), .ref (q 4), .int v_3326, .ref (q 6), .int v_3328, .int v_3330, .int v_3332, .int v_3334, .int v_3399, .int v_3337, .int v_3338, .ref (q 14), .ref (q 15), .ref (q 16), .int v_3339, .ref (q 18), .ref (q 19), .int v_3341, .ref (q 21), .ref (q 22), .ref (q 23), .ref (q 24), .ref (q 25), .ref (q 26), .ref (q 27), .ref (q 28)]) rfl dX12_advance_191 (fun f_3402 hf_3403 hk_3404 => ?_)
                      have hW_3405 := hW_3313.up hf_3403 hk_3404 t_2 ⟨v_3325, v_3326, v_3328, v_3330, v_3332, v_3334, v_3399, v_3337, v_3338, v_3339, v_3341, rfl, (by first | omega | (simp only [Int32.lt_iff_toInt_lt, Int32.le_iff_toInt_le, Int32.reduceToInt, ← Int32.toInt_inj, true_and, and_true, or_true, true_or, false_or, or_false, false_and, and_false, not_true_eq_false, not_false_eq_true] <;> omega)), (by first | omega | (simp only [Int32.lt_iff_toInt_lt, Int32.le_iff_toInt_le, Int32.reduceToInt, ← Int32.toInt_inj, true_and, and_true, or_true, true_or, false_or, or_false, false_and, and_false, not_true_eq_false, not_false_eq_true] <;> omega)), (by first | omega | (simp only [Int32.lt_iff_toInt_lt, Int32.le_iff_toInt_le, Int32.reduceToInt, ← Int32.toInt_inj, true_and, and_true, or_true, true_or, false_or, or_false, false_and, and_false, not_true_eq_false, not_false_eq_true] <;> omega)), (by first | omega | (simp only [Int32.lt_iff_toInt_lt, Int32.le_iff_toInt_le, Int32.reduceToInt, ← Int32.toInt_inj, true_and, and_true, or_true, true_or, false_or, or_false, false_and, and_false, not_true_eq_false, not_false_eq_true] <;> omega)), (by first | omega | (simp only [Int32.lt_iff_toInt_lt, Int32.le_iff_toInt_le, Int32.reduceToInt, ← Int32.toInt_inj, true_and, and_true, or_true, true_or, false_or, or_false, false_and, and_false, not_true_eq_false, not_false_eq_true] <;> omega)), (by first | omega | (simp only [Int32.lt_iff_toInt_lt, Int32.le_iff_toInt_le, Int32.reduceToInt, ← Int32.toInt_inj, true_and, and_true, or_true, true_or, false_or, or_false, false_and, and_false, not_true_eq_false, not_false_eq_true] <;> omega)), (by first | omega | (simp only [Int32.lt_iff_toInt_lt, Int32.le_iff_toInt_le, Int32.reduceToInt, ← Int32.toInt_inj, true_and, and_true, or_true, true_or, false_or, or_false, false_and, and_false, not_true_eq_false, not_false_eq_true] <;> omega))⟩
                      have hf_3406 := (hk_3404 (q 4) (ne_kd hf_3315 e_3324 rfl)).trans hf_3315
                      have fr_3407 := FR.w hk_3404 e_3324 (k := 12) rfl
                      refine v_aload_n hC dX12_advance_194 rfl ?_
                      refine v_dup hC dX12_advance_195 rfl ?_
                      refine v_get hC fl_X12_108 m_1 hf_3403 rfl dX12_advance_196 ?_
                      refine v_iconst hC dX12_advance_199 (v := 1) (by decide) ?_
                      obtain ⟨v_3408, h_3409⟩ : ∃ v9 : Int32, v_3330 + 1 = v9 := ⟨_, rfl⟩
                      refine v_iadd hC dX12_advance_200 h_3409 ?_
                      have h_3410 := add_v h_3409 (by first | omega | (simp only [Int32.lt_iff_toInt_lt, Int32.le_iff_toInt_le, Int32.reduceToInt, ← Int32.toInt_inj, true_and, and_true, or_true, true_or, false_or, or_false, false_and, and_false, not_true_eq_false, not_false_eq_true] <;> omega)) (by first | omega | (simp only [Int32.lt_iff_toInt_lt, Int32.le_iff_toInt_le, Int32.reduceToInt, ← Int32.toInt_inj, true_and, and_true, or_true, true_or, false_or, or_false, false_and, and_false, not_true_eq_false, not_false_eq_true] <;> omega))
                      try simp only [Int32.reduceToInt] at h_3410
                      refine v_put hC fl_X12_108 m_1 hf_3403 rfl rfl (Nat.le_of_ble_eq_true rfl) (fs' := [.int v_3325, .ref (q 1), .ref (q 2), .ref (q 3), .ref (q 4), .int v_3326, .ref (q 6), .int v_3328, .int v_3408, .int v_3332, .int v_3334, .int v_3399, .int v_3337, .int v_3338, .ref (q 14), .ref (q 15), .ref (q 16), .int v_3339, .ref (q 18), .ref (q 19), .int v_3341, .ref (q 21), .ref (q 22), .ref (q 23), .ref (q 24), .ref (q 25), .ref (q 26), .ref (q 27), .ref (q 28)]) rfl dX12_advance_201 (fun f_3411 hf_3412 hk_3413 => ?_)
                      have hW_3414 := hW_3405.up hf_3412 hk_3413 t_2 ⟨v_3325, v_3326, v_3328, v_3408, v_3332, v_3334, v_3399, v_3337, v_3338, v_3339, v_3341, rfl, (by first | omega | (simp only [Int32.lt_iff_toInt_lt, Int32.le_iff_toInt_le, Int32.reduceToInt, ← Int32.toInt_inj, true_and, and_true, or_true, true_or, false_or, or_false, false_and, and_false, not_true_eq_false, not_false_eq_true] <;> omega)), (by first | omega | (simp only [Int32.lt_iff_toInt_lt, Int32.le_iff_toInt_le, Int32.reduceToInt, ← Int32.toInt_inj, true_and, and_true, or_true, true_or, false_or, or_false, false_and, and_false, not_true_eq_false, not_false_eq_true] <;> omega)), (by first | omega | (simp only [Int32.lt_iff_toInt_lt, Int32.le_iff_toInt_le, Int32.reduceToInt, ← Int32.toInt_inj, true_and, and_true, or_true, true_or, false_or, or_false, false_and, and_false, not_true_eq_false, not_false_eq_true] <;> omega)), (by first | omega | (simp only [Int32.lt_iff_toInt_lt, Int32.le_iff_toInt_le, Int32.reduceToInt, ← Int32.toInt_inj, true_and, and_true, or_true, true_or, false_or, or_false, false_and, and_false, not_true_eq_false, not_false_eq_true] <;> omega)), (by first | omega | (simp only [Int32.lt_iff_toInt_lt, Int32.le_iff_toInt_le, Int32.reduceToInt, ← Int32.toInt_inj, true_and, and_true, or_true, true_or, false_or, or_false, false_and, and_false, not_true_eq_false, not_false_eq_true] <;> omega)), (by first | omega | (simp only [Int32.lt_iff_toInt_lt, Int32.le_iff_toInt_le, Int32.reduceToInt, ← Int32.toInt_inj, true_and, and_true, or_true, true_or, false_or, or_false, false_and, and_false, not_true_eq_false, not_false_eq_true] <;> omega)), (by first | omega | (simp only [Int32.lt_iff_toInt_lt, Int32.le_iff_toInt_le, Int32.reduceToInt, ← Int32.toInt_inj, true_and, and_true, or_true, true_or, false_or, or_false, false_and, and_false, not_true_eq_false, not_false_eq_true] <;> omega))⟩
                      have hf_3415 := (hk_3413 (q 4) (ne_kd hf_3406 hf_3403 rfl)).trans hf_3406
                      have fr_3416 := FR.w hk_3413 hf_3403 (k := 12) rfl
                      refine v_goto hC dX12_advance_204 (tgt := 144) (by decide) ?_
                      refine v_pick [0] rfl ?_
                      have fe_3417 : fld (f_3411 a_0) 9 = (v_3332 : Int32).toInt := by rw [hf_3412]; rfl
                      have fe_3418 : fld (f_3411 a_0) 8 = (v_3408 : Int32).toInt := by rw [hf_3412]; rfl
                      have fe_3419 : fld (f_3411 a_0) 9 = (v_3332 : Int32).toInt := by rw [hf_3412]; rfl
                      have fe_3420 : fld (f_3411 a_0) 12 = (v_3337 : Int32).toInt := by rw [hf_3412]; rfl
                      have fe_3421 : fld (f_3411 a_0) 20 = (v_3341 : Int32).toInt := by rw [hf_3412]; rfl
                      have h_3422 : fld (f_3411 a_0) 8 = (v_3408 : Int32).toInt := by rw [hf_3412]; rfl
                      exact ih_3322 f_3411 hW_3414 (((hF_3314.tr fr_3407).tr fr_3416).mono rfl) (by rw [fe_3417] <;> first | omega | (simp only [Int32.lt_iff_toInt_lt, Int32.le_iff_toInt_le, Int32.reduceToInt, ← Int32.toInt_inj, true_and, and_true, or_true, true_or, false_or, or_false, false_and, and_false, not_true_eq_false, not_false_eq_true] <;> omega)) (by rw [fe_3418, fe_3419] <;> first | omega | (simp only [Int32.lt_iff_toInt_lt, Int32.le_iff_toInt_le, Int32.reduceToInt, ← Int32.toInt_inj, true_and, and_true, or_true, true_or, false_or, or_false, false_and, and_false, not_true_eq_false, not_false_eq_true] <;> omega)) (by rw [fe_3420] <;> first | omega | (simp only [Int32.lt_iff_toInt_lt, Int32.le_iff_toInt_le, Int32.reduceToInt, ← Int32.toInt_inj, true_and, and_true, or_true, true_or, false_or, or_false, false_and, and_false, not_true_eq_false, not_false_eq_true] <;> omega)) (by rw [fe_3421] <;> first | omega | (simp only [Int32.lt_iff_toInt_lt, Int32.le_iff_toInt_le, Int32.reduceToInt, ← Int32.toInt_inj, true_and, and_true, or_true, true_or, false_or, or_false, false_and, and_false, not_true_eq_false, not_false_eq_true] <;> omega)) (by rw [h_3422]; omega)
                refine v_pick [1] rfl ?_
                have fe_3423 : fld (f_3039 a_0) 9 = (v_2826 : Int32).toInt := by rw [hf_3040]; rfl
                have fe_3424 : fld (f_3039 a_0) 8 = (v_3036 : Int32).toInt := by rw [hf_3040]; rfl
                have fe_3425 : fld (f_3039 a_0) 9 = (v_2826 : Int32).toInt := by rw [hf_3040]; rfl
                have fe_3426 : fld (f_3039 a_0) 12 = (v_2833 : Int32).toInt := by rw [hf_3040]; rfl
                have fe_3427 : fld (f_3039 a_0) 20 = (v_2837 : Int32).toInt := by rw [hf_3040]; rfl
                have h_3428 : fld (f_3039 a_0) 8 = (v_3036 : Int32).toInt := by rw [hf_3040]; rfl
                exact lp_3320 602 f_3039 hW_3042 FR.rf (by rw [fe_3423] <;> first | omega | (simp only [Int32.lt_iff_toInt_lt, Int32.le_iff_toInt_le, Int32.reduceToInt, ← Int32.toInt_inj, true_and, and_true, or_true, true_or, false_or, or_false, false_and, and_false, not_true_eq_false, not_false_eq_true] <;> omega)) (by rw [fe_3424, fe_3425] <;> first | omega | (simp only [Int32.lt_iff_toInt_lt, Int32.le_iff_toInt_le, Int32.reduceToInt, ← Int32.toInt_inj, true_and, and_true, or_true, true_or, false_or, or_false, false_and, and_false, not_true_eq_false, not_false_eq_true] <;> omega)) (by rw [fe_3426] <;> first | omega | (simp only [Int32.lt_iff_toInt_lt, Int32.le_iff_toInt_le, Int32.reduceToInt, ← Int32.toInt_inj, true_and, and_true, or_true, true_or, false_or, or_false, false_and, and_false, not_true_eq_false, not_false_eq_true] <;> omega)) (by rw [fe_3427] <;> first | omega | (simp only [Int32.lt_iff_toInt_lt, Int32.le_iff_toInt_le, Int32.reduceToInt, ← Int32.toInt_inj, true_and, and_true, or_true, true_or, false_or, or_false, false_and, and_false, not_true_eq_false, not_false_eq_true] <;> omega)) (by rw [h_3428]; omega)
            · simp only [Int32.lt_iff_toInt_lt, Int32.le_iff_toInt_le, Int32.reduceToInt, ← Int32.toInt_inj] at h_2928
              refine v_aload_n hC dX12_advance_83 rfl ?_
              refine v_aload_n hC dX12_advance_84 rfl ?_
              refine v_get hC fl_X12_108 m_1 hf_2898 rfl dX12_advance_85 ?_
              refine v_vi hC (rest := []) m_1 hf_2898 rfl mi_X12_see ms_X12_see (p_X12_see hW_2900 k_0 (by first | omega | (simp only [Int32.lt_iff_toInt_lt, Int32.le_iff_toInt_le, Int32.reduceToInt, ← Int32.toInt_inj, true_and, and_true, or_true, true_or, false_or, or_false, false_and, and_false, not_true_eq_false, not_false_eq_true] <;> omega))) mx_X12_see ml_X12_114 (by decide) rfl (cells1 := 0) (slots1 := 0) (by decide) (by decide) (Nat.le_of_ble_eq_true rfl) (Nat.le_of_ble_eq_true rfl) rfl (Nat.le_of_ble_eq_true rfl) dX12_advance_88 (fun r_3429 L_3430 f_3431 h_3432 => ?_)
              obtain ⟨rfl, rfl, rfl⟩ := h_3432
              have sb_3435 := sv_b (f_2897 a_0) (f_2897 (q 4)) v_2826
              have fe_3436 : fld (f_2897 a_0) 7 = (v_2824 : Int32).toInt := by rw [hf_2898]; rfl
              rw [fe_3436] at sb_3435
              obtain ⟨v_3437, h_3438⟩ : ∃ v9 : Int64, (sv (f_2897 a_0) (f_2897 (q 4)) v_2826).toInt64 = v9 := ⟨_, rfl⟩
              refine v_i2l hC dX12_advance_91 h_3438 ?_
              have h_3439 : v_3437.toInt = (sv (f_2897 a_0) (f_2897 (q 4)) v_2826).toInt := by rw [← h_3438]; exact Int32.toInt_toInt64 _
              refine v_ldc2 hC kl_X12_123 dX12_advance_92 ?_
              refine v_ldc2 hC kl_X12_125 dX12_advance_95 ?_
              refine v_si hC (rest := []) mt_X12_in (p_X12_in hW_2900) mx_X12_in ml_X12_79 (by decide) rfl (cells1 := 0) (slots1 := 0) (by decide) (by decide) (Nat.le_of_ble_eq_true rfl) (Nat.le_of_ble_eq_true rfl) rfl (Nat.le_of_ble_eq_true rfl) dX12_advance_98 (fun r_3440 L_3441 f_3442 h_3443 => ?_)
              obtain ⟨rfl, rfl, b_3444, x_3445⟩ := h_3443
              try simp only [Int32.reduceToInt, Int64.reduceToInt] at x_3445
              refine v_if_eq_f hC dX12_advance_101 (tgt := 117) (by decide) (by first | omega | (simp only [Int32.lt_iff_toInt_lt, Int32.le_iff_toInt_le, Int32.reduceToInt, ← Int32.toInt_inj, true_and, and_true, or_true, true_or, false_or, or_false, false_and, and_false, not_true_eq_false, not_false_eq_true] <;> omega)) ?_
              refine v_aload_n hC dX12_advance_104 rfl ?_
              refine v_dup hC dX12_advance_105 rfl ?_
              refine v_get hC fl_X12_108 m_1 hf_2898 rfl dX12_advance_106 ?_
              refine v_iconst hC dX12_advance_109 (v := 1) (by decide) ?_
              obtain ⟨v_3448, h_3449⟩ : ∃ v9 : Int32, v_2826 + 1 = v9 := ⟨_, rfl⟩
              refine v_iadd hC dX12_advance_110 h_3449 ?_
              have h_3450 := add_v h_3449 (by first | omega | (simp only [Int32.lt_iff_toInt_lt, Int32.le_iff_toInt_le, Int32.reduceToInt, ← Int32.toInt_inj, true_and, and_true, or_true, true_or, false_or, or_false, false_and, and_false, not_true_eq_false, not_false_eq_true] <;> omega)) (by first | omega | (simp only [Int32.lt_iff_toInt_lt, Int32.le_iff_toInt_le, Int32.reduceToInt, ← Int32.toInt_inj, true_and, and_true, or_true, true_or, false_or, or_false, false_and, and_false, not_true_eq_false, not_false_eq_true] <;> omega))
              try simp only [Int32.reduceToInt] at h_3450
              refine v_put hC fl_X12_108 m_1 hf_2898 rfl rfl (Nat.le_of_ble_eq_true rfl) (fs' := [.int v_2821, .ref (q 1), .ref (q 2), .ref (q 3), .ref (q 4), .int v_2822, .ref (q 6), .int v_2824, .int v_3448, .int v_2826, .int v_2830, .int v_2832, .int v_2833, .int v_2834, .ref (q 14), .ref (q 15), .ref (q 16), .int v_2835, .ref (q 18), .ref (q 19), .int v_2837, .ref (q 21), .ref (q 22), .ref (q 23), .ref (q 24), .ref (q 25), .ref (q 26), .ref (q 27), .ref (q 28)]) rfl dX12_advance_111 (fun f_3451 hf_3452 hk_3453 => ?_)
              have hW_3454 := hW_2900.up hf_3452 hk_3453 t_2 ⟨v_2821, v_2822, v_2824, v_3448, v_2826, v_2830, v_2832, v_2833, v_2834, v_2835, v_2837, rfl, (by first | omega | (simp only [Int32.lt_iff_toInt_lt, Int32.le_iff_toInt_le, Int32.reduceToInt, ← Int32.toInt_inj, true_and, and_true, or_true, true_or, false_or, or_false, false_and, and_false, not_true_eq_false, not_false_eq_true] <;> omega)), (by first | omega | (simp only [Int32.lt_iff_toInt_lt, Int32.le_iff_toInt_le, Int32.reduceToInt, ← Int32.toInt_inj, true_and, and_true, or_true, true_or, false_or, or_false, false_and, and_false, not_true_eq_false, not_false_eq_true] <;> omega)), (by first | omega | (simp only [Int32.lt_iff_toInt_lt, Int32.le_iff_toInt_le, Int32.reduceToInt, ← Int32.toInt_inj, true_and, and_true, or_true, true_or, false_or, or_false, false_and, and_false, not_true_eq_false, not_false_eq_true] <;> omega)), (by first | omega | (simp only [Int32.lt_iff_toInt_lt, Int32.le_iff_toInt_le, Int32.reduceToInt, ← Int32.toInt_inj, true_and, and_true, or_true, true_or, false_or, or_false, false_and, and_false, not_true_eq_false, not_false_eq_true] <;> omega)), (by first | omega | (simp only [Int32.lt_iff_toInt_lt, Int32.le_iff_toInt_le, Int32.reduceToInt, ← Int32.toInt_inj, true_and, and_true, or_true, true_or, false_or, or_false, false_and, and_false, not_true_eq_false, not_false_eq_true] <;> omega)), (by first | omega | (simp only [Int32.lt_iff_toInt_lt, Int32.le_iff_toInt_le, Int32.reduceToInt, ← Int32.toInt_inj, true_and, and_true, or_true, true_or, false_or, or_false, false_and, and_false, not_true_eq_false, not_false_eq_true] <;> omega)), (by first | omega | (simp only [Int32.lt_iff_toInt_lt, Int32.le_iff_toInt_le, Int32.reduceToInt, ← Int32.toInt_inj, true_and, and_true, or_true, true_or, false_or, or_false, false_and, and_false, not_true_eq_false, not_false_eq_true] <;> omega))⟩
              have hf_3455 := (hk_3453 (q 4) (ne_kd e_2912 hf_2898 rfl)).trans e_2912
              have fr_3456 := FR.w hk_3453 hf_2898 (k := 12) rfl
              refine v_goto hC dX12_advance_114 (tgt := 83) (by decide) ?_
              have lp_3654 : ∀ (n_3655 : Nat) (f_3646 : Nat → va_E) (hW_3647 : WT T L f_3646) (hF_3648 : FR [12] f_3451 f_3646)  (nv_3650 : v_28.toInt ≤ fld (f_3646 a_0) 9) (nv_3651 : fld (f_3646 a_0) 9 < fld (f_3646 a_0) 8) (nv_3652 : fld (f_3646 a_0) 12 = v_35.toInt) (nv_3653 : fld (f_3646 a_0) 20 = v_39.toInt) (hm_3657 : 600 - fld (f_3646 a_0) 8 < (n_3655 : Int)), V z E 2 0 0 L f_3646 83 [(0, .ref a_0)] [] := by
                intro n_3655
                induction n_3655 with
                | zero =>
                  intro f_3646 hW_3647 hF_3648 nv_3650 nv_3651 nv_3652 nv_3653 hm_3657
                  have hf_3649 := hF_3648.at hf_3455 rfl
                  obtain ⟨v_3659, v_3660, v_3662, v_3664, v_3666, v_3668, v_3670, v_3671, v_3672, v_3673, v_3675, e_3658, b_3661, b_3663, b_3665, b_3667, b_3669, b_3674, b_3676⟩ := hW_3647.at m_1 t_2
                  have fe_3677 : fld (f_3646 a_0) 9 = (v_3666 : Int32).toInt := by rw [e_3658]; rfl
                  rw [fe_3677] at nv_3650
                  have fe_3678 : fld (f_3646 a_0) 8 = (v_3664 : Int32).toInt := by rw [e_3658]; rfl
                  have fe_3679 : fld (f_3646 a_0) 9 = (v_3666 : Int32).toInt := by rw [e_3658]; rfl
                  rw [fe_3678, fe_3679] at nv_3651
                  have fe_3680 : fld (f_3646 a_0) 12 = (v_3671 : Int32).toInt := by rw [e_3658]; rfl
                  rw [fe_3680] at nv_3652
                  have fe_3681 : fld (f_3646 a_0) 20 = (v_3675 : Int32).toInt := by rw [e_3658]; rfl
                  rw [fe_3681] at nv_3653
                  have h_3682 : fld (f_3646 a_0) 8 = (v_3664 : Int32).toInt := by rw [e_3658]; rfl
                  rw [h_3682] at hm_3657
                  exfalso; omega
                | succ n_3655 ih_3656 =>
                  intro f_3646 hW_3647 hF_3648 nv_3650 nv_3651 nv_3652 nv_3653 hm_3657
                  have hf_3649 := hF_3648.at hf_3455 rfl
                  obtain ⟨v_3659, v_3660, v_3662, v_3664, v_3666, v_3668, v_3670, v_3671, v_3672, v_3673, v_3675, e_3658, b_3661, b_3663, b_3665, b_3667, b_3669, b_3674, b_3676⟩ := hW_3647.at m_1 t_2
                  have fe_3677 : fld (f_3646 a_0) 9 = (v_3666 : Int32).toInt := by rw [e_3658]; rfl
                  rw [fe_3677] at nv_3650
                  have fe_3678 : fld (f_3646 a_0) 8 = (v_3664 : Int32).toInt := by rw [e_3658]; rfl
                  have fe_3679 : fld (f_3646 a_0) 9 = (v_3666 : Int32).toInt := by rw [e_3658]; rfl
                  rw [fe_3678, fe_3679] at nv_3651
                  have fe_3680 : fld (f_3646 a_0) 12 = (v_3671 : Int32).toInt := by rw [e_3658]; rfl
                  rw [fe_3680] at nv_3652
                  have fe_3681 : fld (f_3646 a_0) 20 = (v_3675 : Int32).toInt := by rw [e_3658]; rfl
                  rw [fe_3681] at nv_3653
                  have h_3682 : fld (f_3646 a_0) 8 = (v_3664 : Int32).toInt := by rw [e_3658]; rfl
                  rw [h_3682] at hm_3657
                  refine v_aload_n hC dX12_advance_83 rfl ?_
                  refine v_aload_n hC dX12_advance_84 rfl ?_
                  refine v_get hC fl_X12_108 m_1 e_3658 rfl dX12_advance_85 ?_
                  refine v_vi hC (rest := []) m_1 e_3658 rfl mi_X12_see ms_X12_see (p_X12_see hW_3647 k_0 (by first | omega | (simp only [Int32.lt_iff_toInt_lt, Int32.le_iff_toInt_le, Int32.reduceToInt, ← Int32.toInt_inj, true_and, and_true, or_true, true_or, false_or, or_false, false_and, and_false, not_true_eq_false, not_false_eq_true] <;> omega))) mx_X12_see ml_X12_114 (by decide) rfl (cells1 := 0) (slots1 := 0) (by decide) (by decide) (Nat.le_of_ble_eq_true rfl) (Nat.le_of_ble_eq_true rfl) rfl (Nat.le_of_ble_eq_true rfl) dX12_advance_88 (fun r_3683 L_3684 f_3685 h_3686 => ?_)
                  obtain ⟨rfl, rfl, rfl⟩ := h_3686
                  have sb_3689 := sv_b (f_3646 a_0) (f_3646 (q 4)) v_3664
                  have fe_3690 : fld (f_3646 a_0) 7 = (v_3662 : Int32).toInt := by rw [e_3658]; rfl
                  rw [fe_3690] at sb_3689
                  obtain ⟨v_3691, h_3692⟩ : ∃ v9 : Int64, (sv (f_3646 a_0) (f_3646 (q 4)) v_3664).toInt64 = v9 := ⟨_, rfl⟩
                  refine v_i2l hC dX12_advance_91 h_3692 ?_
                  have h_3693 : v_3691.toInt = (sv (f_3646 a_0) (f_3646 (q 4)) v_3664).toInt := by rw [← h_3692]; exact Int32.toInt_toInt64 _
                  refine v_ldc2 hC kl_X12_123 dX12_advance_92 ?_
                  refine v_ldc2 hC kl_X12_125 dX12_advance_95 ?_
                  refine v_si hC (rest := []) mt_X12_in (p_X12_in hW_3647) mx_X12_in ml_X12_79 (by decide) rfl (cells1 := 0) (slots1 := 0) (by decide) (by decide) (Nat.le_of_ble_eq_true rfl) (Nat.le_of_ble_eq_true rfl) rfl (Nat.le_of_ble_eq_true rfl) dX12_advance_98 (fun r_3694 L_3695 f_3696 h_3697 => ?_)
                  obtain ⟨rfl, rfl, b_3698, x_3699⟩ := h_3697
                  try simp only [Int32.reduceToInt, Int64.reduceToInt] at x_3699
                  refine v_if_eq hC dX12_advance_101 (tgt := 117) (by decide) (fun h_3702 => ?_) (fun h_3702 => ?_)
                  · simp only [Int32.lt_iff_toInt_lt, Int32.le_iff_toInt_le, Int32.reduceToInt, ← Int32.toInt_inj] at h_3702
                    refine v_aload_n hC dX12_advance_117 rfl ?_
                    refine v_iconst hC dX12_advance_118 (v := 1) (by decide) ?_
                    refine v_put hC fl_X12_120 m_1 e_3658 rfl rfl (Nat.le_of_ble_eq_true rfl) (fs' := [.int v_3659, .ref (q 1), .ref (q 2), .ref (q 3), .ref (q 4), .int v_3660, .ref (q 6), .int v_3662, .int v_3664, .int v_3666, .int 1, .int v_3670, .int v_3671, .int v_3672, .ref (q 14), .ref (q 15), .ref (q 16), .int v_3673, .ref (q 18), .ref (q 19), .int v_3675, .ref (q 21), .ref (q 22), .ref (q 23), .ref (q 24), .ref (q 25), .ref (q 26), .ref (q 27), .ref (q 28)]) rfl dX12_advance_119 (fun f_3703 hf_3704 hk_3705 => ?_)
                    have hW_3706 := hW_3647.up hf_3704 hk_3705 t_2 ⟨v_3659, v_3660, v_3662, v_3664, v_3666, 1, v_3670, v_3671, v_3672, v_3673, v_3675, rfl, (by first | omega | (simp only [Int32.lt_iff_toInt_lt, Int32.le_iff_toInt_le, Int32.reduceToInt, ← Int32.toInt_inj, true_and, and_true, or_true, true_or, false_or, or_false, false_and, and_false, not_true_eq_false, not_false_eq_true] <;> omega)), (by first | omega | (simp only [Int32.lt_iff_toInt_lt, Int32.le_iff_toInt_le, Int32.reduceToInt, ← Int32.toInt_inj, true_and, and_true, or_true, true_or, false_or, or_false, false_and, and_false, not_true_eq_false, not_false_eq_true] <;> omega)), (by first | omega | (simp only [Int32.lt_iff_toInt_lt, Int32.le_iff_toInt_le, Int32.reduceToInt, ← Int32.toInt_inj, true_and, and_true, or_true, true_or, false_or, or_false, false_and, and_false, not_true_eq_false, not_false_eq_true] <;> omega)), (by first | omega | (simp only [Int32.lt_iff_toInt_lt, Int32.le_iff_toInt_le, Int32.reduceToInt, ← Int32.toInt_inj, true_and, and_true, or_true, true_or, false_or, or_false, false_and, and_false, not_true_eq_false, not_false_eq_true] <;> omega)), (by decide), (by first | omega | (simp only [Int32.lt_iff_toInt_lt, Int32.le_iff_toInt_le, Int32.reduceToInt, ← Int32.toInt_inj, true_and, and_true, or_true, true_or, false_or, or_false, false_and, and_false, not_true_eq_false, not_false_eq_true] <;> omega)), (by first | omega | (simp only [Int32.lt_iff_toInt_lt, Int32.le_iff_toInt_le, Int32.reduceToInt, ← Int32.toInt_inj, true_and, and_true, or_true, true_or, false_or, or_false, false_and, and_false, not_true_eq_false, not_false_eq_true] <;> omega))⟩
                    have hf_3707 := (hk_3705 (q 4) (ne_kd hf_3649 e_3658 rfl)).trans hf_3649
                    have fr_3708 := FR.w hk_3705 e_3658 (k := 12) rfl
                    refine v_goto hC dX12_advance_122 (tgt := 240) (by decide) ?_
                    have fe_3709 : fld (f_3703 a_0) 8 = (v_3664 : Int32).toInt := by rw [hf_3704]; rfl
                    have fe_3710 : fld (f_3703 a_0) 9 = (v_3666 : Int32).toInt := by rw [hf_3704]; rfl
                    have fe_3711 : fld (f_3703 a_0) 8 = (v_3664 : Int32).toInt := by rw [hf_3704]; rfl
                    have fe_3712 : fld (f_3703 a_0) 9 = (v_3666 : Int32).toInt := by rw [hf_3704]; rfl
                    have fe_3713 : fld (f_3703 a_0) 10 = (1 : Int32).toInt := by rw [hf_3704]; rfl
                    simp only [Int32.reduceToInt] at fe_3713
                    have fe_3714 : fld (f_3703 a_0) 12 = (v_3671 : Int32).toInt := by rw [hf_3704]; rfl
                    have fe_3715 : fld (f_3703 a_0) 20 = (v_3675 : Int32).toInt := by rw [hf_3704]; rfl
                    exact hR _ _ _ _ _ _ dX12_advance_240 (Nat.le_of_ble_eq_true rfl) (Nat.le_of_ble_eq_true rfl) ⟨rfl, hW_3706, (((((hF_2812.tr fr_2901).tr fr_3456).tr hF_3648).tr fr_3708).mono rfl), (by simp only [fe_3709, fe_3710, mz_41, true_and, and_true, or_true, true_or, false_or, or_false, false_and, and_false, not_true_eq_false, not_false_eq_true] <;> first | omega | (simp only [Int32.lt_iff_toInt_lt, Int32.le_iff_toInt_le, Int32.reduceToInt, ← Int32.toInt_inj, true_and, and_true, or_true, true_or, false_or, or_false, false_and, and_false, not_true_eq_false, not_false_eq_true] <;> omega)), (by simp only [fe_3711, fe_3712, fe_3713, true_and, and_true, or_true, true_or, false_or, or_false, false_and, and_false, not_true_eq_false, not_false_eq_true] <;> first | omega | (simp only [Int32.lt_iff_toInt_lt, Int32.le_iff_toInt_le, Int32.reduceToInt, ← Int32.toInt_inj, true_and, and_true, or_true, true_or, false_or, or_false, false_and, and_false, not_true_eq_false, not_false_eq_true] <;> omega)), (by simp only [fe_3714, mz_42, true_and, and_true, or_true, true_or, false_or, or_false, false_and, and_false, not_true_eq_false, not_false_eq_true] <;> first | omega | (simp only [Int32.lt_iff_toInt_lt, Int32.le_iff_toInt_le, Int32.reduceToInt, ← Int32.toInt_inj, true_and, and_true, or_true, true_or, false_or, or_false, false_and, and_false, not_true_eq_false, not_false_eq_true] <;> omega)), (by simp only [fe_3715, mz_43, true_and, and_true, or_true, true_or, false_or, or_false, false_and, and_false, not_true_eq_false, not_false_eq_true] <;> first | omega | (simp only [Int32.lt_iff_toInt_lt, Int32.le_iff_toInt_le, Int32.reduceToInt, ← Int32.toInt_inj, true_and, and_true, or_true, true_or, false_or, or_false, false_and, and_false, not_true_eq_false, not_false_eq_true] <;> omega))⟩
                  · simp only [Int32.lt_iff_toInt_lt, Int32.le_iff_toInt_le, Int32.reduceToInt, ← Int32.toInt_inj] at h_3702
                    refine v_aload_n hC dX12_advance_104 rfl ?_
                    refine v_dup hC dX12_advance_105 rfl ?_
                    refine v_get hC fl_X12_108 m_1 e_3658 rfl dX12_advance_106 ?_
                    refine v_iconst hC dX12_advance_109 (v := 1) (by decide) ?_
                    obtain ⟨v_3716, h_3717⟩ : ∃ v9 : Int32, v_3664 + 1 = v9 := ⟨_, rfl⟩
                    refine v_iadd hC dX12_advance_110 h_3717 ?_
                    have h_3718 := add_v h_3717 (by first | omega | (simp only [Int32.lt_iff_toInt_lt, Int32.le_iff_toInt_le, Int32.reduceToInt, ← Int32.toInt_inj, true_and, and_true, or_true, true_or, false_or, or_false, false_and, and_false, not_true_eq_false, not_false_eq_true] <;> omega)) (by first | omega | (simp only [Int32.lt_iff_toInt_lt, Int32.le_iff_toInt_le, Int32.reduceToInt, ← Int32.toInt_inj, true_and, and_true, or_true, true_or, false_or, or_false, false_and, and_false, not_true_eq_false, not_false_eq_true] <;> omega))
                    try simp only [Int32.reduceToInt] at h_3718
                    refine v_put hC fl_X12_108 m_1 e_3658 rfl rfl (Nat.le_of_ble_eq_true rfl) (fs' := [.int v_3659, .ref (q 1), .ref (q 2), .ref (q 3), .ref (q 4), .int v_3660, .ref (q 6), .int v_3662, .int v_3716, .int v_3666, .int v_3668, .int v_3670, .int v_3671, .int v_3672, .ref (q 14), .ref (q 15), .ref (q 16), .int v_3673, .ref (q 18), .ref (q 19), .int v_3675, .ref (q 21), .ref (q 22), .ref (q 23), .ref (q 24), .ref (q 25), .ref (q 26), .ref (q 27), .ref (q 28)]) rfl dX12_advance_111 (fun f_3719 hf_3720 hk_3721 => ?_)
                    have hW_3722 := hW_3647.up hf_3720 hk_3721 t_2 ⟨v_3659, v_3660, v_3662, v_3716, v_3666, v_3668, v_3670, v_3671, v_3672, v_3673, v_3675, rfl, (by first | omega | (simp only [Int32.lt_iff_toInt_lt, Int32.le_iff_toInt_le, Int32.reduceToInt, ← Int32.toInt_inj, true_and, and_true, or_true, true_or, false_or, or_false, false_and, and_false, not_true_eq_false, not_false_eq_true] <;> omega)), (by first | omega | (simp only [Int32.lt_iff_toInt_lt, Int32.le_iff_toInt_le, Int32.reduceToInt, ← Int32.toInt_inj, true_and, and_true, or_true, true_or, false_or, or_false, false_and, and_false, not_true_eq_false, not_false_eq_true] <;> omega)), (by first | omega | (simp only [Int32.lt_iff_toInt_lt, Int32.le_iff_toInt_le, Int32.reduceToInt, ← Int32.toInt_inj, true_and, and_true, or_true, true_or, false_or, or_false, false_and, and_false, not_true_eq_false, not_false_eq_true] <;> omega)), (by first | omega | (simp only [Int32.lt_iff_toInt_lt, Int32.le_iff_toInt_le, Int32.reduceToInt, ← Int32.toInt_inj, true_and, and_true, or_true, true_or, false_or, or_false, false_and, and_false, not_true_eq_false, not_false_eq_true] <;> omega)), (by first | omega | (simp only [Int32.lt_iff_toInt_lt, Int32.le_iff_toInt_le, Int32.reduceToInt, ← Int32.toInt_inj, true_and, and_true, or_true, true_or, false_or, or_false, false_and, and_false, not_true_eq_false, not_false_eq_true] <;> omega)), (by first | omega | (simp only [Int32.lt_iff_toInt_lt, Int32.le_iff_toInt_le, Int32.reduceToInt, ← Int32.toInt_inj, true_and, and_true, or_true, true_or, false_or, or_false, false_and, and_false, not_true_eq_false, not_false_eq_true] <;> omega)), (by first | omega | (simp only [Int32.lt_iff_toInt_lt, Int32.le_iff_toInt_le, Int32.reduceToInt, ← Int32.toInt_inj, true_and, and_true, or_true, true_or, false_or, or_false, false_and, and_false, not_true_eq_false, not_false_eq_true] <;> omega))⟩
                    have hf_3723 := (hk_3721 (q 4) (ne_kd hf_3649 e_3658 rfl)).trans hf_3649
                    have fr_3724 := FR.w hk_3721 e_3658 (k := 12) rfl
                    refine v_goto hC dX12_advance_114 (tgt := 83) (by decide) ?_
                    refine v_pick [0] rfl ?_
                    have fe_3725 : fld (f_3719 a_0) 9 = (v_3666 : Int32).toInt := by rw [hf_3720]; rfl
                    have fe_3726 : fld (f_3719 a_0) 8 = (v_3716 : Int32).toInt := by rw [hf_3720]; rfl
                    have fe_3727 : fld (f_3719 a_0) 9 = (v_3666 : Int32).toInt := by rw [hf_3720]; rfl
                    have fe_3728 : fld (f_3719 a_0) 12 = (v_3671 : Int32).toInt := by rw [hf_3720]; rfl
                    have fe_3729 : fld (f_3719 a_0) 20 = (v_3675 : Int32).toInt := by rw [hf_3720]; rfl
                    have h_3730 : fld (f_3719 a_0) 8 = (v_3716 : Int32).toInt := by rw [hf_3720]; rfl
                    exact ih_3656 f_3719 hW_3722 ((hF_3648.tr fr_3724).mono rfl) (by rw [fe_3725] <;> first | omega | (simp only [Int32.lt_iff_toInt_lt, Int32.le_iff_toInt_le, Int32.reduceToInt, ← Int32.toInt_inj, true_and, and_true, or_true, true_or, false_or, or_false, false_and, and_false, not_true_eq_false, not_false_eq_true] <;> omega)) (by rw [fe_3726, fe_3727] <;> first | omega | (simp only [Int32.lt_iff_toInt_lt, Int32.le_iff_toInt_le, Int32.reduceToInt, ← Int32.toInt_inj, true_and, and_true, or_true, true_or, false_or, or_false, false_and, and_false, not_true_eq_false, not_false_eq_true] <;> omega)) (by rw [fe_3728] <;> first | omega | (simp only [Int32.lt_iff_toInt_lt, Int32.le_iff_toInt_le, Int32.reduceToInt, ← Int32.toInt_inj, true_and, and_true, or_true, true_or, false_or, or_false, false_and, and_false, not_true_eq_false, not_false_eq_true] <;> omega)) (by rw [fe_3729] <;> first | omega | (simp only [Int32.lt_iff_toInt_lt, Int32.le_iff_toInt_le, Int32.reduceToInt, ← Int32.toInt_inj, true_and, and_true, or_true, true_or, false_or, or_false, false_and, and_false, not_true_eq_false, not_false_eq_true] <;> omega)) (by rw [h_3730]; omega)
              refine v_pick [1] rfl ?_
              have fe_3731 : fld (f_3451 a_0) 9 = (v_2826 : Int32).toInt := by rw [hf_3452]; rfl
              have fe_3732 : fld (f_3451 a_0) 8 = (v_3448 : Int32).toInt := by rw [hf_3452]; rfl
              have fe_3733 : fld (f_3451 a_0) 9 = (v_2826 : Int32).toInt := by rw [hf_3452]; rfl
              have fe_3734 : fld (f_3451 a_0) 12 = (v_2833 : Int32).toInt := by rw [hf_3452]; rfl
              have fe_3735 : fld (f_3451 a_0) 20 = (v_2837 : Int32).toInt := by rw [hf_3452]; rfl
              have h_3736 : fld (f_3451 a_0) 8 = (v_3448 : Int32).toInt := by rw [hf_3452]; rfl
              exact lp_3654 602 f_3451 hW_3454 FR.rf (by rw [fe_3731] <;> first | omega | (simp only [Int32.lt_iff_toInt_lt, Int32.le_iff_toInt_le, Int32.reduceToInt, ← Int32.toInt_inj, true_and, and_true, or_true, true_or, false_or, or_false, false_and, and_false, not_true_eq_false, not_false_eq_true] <;> omega)) (by rw [fe_3732, fe_3733] <;> first | omega | (simp only [Int32.lt_iff_toInt_lt, Int32.le_iff_toInt_le, Int32.reduceToInt, ← Int32.toInt_inj, true_and, and_true, or_true, true_or, false_or, or_false, false_and, and_false, not_true_eq_false, not_false_eq_true] <;> omega)) (by rw [fe_3734] <;> first | omega | (simp only [Int32.lt_iff_toInt_lt, Int32.le_iff_toInt_le, Int32.reduceToInt, ← Int32.toInt_inj, true_and, and_true, or_true, true_or, false_or, or_false, false_and, and_false, not_true_eq_false, not_false_eq_true] <;> omega)) (by rw [fe_3735] <;> first | omega | (simp only [Int32.lt_iff_toInt_lt, Int32.le_iff_toInt_le, Int32.reduceToInt, ← Int32.toInt_inj, true_and, and_true, or_true, true_or, false_or, or_false, false_and, and_false, not_true_eq_false, not_false_eq_true] <;> omega)) (by rw [h_3736]; omega)
          · simp only [Int32.lt_iff_toInt_lt, Int32.le_iff_toInt_le, Int32.reduceToInt, ← Int32.toInt_inj] at h_2916
            refine v_aload_n hC dX12_advance_61 rfl ?_
            refine v_iconst hC dX12_advance_62 (v := 0) (by decide) ?_
            refine v_put hC fl_X12_120 m_1 hf_2898 rfl rfl (Nat.le_of_ble_eq_true rfl) (fs' := [.int v_2821, .ref (q 1), .ref (q 2), .ref (q 3), .ref (q 4), .int v_2822, .ref (q 6), .int v_2824, .int v_2826, .int v_2826, .int 0, .int v_2832, .int v_2833, .int v_2834, .ref (q 14), .ref (q 15), .ref (q 16), .int v_2835, .ref (q 18), .ref (q 19), .int v_2837, .ref (q 21), .ref (q 22), .ref (q 23), .ref (q 24), .ref (q 25), .ref (q 26), .ref (q 27), .ref (q 28)]) rfl dX12_advance_63 (fun f_3737 hf_3738 hk_3739 => ?_)
            have hW_3740 := hW_2900.up hf_3738 hk_3739 t_2 ⟨v_2821, v_2822, v_2824, v_2826, v_2826, 0, v_2832, v_2833, v_2834, v_2835, v_2837, rfl, (by first | omega | (simp only [Int32.lt_iff_toInt_lt, Int32.le_iff_toInt_le, Int32.reduceToInt, ← Int32.toInt_inj, true_and, and_true, or_true, true_or, false_or, or_false, false_and, and_false, not_true_eq_false, not_false_eq_true] <;> omega)), (by first | omega | (simp only [Int32.lt_iff_toInt_lt, Int32.le_iff_toInt_le, Int32.reduceToInt, ← Int32.toInt_inj, true_and, and_true, or_true, true_or, false_or, or_false, false_and, and_false, not_true_eq_false, not_false_eq_true] <;> omega)), (by first | omega | (simp only [Int32.lt_iff_toInt_lt, Int32.le_iff_toInt_le, Int32.reduceToInt, ← Int32.toInt_inj, true_and, and_true, or_true, true_or, false_or, or_false, false_and, and_false, not_true_eq_false, not_false_eq_true] <;> omega)), (by first | omega | (simp only [Int32.lt_iff_toInt_lt, Int32.le_iff_toInt_le, Int32.reduceToInt, ← Int32.toInt_inj, true_and, and_true, or_true, true_or, false_or, or_false, false_and, and_false, not_true_eq_false, not_false_eq_true] <;> omega)), (by decide), (by first | omega | (simp only [Int32.lt_iff_toInt_lt, Int32.le_iff_toInt_le, Int32.reduceToInt, ← Int32.toInt_inj, true_and, and_true, or_true, true_or, false_or, or_false, false_and, and_false, not_true_eq_false, not_false_eq_true] <;> omega)), (by first | omega | (simp only [Int32.lt_iff_toInt_lt, Int32.le_iff_toInt_le, Int32.reduceToInt, ← Int32.toInt_inj, true_and, and_true, or_true, true_or, false_or, or_false, false_and, and_false, not_true_eq_false, not_false_eq_true] <;> omega))⟩
            have hf_3741 := (hk_3739 (q 4) (ne_kd e_2912 hf_2898 rfl)).trans e_2912
            have fr_3742 := FR.w hk_3739 hf_2898 (k := 12) rfl
            refine v_goto hC dX12_advance_66 (tgt := 240) (by decide) ?_
            have fe_3743 : fld (f_3737 a_0) 8 = (v_2826 : Int32).toInt := by rw [hf_3738]; rfl
            have fe_3744 : fld (f_3737 a_0) 9 = (v_2826 : Int32).toInt := by rw [hf_3738]; rfl
            have fe_3745 : fld (f_3737 a_0) 8 = (v_2826 : Int32).toInt := by rw [hf_3738]; rfl
            have fe_3746 : fld (f_3737 a_0) 9 = (v_2826 : Int32).toInt := by rw [hf_3738]; rfl
            have fe_3747 : fld (f_3737 a_0) 10 = (0 : Int32).toInt := by rw [hf_3738]; rfl
            simp only [Int32.reduceToInt] at fe_3747
            have fe_3748 : fld (f_3737 a_0) 12 = (v_2833 : Int32).toInt := by rw [hf_3738]; rfl
            have fe_3749 : fld (f_3737 a_0) 20 = (v_2837 : Int32).toInt := by rw [hf_3738]; rfl
            exact hR _ _ _ _ _ _ dX12_advance_240 (Nat.le_of_ble_eq_true rfl) (Nat.le_of_ble_eq_true rfl) ⟨rfl, hW_3740, (((hF_2812.tr fr_2901).tr fr_3742).mono rfl), (by simp only [fe_3743, fe_3744, mz_41, true_and, and_true, or_true, true_or, false_or, or_false, false_and, and_false, not_true_eq_false, not_false_eq_true] <;> first | omega | (simp only [Int32.lt_iff_toInt_lt, Int32.le_iff_toInt_le, Int32.reduceToInt, ← Int32.toInt_inj, true_and, and_true, or_true, true_or, false_or, or_false, false_and, and_false, not_true_eq_false, not_false_eq_true] <;> omega)), (by simp only [fe_3745, fe_3746, fe_3747, true_and, and_true, or_true, true_or, false_or, or_false, false_and, and_false, not_true_eq_false, not_false_eq_true] <;> first | omega | (simp only [Int32.lt_iff_toInt_lt, Int32.le_iff_toInt_le, Int32.reduceToInt, ← Int32.toInt_inj, true_and, and_true, or_true, true_or, false_or, or_false, false_and, and_false, not_true_eq_false, not_false_eq_true] <;> omega)), (by simp only [fe_3748, mz_42, true_and, and_true, or_true, true_or, false_or, or_false, false_and, and_false, not_true_eq_false, not_false_eq_true] <;> first | omega | (simp only [Int32.lt_iff_toInt_lt, Int32.le_iff_toInt_le, Int32.reduceToInt, ← Int32.toInt_inj, true_and, and_true, or_true, true_or, false_or, or_false, false_and, and_false, not_true_eq_false, not_false_eq_true] <;> omega)), (by simp only [fe_3749, mz_43, true_and, and_true, or_true, true_or, false_or, or_false, false_and, and_false, not_true_eq_false, not_false_eq_true] <;> first | omega | (simp only [Int32.lt_iff_toInt_lt, Int32.le_iff_toInt_le, Int32.reduceToInt, ← Int32.toInt_inj, true_and, and_true, or_true, true_or, false_or, or_false, false_and, and_false, not_true_eq_false, not_false_eq_true] <;> omega))⟩
        · simp only [Int32.lt_iff_toInt_lt, Int32.le_iff_toInt_le, Int32.reduceToInt, ← Int32.toInt_inj] at h_2884
          refine v_aload_n hC dX12_advance_26 rfl ?_
          refine v_dup hC dX12_advance_27 rfl ?_
          refine v_get hC fl_X12_108 m_1 e_2820 rfl dX12_advance_28 ?_
          refine v_iconst hC dX12_advance_31 (v := 1) (by decide) ?_
          obtain ⟨v_3750, h_3751⟩ : ∃ v9 : Int32, v_2826 + 1 = v9 := ⟨_, rfl⟩
          refine v_iadd hC dX12_advance_32 h_3751 ?_
          have h_3752 := add_v h_3751 (by first | omega | (simp only [Int32.lt_iff_toInt_lt, Int32.le_iff_toInt_le, Int32.reduceToInt, ← Int32.toInt_inj, true_and, and_true, or_true, true_or, false_or, or_false, false_and, and_false, not_true_eq_false, not_false_eq_true] <;> omega)) (by first | omega | (simp only [Int32.lt_iff_toInt_lt, Int32.le_iff_toInt_le, Int32.reduceToInt, ← Int32.toInt_inj, true_and, and_true, or_true, true_or, false_or, or_false, false_and, and_false, not_true_eq_false, not_false_eq_true] <;> omega))
          try simp only [Int32.reduceToInt] at h_3752
          refine v_put hC fl_X12_108 m_1 e_2820 rfl rfl (Nat.le_of_ble_eq_true rfl) (fs' := [.int v_2821, .ref (q 1), .ref (q 2), .ref (q 3), .ref (q 4), .int v_2822, .ref (q 6), .int v_2824, .int v_3750, .int v_2828, .int v_2830, .int v_2832, .int v_2833, .int v_2834, .ref (q 14), .ref (q 15), .ref (q 16), .int v_2835, .ref (q 18), .ref (q 19), .int v_2837, .ref (q 21), .ref (q 22), .ref (q 23), .ref (q 24), .ref (q 25), .ref (q 26), .ref (q 27), .ref (q 28)]) rfl dX12_advance_33 (fun f_3753 hf_3754 hk_3755 => ?_)
          have hW_3756 := hW_2811.up hf_3754 hk_3755 t_2 ⟨v_2821, v_2822, v_2824, v_3750, v_2828, v_2830, v_2832, v_2833, v_2834, v_2835, v_2837, rfl, (by first | omega | (simp only [Int32.lt_iff_toInt_lt, Int32.le_iff_toInt_le, Int32.reduceToInt, ← Int32.toInt_inj, true_and, and_true, or_true, true_or, false_or, or_false, false_and, and_false, not_true_eq_false, not_false_eq_true] <;> omega)), (by first | omega | (simp only [Int32.lt_iff_toInt_lt, Int32.le_iff_toInt_le, Int32.reduceToInt, ← Int32.toInt_inj, true_and, and_true, or_true, true_or, false_or, or_false, false_and, and_false, not_true_eq_false, not_false_eq_true] <;> omega)), (by first | omega | (simp only [Int32.lt_iff_toInt_lt, Int32.le_iff_toInt_le, Int32.reduceToInt, ← Int32.toInt_inj, true_and, and_true, or_true, true_or, false_or, or_false, false_and, and_false, not_true_eq_false, not_false_eq_true] <;> omega)), (by first | omega | (simp only [Int32.lt_iff_toInt_lt, Int32.le_iff_toInt_le, Int32.reduceToInt, ← Int32.toInt_inj, true_and, and_true, or_true, true_or, false_or, or_false, false_and, and_false, not_true_eq_false, not_false_eq_true] <;> omega)), (by first | omega | (simp only [Int32.lt_iff_toInt_lt, Int32.le_iff_toInt_le, Int32.reduceToInt, ← Int32.toInt_inj, true_and, and_true, or_true, true_or, false_or, or_false, false_and, and_false, not_true_eq_false, not_false_eq_true] <;> omega)), (by first | omega | (simp only [Int32.lt_iff_toInt_lt, Int32.le_iff_toInt_le, Int32.reduceToInt, ← Int32.toInt_inj, true_and, and_true, or_true, true_or, false_or, or_false, false_and, and_false, not_true_eq_false, not_false_eq_true] <;> omega)), (by first | omega | (simp only [Int32.lt_iff_toInt_lt, Int32.le_iff_toInt_le, Int32.reduceToInt, ← Int32.toInt_inj, true_and, and_true, or_true, true_or, false_or, or_false, false_and, and_false, not_true_eq_false, not_false_eq_true] <;> omega))⟩
          have fr_3757 := FR.w hk_3755 e_2820 (k := 12) rfl
          refine v_goto hC dX12_advance_36 (tgt := 0) (by decide) ?_
          refine v_pick [0] rfl ?_
          have fe_3758 : fld (f_3753 a_0) 8 = (v_3750 : Int32).toInt := by rw [hf_3754]; rfl
          have fe_3759 : fld (f_3753 a_0) 12 = (v_2833 : Int32).toInt := by rw [hf_3754]; rfl
          have fe_3760 : fld (f_3753 a_0) 20 = (v_2837 : Int32).toInt := by rw [hf_3754]; rfl
          have h_3761 : fld (f_3753 a_0) 8 = (v_3750 : Int32).toInt := by rw [hf_3754]; rfl
          exact ih_2818 f_3753 hW_3756 ((hF_2812.tr fr_3757).mono rfl) (by rw [fe_3758] <;> first | omega | (simp only [Int32.lt_iff_toInt_lt, Int32.le_iff_toInt_le, Int32.reduceToInt, ← Int32.toInt_inj, true_and, and_true, or_true, true_or, false_or, or_false, false_and, and_false, not_true_eq_false, not_false_eq_true] <;> omega)) (by rw [fe_3759] <;> first | omega | (simp only [Int32.lt_iff_toInt_lt, Int32.le_iff_toInt_le, Int32.reduceToInt, ← Int32.toInt_inj, true_and, and_true, or_true, true_or, false_or, or_false, false_and, and_false, not_true_eq_false, not_false_eq_true] <;> omega)) (by rw [fe_3760] <;> first | omega | (simp only [Int32.lt_iff_toInt_lt, Int32.le_iff_toInt_le, Int32.reduceToInt, ← Int32.toInt_inj, true_and, and_true, or_true, true_or, false_or, or_false, false_and, and_false, not_true_eq_false, not_false_eq_true] <;> omega)) (by rw [h_3761]; omega)
  refine v_pick [0] rfl ?_
  have fe_3762 : fld (f a_0) 8 = (v_28 : Int32).toInt := by rw [e_22]; rfl
  have fe_3763 : fld (f a_0) 12 = (v_35 : Int32).toInt := by rw [e_22]; rfl
  have fe_3764 : fld (f a_0) 20 = (v_39 : Int32).toInt := by rw [e_22]; rfl
  have h_3765 : fld (f a_0) 8 = (v_28 : Int32).toInt := by rw [e_22]; rfl
  exact lp_2816 602 f hW FR.rf (by rw [fe_3762] <;> first | omega | (simp only [Int32.lt_iff_toInt_lt, Int32.le_iff_toInt_le, Int32.reduceToInt, ← Int32.toInt_inj, true_and, and_true, or_true, true_or, false_or, or_false, false_and, and_false, not_true_eq_false, not_false_eq_true] <;> omega)) (by rw [fe_3763] <;> first | omega | (simp only [Int32.lt_iff_toInt_lt, Int32.le_iff_toInt_le, Int32.reduceToInt, ← Int32.toInt_inj, true_and, and_true, or_true, true_or, false_or, or_false, false_and, and_false, not_true_eq_false, not_false_eq_true] <;> omega)) (by rw [fe_3764] <;> first | omega | (simp only [Int32.lt_iff_toInt_lt, Int32.le_iff_toInt_le, Int32.reduceToInt, ← Int32.toInt_inj, true_and, and_true, or_true, true_or, false_or, or_false, false_and, and_false, not_true_eq_false, not_false_eq_true] <;> omega)) (by rw [h_3765]; omega)
set_option maxRecDepth 100000 in
set_option maxHeartbeats 8000000 in
theorem p_X12_good {l : Launch} {E : Ez} {L : List Nat} {f : Nat → va_E} {T : Nat → va_E → Prop} {a_0 : Nat} {q : Nat → Nat} (hW : WT T L f) (k_0 : isM T L E a_0 q) : CI l yX12_good cX12_good 1 .boolean 0 0 0 E [.ref a_0] L f (fun r L1 f1 => L = L1 ∧ f = f1 ∧ (0 ≤ r.toInt ∧ r.toInt ≤ 1) ∧ ((r.toInt = 1 ∧ fld (f a_0) 12 = 0) ∨ (r.toInt = 0 ∧ ¬ fld (f a_0) 12 = 0))) := by
  refine ci_of (by decide) (Nat.le_of_ble_eq_true rfl) (fun z hz hnm hC hR => ?_)
  have hC : Cx z E cX12_good RX12 1 0 0 0 := hC
  subst hz
  show V z E 1 0 0 L f 0 [(0, .ref a_0)] []
  obtain ⟨m_1, t_2, nq_21, k_3, k_4, k_5, k_6, k_7, k_8, k_9, k_10, k_11, k_12, k_13, k_14, k_15, k_16, k_17, k_18, k_19, k_20⟩ := id k_0
  obtain ⟨v_23, v_24, v_26, v_28, v_30, v_32, v_34, v_35, v_36, v_37, v_39, e_22, b_25, b_27, b_29, b_31, b_33, b_38, b_40⟩ := hW.at m_1 t_2
  have mz_41 : fld (f a_0) 12 = v_35.toInt := by rw [e_22]; rfl
  refine v_aload_n hC dX12_good_0 rfl ?_
  refine v_get hC fl_X12_111 m_1 e_22 rfl dX12_good_1 ?_
  refine v_if_ne hC dX12_good_4 (tgt := 11) (by decide) (fun h_42 => ?_) (fun h_42 => ?_)
  · simp only [Int32.lt_iff_toInt_lt, Int32.le_iff_toInt_le, Int32.reduceToInt, ← Int32.toInt_inj] at h_42
    refine v_iconst hC dX12_good_11 (v := 0) (by decide) ?_
    exact hR _ _ _ _ _ _ _ dX12_good_12 rfl (Nat.le_of_ble_eq_true rfl) (Nat.le_of_ble_eq_true rfl) ⟨rfl, rfl, (by decide), (by simp only [mz_41, true_and, and_true, or_true, true_or, false_or, or_false, false_and, and_false, not_true_eq_false, not_false_eq_true] <;> first | omega | (simp only [Int32.lt_iff_toInt_lt, Int32.le_iff_toInt_le, Int32.reduceToInt, ← Int32.toInt_inj, true_and, and_true, or_true, true_or, false_or, or_false, false_and, and_false, not_true_eq_false, not_false_eq_true] <;> omega))⟩
  · simp only [Int32.lt_iff_toInt_lt, Int32.le_iff_toInt_le, Int32.reduceToInt, ← Int32.toInt_inj] at h_42
    refine v_iconst hC dX12_good_7 (v := 1) (by decide) ?_
    refine v_goto hC dX12_good_8 (tgt := 12) (by decide) ?_
    exact hR _ _ _ _ _ _ _ dX12_good_12 rfl (Nat.le_of_ble_eq_true rfl) (Nat.le_of_ble_eq_true rfl) ⟨rfl, rfl, (by decide), (by simp only [mz_41, true_and, and_true, or_true, true_or, false_or, or_false, false_and, and_false, not_true_eq_false, not_false_eq_true] <;> first | omega | (simp only [Int32.lt_iff_toInt_lt, Int32.le_iff_toInt_le, Int32.reduceToInt, ← Int32.toInt_inj, true_and, and_true, or_true, true_or, false_or, or_false, false_and, and_false, not_true_eq_false, not_false_eq_true] <;> omega))⟩
set_option maxRecDepth 100000 in
set_option maxHeartbeats 8000000 in
theorem p_J0_coder_7d493 {l : Launch} {E : Ez} {L : List Nat} {f : Nat → va_E} {T : Nat → va_E → Prop} {a_0 : Nat} (hW : WT T L f) (ha_0 : a_0 < 77) : CI l yJ0_coder_7d493 cJ0_coder_7d493 1 .byte 0 0 0 E [.ref (eK E a_0)] L f (fun r L1 f1 => L = L1 ∧ f = f1 ∧ (0 ≤ r.toInt ∧ r.toInt ≤ 0) ∧ narrow .byte (.int r) = .int r) := by
  refine ci_of (by decide) (Nat.le_of_ble_eq_true rfl) (fun z hz hnm hC hR => ?_)
  have hC : Cx z E cJ0_coder_7d493 RJ0 1 0 0 0 := hC
  subst hz
  show V z E 1 0 0 L f 0 [(0, .ref (eK E a_0))] []
  refine v_getCS hC sf_J0_38 dJ0_coder_7d493_0 ?_
  refine v_if_eq_f hC dJ0_coder_7d493_3 (tgt := 13) (by decide) (by decide) ?_
  refine v_aload_n hC dJ0_coder_7d493_6 rfl ?_
  refine v_getSc hC ha_0 sf_J0_15 dJ0_coder_7d493_7 ?_
  refine v_goto hC dJ0_coder_7d493_10 (tgt := 14) (by decide) ?_
  exact hR _ _ _ _ _ _ _ dJ0_coder_7d493_14 rfl (Nat.le_of_ble_eq_true rfl) (Nat.le_of_ble_eq_true rfl) ⟨rfl, rfl, (by decide), rfl⟩
set_option maxRecDepth 100000 in
set_option maxHeartbeats 8000000 in
theorem p_J0_length_8abf5 {l : Launch} {E : Ez} {L : List Nat} {f : Nat → va_E} {T : Nat → va_E → Prop} {a_0 : Nat} (hW : WT T L f) (ha_0 : a_0 < 77) : CI l yJ0_length_8abf5 cJ0_length_8abf5 1 .int 1 0 0 E [.ref (eK E a_0)] L f (fun r L1 f1 => L = L1 ∧ f = f1 ∧ (0 ≤ r.toInt ∧ r.toInt ≤ 40) ∧ r.toInt = ((bytStr.getD a_0 []).length : Int)) := by
  refine ci_of (by decide) (Nat.le_of_ble_eq_true rfl) (fun z hz hnm hC hR => ?_)
  have hC : Cx z E cJ0_length_8abf5 RJ0 1 1 0 0 := hC
  subst hz
  show V z E 1 0 0 L f 0 [(0, .ref (eK E a_0))] []
  refine v_aload_n hC dJ0_length_8abf5_0 rfl ?_
  refine v_getSv hC ha_0 sf_J0_9 dJ0_length_8abf5_1 ?_
  obtain ⟨v_1, h_2⟩ : ∃ v9 : Int32, nI (bytStr.getD a_0 []).length = v9 := ⟨_, rfl⟩
  refine v_alenS hC ha_0 dJ0_length_8abf5_4 ?_
  have b_3 := len_v ha_0
  rw [h_2] at b_3 ⊢
  refine v_aload_n hC dJ0_length_8abf5_5 rfl ?_
  refine v_viS hC (rest := [.int v_1]) ha_0 rfl mi_J0_coder_7d493 ms_J0_coder_7d493 (p_J0_coder_7d493 hW ha_0) mx_J0_coder_7d493 ml_J0_335 (by decide) rfl (cells1 := 0) (slots1 := 0) (by decide) (by decide) (Nat.le_of_ble_eq_true rfl) (Nat.le_of_ble_eq_true rfl) rfl (Nat.le_of_ble_eq_true rfl) dJ0_length_8abf5_6 (fun r_4 L_5 f_6 h_7 => ?_)
  obtain ⟨rfl, rfl, b_8, nr_9⟩ := h_7
  obtain rfl : r_4 = 0 := Int32.toInt_inj.mp (by simp only [Int32.reduceToInt]; omega)
  refine v_ishr hC dJ0_length_8abf5_9 (sb_shr0 _) ?_
  exact hR _ _ _ _ _ _ _ dJ0_length_8abf5_10 rfl (Nat.le_of_ble_eq_true rfl) (Nat.le_of_ble_eq_true rfl) ⟨rfl, rfl, (by first | omega | (simp only [Int32.lt_iff_toInt_lt, Int32.le_iff_toInt_le, Int32.reduceToInt, ← Int32.toInt_inj, true_and, and_true, or_true, true_or, false_or, or_false, false_and, and_false, not_true_eq_false, not_false_eq_true] <;> omega)), (by first | omega | (simp only [Int32.lt_iff_toInt_lt, Int32.le_iff_toInt_le, Int32.reduceToInt, ← Int32.toInt_inj, true_and, and_true, or_true, true_or, false_or, or_false, false_and, and_false, not_true_eq_false, not_false_eq_true] <;> omega))⟩
set_option maxRecDepth 100000 in
set_option maxHeartbeats 8000000 in
theorem p_J0_isLatin1_aae02 {l : Launch} {E : Ez} {L : List Nat} {f : Nat → va_E} {T : Nat → va_E → Prop} {a_0 : Nat} (hW : WT T L f) (ha_0 : a_0 < 77) : CI l yJ0_isLatin1_aae02 cJ0_isLatin1_aae02 1 .boolean 0 0 0 E [.ref (eK E a_0)] L f (fun r L1 f1 => L = L1 ∧ f = f1 ∧ (1 ≤ r.toInt ∧ r.toInt ≤ 1)) := by
  refine ci_of (by decide) (Nat.le_of_ble_eq_true rfl) (fun z hz hnm hC hR => ?_)
  have hC : Cx z E cJ0_isLatin1_aae02 RJ0 1 0 0 0 := hC
  subst hz
  show V z E 1 0 0 L f 0 [(0, .ref (eK E a_0))] []
  refine v_getCS hC sf_J0_38 dJ0_isLatin1_aae02_0 ?_
  refine v_if_eq_f hC dJ0_isLatin1_aae02_3 (tgt := 17) (by decide) (by decide) ?_
  refine v_aload_n hC dJ0_isLatin1_aae02_6 rfl ?_
  refine v_getSc hC ha_0 sf_J0_15 dJ0_isLatin1_aae02_7 ?_
  refine v_if_ne_f hC dJ0_isLatin1_aae02_10 (tgt := 17) (by decide) (by decide) ?_
  refine v_iconst hC dJ0_isLatin1_aae02_13 (v := 1) (by decide) ?_
  refine v_goto hC dJ0_isLatin1_aae02_14 (tgt := 18) (by decide) ?_
  exact hR _ _ _ _ _ _ _ dJ0_isLatin1_aae02_18 rfl (Nat.le_of_ble_eq_true rfl) (Nat.le_of_ble_eq_true rfl) ⟨rfl, rfl, (by decide)⟩
set_option maxRecDepth 100000 in
set_option maxHeartbeats 8000000 in
theorem p_J3_checkIndex_8e157 {l : Launch} {E : Ez} {L : List Nat} {f : Nat → va_E} {T : Nat → va_E → Prop} {a_0 : Int32} {a_1 : Int32} (hW : WT T L f) (hlen : 0 ≤ a_0.toInt ∧ a_0.toInt < a_1.toInt) : CI l yJ3_checkIndex_8e157 cJ3_checkIndex_8e157 3 .int 0 0 0 E [.int a_0, .int a_1, .null] L f (fun r L1 f1 => L = L1 ∧ f = f1) := by
  refine ci_of (by decide) (Nat.le_of_ble_eq_true rfl) (fun z hz hnm hC hR => ?_)
  have hC : Cx z E cJ3_checkIndex_8e157 RJ3 3 0 0 0 := hC
  subst hz
  show V z E 3 0 0 L f 0 [(0, .int a_0), (1, .int a_1), (2, .null)] []
  refine v_iload_n hC dJ3_checkIndex_8e157_0 rfl ?_
  refine v_if_lt_f hC dJ3_checkIndex_8e157_1 (tgt := 9) (by decide) (by first | omega | (simp only [Int32.lt_iff_toInt_lt, Int32.le_iff_toInt_le, Int32.reduceToInt, ← Int32.toInt_inj, true_and, and_true, or_true, true_or, false_or, or_false, false_and, and_false, not_true_eq_false, not_false_eq_true] <;> omega)) ?_
  refine v_iload_n hC dJ3_checkIndex_8e157_4 rfl ?_
  refine v_iload_n hC dJ3_checkIndex_8e157_5 rfl ?_
  refine v_icmp_lt_t hC dJ3_checkIndex_8e157_6 (tgt := 16) (by decide) (by first | omega | (simp only [Int32.lt_iff_toInt_lt, Int32.le_iff_toInt_le, Int32.reduceToInt, ← Int32.toInt_inj, true_and, and_true, or_true, true_or, false_or, or_false, false_and, and_false, not_true_eq_false, not_false_eq_true] <;> omega)) ?_
  refine v_iload_n hC dJ3_checkIndex_8e157_16 rfl ?_
  exact hR _ _ _ _ _ _ _ dJ3_checkIndex_8e157_17 rfl (Nat.le_of_ble_eq_true rfl) (Nat.le_of_ble_eq_true rfl) ⟨rfl, rfl⟩
set_option maxRecDepth 100000 in
set_option maxHeartbeats 8000000 in
theorem p_J3_checkIndex_8e157_11 {l : Launch} {E : Ez} {L : List Nat} {f : Nat → va_E} {T : Nat → va_E → Prop} {a_0 : Int32} {a_1 : Int32} {a_2 : Nat} (hW : WT T L f) (hlen : 0 ≤ a_0.toInt ∧ a_0.toInt < a_1.toInt) : CI l yJ3_checkIndex_8e157 cJ3_checkIndex_8e157 3 .int 0 0 0 E [.int a_0, .int a_1, .ref a_2] L f (fun r L1 f1 => L = L1 ∧ f = f1) := by
  refine ci_of (by decide) (Nat.le_of_ble_eq_true rfl) (fun z hz hnm hC hR => ?_)
  have hC : Cx z E cJ3_checkIndex_8e157 RJ3 3 0 0 0 := hC
  subst hz
  show V z E 3 0 0 L f 0 [(0, .int a_0), (1, .int a_1), (2, .ref a_2)] []
  refine v_iload_n hC dJ3_checkIndex_8e157_0 rfl ?_
  refine v_if_lt_f hC dJ3_checkIndex_8e157_1 (tgt := 9) (by decide) (by first | omega | (simp only [Int32.lt_iff_toInt_lt, Int32.le_iff_toInt_le, Int32.reduceToInt, ← Int32.toInt_inj, true_and, and_true, or_true, true_or, false_or, or_false, false_and, and_false, not_true_eq_false, not_false_eq_true] <;> omega)) ?_
  refine v_iload_n hC dJ3_checkIndex_8e157_4 rfl ?_
  refine v_iload_n hC dJ3_checkIndex_8e157_5 rfl ?_
  refine v_icmp_lt_t hC dJ3_checkIndex_8e157_6 (tgt := 16) (by decide) (by first | omega | (simp only [Int32.lt_iff_toInt_lt, Int32.le_iff_toInt_le, Int32.reduceToInt, ← Int32.toInt_inj, true_and, and_true, or_true, true_or, false_or, or_false, false_and, and_false, not_true_eq_false, not_false_eq_true] <;> omega)) ?_
  refine v_iload_n hC dJ3_checkIndex_8e157_16 rfl ?_
  exact hR _ _ _ _ _ _ _ dJ3_checkIndex_8e157_17 rfl (Nat.le_of_ble_eq_true rfl) (Nat.le_of_ble_eq_true rfl) ⟨rfl, rfl⟩
set_option maxRecDepth 100000 in
set_option maxHeartbeats 8000000 in
theorem p_J0_checkIndex_df160 {l : Launch} {E : Ez} {L : List Nat} {f : Nat → va_E} {T : Nat → va_E → Prop} {a_0 : Int32} {a_1 : Int32} (hW : WT T L f) (hlen : 0 ≤ a_0.toInt ∧ a_0.toInt < a_1.toInt) : CV l yJ0_checkIndex_df160 cJ0_checkIndex_df160 2 1 0 0 E [.int a_0, .int a_1] L f (fun L1 f1 => L = L1 ∧ f = f1) := by
  refine cv_of (by decide) (Nat.le_of_ble_eq_true rfl) (fun z hz hnm hC hR => ?_)
  have hC : Cx z E cJ0_checkIndex_df160 RJ0 2 1 0 0 := hC
  subst hz
  show V z E 2 0 0 L f 0 [(0, .int a_0), (1, .int a_1)] []
  refine v_iload_n hC dJ0_checkIndex_df160_0 rfl ?_
  refine v_iload_n hC dJ0_checkIndex_df160_1 rfl ?_
  refine v_getSF hC sf_J0_1053 dJ0_checkIndex_df160_2 ?_ (fun o_1 => ?_)
  · refine v_si hC (rest := []) mt_J3_checkIndex_8e157 (p_J3_checkIndex_8e157 hW (by first | omega | (simp only [Int32.lt_iff_toInt_lt, Int32.le_iff_toInt_le, Int32.reduceToInt, ← Int32.toInt_inj, true_and, and_true, or_true, true_or, false_or, or_false, false_and, and_false, not_true_eq_false, not_false_eq_true] <;> omega))) mx_J3_checkIndex_8e157 ml_J0_1059 (by decide) rfl (cells1 := 0) (slots1 := 0) (by decide) (by decide) (Nat.le_of_ble_eq_true rfl) (Nat.le_of_ble_eq_true rfl) rfl (Nat.le_of_ble_eq_true rfl) dJ0_checkIndex_df160_5 (fun r_2 L_3 f_4 h_5 => ?_)
    obtain ⟨rfl, rfl⟩ := h_5
    refine v_pop hC dJ0_checkIndex_df160_8 rfl ?_
    exact hR _ _ _ _ _ _ dJ0_checkIndex_df160_9 (Nat.le_of_ble_eq_true rfl) (Nat.le_of_ble_eq_true rfl) ⟨rfl, rfl⟩
  · refine v_si hC (rest := []) mt_J3_checkIndex_8e157 (p_J3_checkIndex_8e157_11 hW (by first | omega | (simp only [Int32.lt_iff_toInt_lt, Int32.le_iff_toInt_le, Int32.reduceToInt, ← Int32.toInt_inj, true_and, and_true, or_true, true_or, false_or, or_false, false_and, and_false, not_true_eq_false, not_false_eq_true] <;> omega))) mx_J3_checkIndex_8e157 ml_J0_1059 (by decide) rfl (cells1 := 0) (slots1 := 0) (by decide) (by decide) (Nat.le_of_ble_eq_true rfl) (Nat.le_of_ble_eq_true rfl) rfl (Nat.le_of_ble_eq_true rfl) dJ0_checkIndex_df160_5 (fun r_8 L_9 f_10 h_11 => ?_)
    obtain ⟨rfl, rfl⟩ := h_11
    refine v_pop hC dJ0_checkIndex_df160_8 rfl ?_
    exact hR _ _ _ _ _ _ dJ0_checkIndex_df160_9 (Nat.le_of_ble_eq_true rfl) (Nat.le_of_ble_eq_true rfl) ⟨rfl, rfl⟩
set_option maxRecDepth 100000 in
set_option maxHeartbeats 8000000 in
theorem p_J1_charAt_3b067 {l : Launch} {E : Ez} {L : List Nat} {f : Nat → va_E} {T : Nat → va_E → Prop} {a_0 : Nat} {a_1 : Int32} (hW : WT T L f) (ha_0 : a_0 < 77) (hlen : 0 ≤ a_1.toInt ∧ a_1.toInt < ((bytStr.getD a_0 []).length : Int)) : CI l yJ1_charAt_3b067 cJ1_charAt_3b067 2 .char 2 0 0 E [.ref (eV E a_0), .int a_1] L f (fun r L1 f1 => L = L1 ∧ f = f1 ∧ r = (chv a_0 a_1) ∧ narrow .char (.int r) = .int r) := by
  refine ci_of (by decide) (Nat.le_of_ble_eq_true rfl) (fun z hz hnm hC hR => ?_)
  have hC : Cx z E cJ1_charAt_3b067 RJ1 2 2 0 0 := hC
  subst hz
  show V z E 2 0 0 L f 0 [(0, .ref (eV E a_0)), (1, .int a_1)] []
  refine v_iload_n hC dJ1_charAt_3b067_0 rfl ?_
  refine v_aload_n hC dJ1_charAt_3b067_1 rfl ?_
  obtain ⟨v_1, h_2⟩ : ∃ v9 : Int32, nI (bytStr.getD a_0 []).length = v9 := ⟨_, rfl⟩
  refine v_alenS hC ha_0 dJ1_charAt_3b067_2 ?_
  have b_3 := len_v ha_0
  rw [h_2] at b_3 ⊢
  refine v_sv hC (rest := []) mt_J0_checkIndex_df160 (p_J0_checkIndex_df160 hW (by first | omega | (simp only [Int32.lt_iff_toInt_lt, Int32.le_iff_toInt_le, Int32.reduceToInt, ← Int32.toInt_inj, true_and, and_true, or_true, true_or, false_or, or_false, false_and, and_false, not_true_eq_false, not_false_eq_true] <;> omega))) mx_J0_checkIndex_df160 ml_J1_9 (by decide) rfl (cells1 := 0) (slots1 := 0) (by decide) (by decide) (Nat.le_of_ble_eq_true rfl) (Nat.le_of_ble_eq_true rfl) rfl (Nat.le_of_ble_eq_true rfl) dJ1_charAt_3b067_3 (fun L_5 f_6 h_7 => ?_)
  obtain ⟨rfl, rfl⟩ := h_7
  refine v_aload_n hC dJ1_charAt_3b067_6 rfl ?_
  refine v_iload_n hC dJ1_charAt_3b067_7 rfl ?_
  obtain ⟨v_10, h_11⟩ : ∃ v9 : Int32, (bytStr.getD a_0 []).getD (a_1 : Int32).toNatClampNeg 0 = v9 := ⟨_, rfl⟩
  refine v_baldS hC ha_0 (vp_in_iff.mpr (by first | omega | (simp only [Int32.lt_iff_toInt_lt, Int32.le_iff_toInt_le, Int32.reduceToInt, ← Int32.toInt_inj, true_and, and_true, or_true, true_or, false_or, or_false, false_and, and_false, not_true_eq_false, not_false_eq_true] <;> omega))) h_11 dJ1_charAt_3b067_8 ?_
  refine v_sipush hC dJ1_charAt_3b067_9 (v := 255) (by decide) ?_
  obtain ⟨v_12, h_13⟩ : ∃ v9 : Int32, v_10 &&& 255 = v9 := ⟨_, rfl⟩
  refine v_iand hC dJ1_charAt_3b067_12 h_13 ?_
  have h_14 := and_v h_13 (by decide)
  try simp only [Int32.reduceToInt] at h_14
  obtain ⟨v_15, h_16⟩ : ∃ v9 : Int32, (v_12.toUInt32 % 65536).toInt32 = v9 := ⟨_, rfl⟩
  refine v_i2c hC dJ1_charAt_3b067_13 h_16 ?_
  exact hR _ _ _ _ _ _ _ dJ1_charAt_3b067_14 (by rw [← h_16]; exact pk_nc _) (Nat.le_of_ble_eq_true rfl) (Nat.le_of_ble_eq_true rfl) ⟨rfl, rfl, (by rw [← h_16, ← h_13, ← h_11]; rfl), (by rw [← h_16]; exact pk_nc _)⟩
set_option maxRecDepth 100000 in
set_option maxHeartbeats 8000000 in
theorem p_J0_charAt_5068e {l : Launch} {E : Ez} {L : List Nat} {f : Nat → va_E} {T : Nat → va_E → Prop} {a_0 : Nat} {a_1 : Int32} (hW : WT T L f) (ha_0 : a_0 < 77) (hlen : 0 ≤ a_1.toInt ∧ a_1.toInt < ((bytStr.getD a_0 []).length : Int)) : CI l yJ0_charAt_5068e cJ0_charAt_5068e 2 .char 3 0 0 E [.ref (eK E a_0), .int a_1] L f (fun r L1 f1 => L = L1 ∧ f = f1 ∧ r = (chv a_0 a_1) ∧ narrow .char (.int r) = .int r) := by
  refine ci_of (by decide) (Nat.le_of_ble_eq_true rfl) (fun z hz hnm hC hR => ?_)
  have hC : Cx z E cJ0_charAt_5068e RJ0 2 3 0 0 := hC
  subst hz
  show V z E 2 0 0 L f 0 [(0, .ref (eK E a_0)), (1, .int a_1)] []
  refine v_aload_n hC dJ0_charAt_5068e_0 rfl ?_
  refine v_viS hC (rest := []) ha_0 rfl mi_J0_isLatin1_aae02 ms_J0_isLatin1_aae02 (p_J0_isLatin1_aae02 hW ha_0) mx_J0_isLatin1_aae02 ml_J0_492 (by decide) rfl (cells1 := 0) (slots1 := 0) (by decide) (by decide) (Nat.le_of_ble_eq_true rfl) (Nat.le_of_ble_eq_true rfl) rfl (Nat.le_of_ble_eq_true rfl) dJ0_charAt_5068e_1 (fun r_1 L_2 f_3 h_4 => ?_)
  obtain ⟨rfl, rfl, b_5⟩ := h_4
  obtain rfl : r_1 = 1 := Int32.toInt_inj.mp (by simp only [Int32.reduceToInt]; omega)
  refine v_if_eq_f hC dJ0_charAt_5068e_4 (tgt := 16) (by decide) (by decide) ?_
  refine v_aload_n hC dJ0_charAt_5068e_7 rfl ?_
  refine v_getSv hC ha_0 sf_J0_9 dJ0_charAt_5068e_8 ?_
  refine v_iload_n hC dJ0_charAt_5068e_11 rfl ?_
  refine v_si hC (rest := []) mt_J1_charAt_3b067 (p_J1_charAt_3b067 hW ha_0 (by first | omega | (simp only [Int32.lt_iff_toInt_lt, Int32.le_iff_toInt_le, Int32.reduceToInt, ← Int32.toInt_inj, true_and, and_true, or_true, true_or, false_or, or_false, false_and, and_false, not_true_eq_false, not_false_eq_true] <;> omega))) mx_J1_charAt_3b067 ml_J0_495 (by decide) rfl (cells1 := 0) (slots1 := 0) (by decide) (by decide) (Nat.le_of_ble_eq_true rfl) (Nat.le_of_ble_eq_true rfl) rfl (Nat.le_of_ble_eq_true rfl) dJ0_charAt_5068e_12 (fun r_8 L_9 f_10 h_11 => ?_)
  obtain ⟨rfl, rfl, rfl, nr_12⟩ := h_11
  exact hR _ _ _ _ _ _ _ dJ0_charAt_5068e_15 nr_12 (Nat.le_of_ble_eq_true rfl) (Nat.le_of_ble_eq_true rfl) ⟨rfl, rfl, rfl, nr_12⟩
set_option maxRecDepth 100000 in
set_option maxHeartbeats 8000000 in
theorem p_X12_is {l : Launch} {E : Ez} {L : List Nat} {f : Nat → va_E} {T : Nat → va_E → Prop} {a_0 : Nat} {a_1 : Nat} {q : Nat → Nat} (hW : WT T L f) (k_0 : isM T L E a_0 q) (ha_1 : a_1 < 77) : CI l yX12_is cX12_is 4 .boolean 4 0 0 E [.ref a_0, .ref (eK E a_1)] L f (fun r L1 f1 => L = L1 ∧ f = f1 ∧ r = (iw (f a_0) (f (q 4)) a_1)) := by
  refine ci_of (by decide) (Nat.le_of_ble_eq_true rfl) (fun z hz hnm hC hR => ?_)
  have hC : Cx z E cX12_is RX12 4 4 0 0 := hC
  subst hz
  show V z E 4 0 0 L f 0 [(0, .ref a_0), (1, .ref (eK E a_1))] []
  obtain ⟨m_1, t_2, nq_21, k_3, k_4, k_5, k_6, k_7, k_8, k_9, k_10, k_11, k_12, k_13, k_14, k_15, k_16, k_17, k_18, k_19, k_20⟩ := id k_0
  refine v_aload_n hC dX12_is_0 rfl ?_
  obtain ⟨v_23, v_24, v_26, v_28, v_30, v_32, v_34, v_35, v_36, v_37, v_39, e_22, b_25, b_27, b_29, b_31, b_33, b_38, b_40⟩ := hW.at m_1 t_2
  refine v_vi hC (rest := []) m_1 e_22 rfl mi_X12_good ms_X12_good (p_X12_good hW k_0) mx_X12_good ml_X12_139 (by decide) rfl (cells1 := 0) (slots1 := 0) (by decide) (by decide) (Nat.le_of_ble_eq_true rfl) (Nat.le_of_ble_eq_true rfl) rfl (Nat.le_of_ble_eq_true rfl) dX12_is_1 (fun r_41 L_42 f_43 h_44 => ?_)
  obtain ⟨rfl, rfl, b_45, x_46⟩ := h_44
  have fe_49 : fld (f a_0) 12 = (v_35 : Int32).toInt := by rw [e_22]; rfl
  rw [fe_49] at x_46
  clear fe_49
  try simp only [Int32.reduceToInt, Int64.reduceToInt] at x_46
  refine v_if_eq hC dX12_is_4 (tgt := 35) (by decide) (fun h_50 => ?_) (fun h_50 => ?_)
  · simp only [Int32.lt_iff_toInt_lt, Int32.le_iff_toInt_le, Int32.reduceToInt, ← Int32.toInt_inj] at h_50
    refine v_iconst hC dX12_is_35 (v := 0) (by decide) ?_
    refine v_istore_n hC dX12_is_36 (by decide) (lv' := [(2, .int 0), (0, .ref a_0), (1, .ref (eK E a_1))]) rfl ?_
    refine v_iconst hC dX12_is_37 (v := 0) (by decide) ?_
    refine v_istore_n hC dX12_is_38 (by decide) (lv' := [(3, .int 0), (2, .int 0), (0, .ref a_0), (1, .ref (eK E a_1))]) rfl ?_
    have lp_193 : ∀ (n_194 : Nat) (i_188 : Int32) (b_190 : (0 ≤ i_188.toInt ∧ i_188.toInt ≤ 40)) (i_189 : Int32) (b_191 : (0 ≤ i_189.toInt ∧ i_189.toInt ≤ 1)) (cv_192 : IWI (f a_0) (f (q 4)) a_1 i_189 i_188) (hm_196 : 40 - i_188.toInt < (n_194 : Int)), V z E 4 0 0 L f 39 [(3, .int i_188), (2, .int i_189), (0, .ref a_0), (1, .ref (eK E a_1))] [] := by
      intro n_194
      induction n_194 with
      | zero =>
        intro i_188 b_190 i_189 b_191 cv_192 hm_196
        have bs_197 := cv_192.bs
        have fe_198 : fld (f a_0) 8 = (v_28 : Int32).toInt := by rw [e_22]; rfl
        have fe_199 : fld (f a_0) 9 = (v_30 : Int32).toInt := by rw [e_22]; rfl
        have fe_200 : fld (f a_0) 10 = (v_32 : Int32).toInt := by rw [e_22]; rfl
        have fe_201 : fld (f a_0) 12 = (v_35 : Int32).toInt := by rw [e_22]; rfl
        rw [fe_198, fe_199, fe_200, fe_201] at bs_197
        exfalso; omega
      | succ n_194 ih_195 =>
        intro i_188 b_190 i_189 b_191 cv_192 hm_196
        have bs_197 := cv_192.bs
        have fe_198 : fld (f a_0) 8 = (v_28 : Int32).toInt := by rw [e_22]; rfl
        have fe_199 : fld (f a_0) 9 = (v_30 : Int32).toInt := by rw [e_22]; rfl
        have fe_200 : fld (f a_0) 10 = (v_32 : Int32).toInt := by rw [e_22]; rfl
        have fe_201 : fld (f a_0) 12 = (v_35 : Int32).toInt := by rw [e_22]; rfl
        rw [fe_198, fe_199, fe_200, fe_201] at bs_197
        refine v_iload_n hC dX12_is_39 rfl ?_
        refine v_aload_n hC dX12_is_40 rfl ?_
        refine v_viS hC (rest := [.int i_188]) ha_1 rfl mi_J0_length_8abf5 ms_J0_length_8abf5 (p_J0_length_8abf5 hW ha_1) mx_J0_length_8abf5 ml_X12_143 (by decide) rfl (cells1 := 0) (slots1 := 0) (by decide) (by decide) (Nat.le_of_ble_eq_true rfl) (Nat.le_of_ble_eq_true rfl) rfl (Nat.le_of_ble_eq_true rfl) dX12_is_41 (fun r_202 L_203 f_204 h_205 => ?_)
        obtain ⟨rfl, rfl, b_206, x_207⟩ := h_205
        try simp only [Int32.reduceToInt, Int64.reduceToInt] at x_207
        refine v_icmp_ge hC dX12_is_44 (tgt := 82) (by decide) (fun h_210 => ?_) (fun h_210 => ?_)
        · simp only [Int32.lt_iff_toInt_lt, Int32.le_iff_toInt_le, Int32.reduceToInt, ← Int32.toInt_inj] at h_210
          refine v_iload_n hC dX12_is_82 rfl ?_
          exact hR _ _ _ _ _ _ _ dX12_is_83 (nar01 (by first | omega | (simp only [Int32.lt_iff_toInt_lt, Int32.le_iff_toInt_le, Int32.reduceToInt, ← Int32.toInt_inj, true_and, and_true, or_true, true_or, false_or, or_false, false_and, and_false, not_true_eq_false, not_false_eq_true] <;> omega))) (Nat.le_of_ble_eq_true rfl) (Nat.le_of_ble_eq_true rfl) ⟨rfl, rfl, (cv_192.fin (by first | (left; omega) | (right; omega)))⟩
        · simp only [Int32.lt_iff_toInt_lt, Int32.le_iff_toInt_le, Int32.reduceToInt, ← Int32.toInt_inj] at h_210
          refine v_iload_n hC dX12_is_47 rfl ?_
          refine v_if_eq hC dX12_is_48 (tgt := 82) (by decide) (fun h_211 => ?_) (fun h_211 => ?_)
          · simp only [Int32.lt_iff_toInt_lt, Int32.le_iff_toInt_le, Int32.reduceToInt, ← Int32.toInt_inj] at h_211
            refine v_iload_n hC dX12_is_82 rfl ?_
            exact hR _ _ _ _ _ _ _ dX12_is_83 (nar01 (by first | omega | (simp only [Int32.lt_iff_toInt_lt, Int32.le_iff_toInt_le, Int32.reduceToInt, ← Int32.toInt_inj, true_and, and_true, or_true, true_or, false_or, or_false, false_and, and_false, not_true_eq_false, not_false_eq_true] <;> omega))) (Nat.le_of_ble_eq_true rfl) (Nat.le_of_ble_eq_true rfl) ⟨rfl, rfl, (cv_192.fin (by first | (left; omega) | (right; omega)))⟩
          · simp only [Int32.lt_iff_toInt_lt, Int32.le_iff_toInt_le, Int32.reduceToInt, ← Int32.toInt_inj] at h_211
            refine v_aload_n hC dX12_is_51 rfl ?_
            refine v_get hC fl_X12_24 m_1 e_22 rfl dX12_is_52 ?_
            refine v_aload_n hC dX12_is_55 rfl ?_
            refine v_get hC fl_X12_117 m_1 e_22 rfl dX12_is_56 ?_
            refine v_iload_n hC dX12_is_59 rfl ?_
            obtain ⟨v_212, h_213⟩ : ∃ v9 : Int32, v_30 + i_188 = v9 := ⟨_, rfl⟩
            refine v_iadd hC dX12_is_60 h_213 ?_
            have h_214 := add_v h_213 (by first | omega | (simp only [Int32.lt_iff_toInt_lt, Int32.le_iff_toInt_le, Int32.reduceToInt, ← Int32.toInt_inj, true_and, and_true, or_true, true_or, false_or, or_false, false_and, and_false, not_true_eq_false, not_false_eq_true] <;> omega)) (by first | omega | (simp only [Int32.lt_iff_toInt_lt, Int32.le_iff_toInt_le, Int32.reduceToInt, ← Int32.toInt_inj, true_and, and_true, or_true, true_or, false_or, or_false, false_and, and_false, not_true_eq_false, not_false_eq_true] <;> omega))
            obtain ⟨m_215, t_216⟩ := id k_6
            obtain ⟨g_218, e_217, fit_219⟩ := hW.at m_215 t_216
            obtain ⟨v_220, h_221⟩ : ∃ v9 : Int32, g_218 (v_212 : Int32).toNatClampNeg = v9 := ⟨_, rfl⟩
            refine v_bald hC m_215 e_217 (vp_in_iff.mpr (by first | omega | (simp only [Int32.lt_iff_toInt_lt, Int32.le_iff_toInt_le, Int32.reduceToInt, ← Int32.toInt_inj, true_and, and_true, or_true, true_or, false_or, or_false, false_and, and_false, not_true_eq_false, not_false_eq_true] <;> omega))) h_221 dX12_is_61 ?_
            refine v_aload_n hC dX12_is_62 rfl ?_
            refine v_iload_n hC dX12_is_63 rfl ?_
            refine v_viS hC (rest := [.int v_220]) ha_1 rfl mi_J0_charAt_5068e ms_J0_charAt_5068e (p_J0_charAt_5068e hW ha_1 (by first | omega | (simp only [Int32.lt_iff_toInt_lt, Int32.le_iff_toInt_le, Int32.reduceToInt, ← Int32.toInt_inj, true_and, and_true, or_true, true_or, false_or, or_false, false_and, and_false, not_true_eq_false, not_false_eq_true] <;> omega))) mx_J0_charAt_5068e ml_X12_148 (by decide) rfl (cells1 := 0) (slots1 := 0) (by decide) (by decide) (Nat.le_of_ble_eq_true rfl) (Nat.le_of_ble_eq_true rfl) rfl (Nat.le_of_ble_eq_true rfl) dX12_is_64 (fun r_222 L_223 f_224 h_225 => ?_)
            obtain ⟨rfl, rfl, rfl, nr_226⟩ := h_225
            refine v_icmp_ne hC dX12_is_67 (tgt := 74) (by decide) (fun h_229 => ?_) (fun h_229 => ?_)
            · simp only [Int32.lt_iff_toInt_lt, Int32.le_iff_toInt_le, Int32.reduceToInt, ← Int32.toInt_inj] at h_229
              refine v_iconst hC dX12_is_74 (v := 0) (by decide) ?_
              refine v_istore_n hC dX12_is_75 (by decide) (lv' := [(2, .int 0), (3, .int i_188), (0, .ref a_0), (1, .ref (eK E a_1))]) rfl ?_
              obtain ⟨v_230, h_231⟩ : ∃ v9 : Int32, i_188 + Int32.ofInt 1 = v9 := ⟨_, rfl⟩
              have h_232 := add_v (b := 1) h_231 (by first | omega | (simp only [Int32.lt_iff_toInt_lt, Int32.le_iff_toInt_le, Int32.reduceToInt, ← Int32.toInt_inj, true_and, and_true, or_true, true_or, false_or, or_false, false_and, and_false, not_true_eq_false, not_false_eq_true] <;> omega)) (by first | omega | (simp only [Int32.lt_iff_toInt_lt, Int32.le_iff_toInt_le, Int32.reduceToInt, ← Int32.toInt_inj, true_and, and_true, or_true, true_or, false_or, or_false, false_and, and_false, not_true_eq_false, not_false_eq_true] <;> omega))
              simp only [Int32.reduceToInt] at h_232
              refine v_iinc hC dX12_is_76 (k := 1) rfl (v := v_230) h_231 (by decide) (lv' := [(3, .int v_230), (2, .int 0), (0, .ref a_0), (1, .ref (eK E a_1))]) rfl ?_
              refine v_goto hC dX12_is_79 (tgt := 39) (by decide) ?_
              refine v_pick [0, 1, 2, 3] rfl ?_
              have fe_233 : fld (f a_0) 9 = (v_30 : Int32).toInt := by rw [e_22]; rfl
              exact ih_195 v_230 (by first | omega | (simp only [Int32.lt_iff_toInt_lt, Int32.le_iff_toInt_le, Int32.reduceToInt, ← Int32.toInt_inj, true_and, and_true, or_true, true_or, false_or, or_false, false_and, and_false, not_true_eq_false, not_false_eq_true] <;> omega)) 0 (by decide) (cv_192.no (by omega) (by omega) (by omega) (fun q9 => h_229 (congrArg Int32.toInt ((bat_at (t := f (q 4)) e_217 h_221 (k := i_188) (F := fld (f a_0) 9) (by rw [fe_233]; omega) (by rw [fe_233]; omega) (by omega)).symm.trans q9)))) (by first | omega | (simp only [Int32.lt_iff_toInt_lt, Int32.le_iff_toInt_le, Int32.reduceToInt, ← Int32.toInt_inj, true_and, and_true, or_true, true_or, false_or, or_false, false_and, and_false, not_true_eq_false, not_false_eq_true] <;> omega))
            · simp only [Int32.lt_iff_toInt_lt, Int32.le_iff_toInt_le, Int32.reduceToInt, ← Int32.toInt_inj] at h_229
              refine v_iconst hC dX12_is_70 (v := 1) (by decide) ?_
              refine v_goto hC dX12_is_71 (tgt := 75) (by decide) ?_
              refine v_istore_n hC dX12_is_75 (by decide) (lv' := [(2, .int 1), (3, .int i_188), (0, .ref a_0), (1, .ref (eK E a_1))]) rfl ?_
              obtain ⟨v_234, h_235⟩ : ∃ v9 : Int32, i_188 + Int32.ofInt 1 = v9 := ⟨_, rfl⟩
              have h_236 := add_v (b := 1) h_235 (by first | omega | (simp only [Int32.lt_iff_toInt_lt, Int32.le_iff_toInt_le, Int32.reduceToInt, ← Int32.toInt_inj, true_and, and_true, or_true, true_or, false_or, or_false, false_and, and_false, not_true_eq_false, not_false_eq_true] <;> omega)) (by first | omega | (simp only [Int32.lt_iff_toInt_lt, Int32.le_iff_toInt_le, Int32.reduceToInt, ← Int32.toInt_inj, true_and, and_true, or_true, true_or, false_or, or_false, false_and, and_false, not_true_eq_false, not_false_eq_true] <;> omega))
              simp only [Int32.reduceToInt] at h_236
              refine v_iinc hC dX12_is_76 (k := 1) rfl (v := v_234) h_235 (by decide) (lv' := [(3, .int v_234), (2, .int 1), (0, .ref a_0), (1, .ref (eK E a_1))]) rfl ?_
              refine v_goto hC dX12_is_79 (tgt := 39) (by decide) ?_
              refine v_pick [0, 1, 2, 3] rfl ?_
              have fe_237 : fld (f a_0) 9 = (v_30 : Int32).toInt := by rw [e_22]; rfl
              exact ih_195 v_234 (by first | omega | (simp only [Int32.lt_iff_toInt_lt, Int32.le_iff_toInt_le, Int32.reduceToInt, ← Int32.toInt_inj, true_and, and_true, or_true, true_or, false_or, or_false, false_and, and_false, not_true_eq_false, not_false_eq_true] <;> omega)) 1 (by decide) (cv_192.yes (by omega) (by omega) (by omega) ((bat_at (t := f (q 4)) e_217 h_221 (k := i_188) (F := fld (f a_0) 9) (by rw [fe_237]; omega) (by rw [fe_237]; omega) (by omega)).trans (Int32.toInt_inj.mp (by omega)))) (by first | omega | (simp only [Int32.lt_iff_toInt_lt, Int32.le_iff_toInt_le, Int32.reduceToInt, ← Int32.toInt_inj, true_and, and_true, or_true, true_or, false_or, or_false, false_and, and_false, not_true_eq_false, not_false_eq_true] <;> omega))
    refine v_pick [0, 1, 2, 3] rfl ?_
    have fe_238 : fld (f a_0) 8 = (v_28 : Int32).toInt := by rw [e_22]; rfl
    have fe_239 : fld (f a_0) 9 = (v_30 : Int32).toInt := by rw [e_22]; rfl
    have fe_240 : fld (f a_0) 10 = (v_32 : Int32).toInt := by rw [e_22]; rfl
    have fe_241 : fld (f a_0) 12 = (v_35 : Int32).toInt := by rw [e_22]; rfl
    exact lp_193 42 0 (by decide) 0 (by decide) (IWI.s0 (by intro q9; rw [fe_238, fe_239, fe_240, fe_241] at q9; omega)) (by decide)
  · simp only [Int32.lt_iff_toInt_lt, Int32.le_iff_toInt_le, Int32.reduceToInt, ← Int32.toInt_inj] at h_50
    refine v_aload_n hC dX12_is_7 rfl ?_
    refine v_get hC fl_X12_120 m_1 e_22 rfl dX12_is_8 ?_
    refine v_iconst hC dX12_is_11 (v := 1) (by decide) ?_
    refine v_icmp_ne hC dX12_is_12 (tgt := 35) (by decide) (fun h_242 => ?_) (fun h_242 => ?_)
    · simp only [Int32.lt_iff_toInt_lt, Int32.le_iff_toInt_le, Int32.reduceToInt, ← Int32.toInt_inj] at h_242
      refine v_iconst hC dX12_is_35 (v := 0) (by decide) ?_
      refine v_istore_n hC dX12_is_36 (by decide) (lv' := [(2, .int 0), (0, .ref a_0), (1, .ref (eK E a_1))]) rfl ?_
      refine v_iconst hC dX12_is_37 (v := 0) (by decide) ?_
      refine v_istore_n hC dX12_is_38 (by decide) (lv' := [(3, .int 0), (2, .int 0), (0, .ref a_0), (1, .ref (eK E a_1))]) rfl ?_
      have lp_385 : ∀ (n_386 : Nat) (i_380 : Int32) (b_382 : (0 ≤ i_380.toInt ∧ i_380.toInt ≤ 40)) (i_381 : Int32) (b_383 : (0 ≤ i_381.toInt ∧ i_381.toInt ≤ 1)) (cv_384 : IWI (f a_0) (f (q 4)) a_1 i_381 i_380) (hm_388 : 40 - i_380.toInt < (n_386 : Int)), V z E 4 0 0 L f 39 [(3, .int i_380), (2, .int i_381), (0, .ref a_0), (1, .ref (eK E a_1))] [] := by
        intro n_386
        induction n_386 with
        | zero =>
          intro i_380 b_382 i_381 b_383 cv_384 hm_388
          have bs_389 := cv_384.bs
          have fe_390 : fld (f a_0) 8 = (v_28 : Int32).toInt := by rw [e_22]; rfl
          have fe_391 : fld (f a_0) 9 = (v_30 : Int32).toInt := by rw [e_22]; rfl
          have fe_392 : fld (f a_0) 10 = (v_32 : Int32).toInt := by rw [e_22]; rfl
          have fe_393 : fld (f a_0) 12 = (v_35 : Int32).toInt := by rw [e_22]; rfl
          rw [fe_390, fe_391, fe_392, fe_393] at bs_389
          exfalso; omega
        | succ n_386 ih_387 =>
          intro i_380 b_382 i_381 b_383 cv_384 hm_388
          have bs_389 := cv_384.bs
          have fe_390 : fld (f a_0) 8 = (v_28 : Int32).toInt := by rw [e_22]; rfl
          have fe_391 : fld (f a_0) 9 = (v_30 : Int32).toInt := by rw [e_22]; rfl
          have fe_392 : fld (f a_0) 10 = (v_32 : Int32).toInt := by rw [e_22]; rfl
          have fe_393 : fld (f a_0) 12 = (v_35 : Int32).toInt := by rw [e_22]; rfl
          rw [fe_390, fe_391, fe_392, fe_393] at bs_389
          refine v_iload_n hC dX12_is_39 rfl ?_
          refine v_aload_n hC dX12_is_40 rfl ?_
          refine v_viS hC (rest := [.int i_380]) ha_1 rfl mi_J0_length_8abf5 ms_J0_length_8abf5 (p_J0_length_8abf5 hW ha_1) mx_J0_length_8abf5 ml_X12_143 (by decide) rfl (cells1 := 0) (slots1 := 0) (by decide) (by decide) (Nat.le_of_ble_eq_true rfl) (Nat.le_of_ble_eq_true rfl) rfl (Nat.le_of_ble_eq_true rfl) dX12_is_41 (fun r_394 L_395 f_396 h_397 => ?_)
          obtain ⟨rfl, rfl, b_398, x_399⟩ := h_397
          try simp only [Int32.reduceToInt, Int64.reduceToInt] at x_399
          refine v_icmp_ge hC dX12_is_44 (tgt := 82) (by decide) (fun h_402 => ?_) (fun h_402 => ?_)
          · simp only [Int32.lt_iff_toInt_lt, Int32.le_iff_toInt_le, Int32.reduceToInt, ← Int32.toInt_inj] at h_402
            refine v_iload_n hC dX12_is_82 rfl ?_
            exact hR _ _ _ _ _ _ _ dX12_is_83 (nar01 (by first | omega | (simp only [Int32.lt_iff_toInt_lt, Int32.le_iff_toInt_le, Int32.reduceToInt, ← Int32.toInt_inj, true_and, and_true, or_true, true_or, false_or, or_false, false_and, and_false, not_true_eq_false, not_false_eq_true] <;> omega))) (Nat.le_of_ble_eq_true rfl) (Nat.le_of_ble_eq_true rfl) ⟨rfl, rfl, (cv_384.fin (by first | (left; omega) | (right; omega)))⟩
          · simp only [Int32.lt_iff_toInt_lt, Int32.le_iff_toInt_le, Int32.reduceToInt, ← Int32.toInt_inj] at h_402
            refine v_iload_n hC dX12_is_47 rfl ?_
            refine v_if_eq hC dX12_is_48 (tgt := 82) (by decide) (fun h_403 => ?_) (fun h_403 => ?_)
            · simp only [Int32.lt_iff_toInt_lt, Int32.le_iff_toInt_le, Int32.reduceToInt, ← Int32.toInt_inj] at h_403
              refine v_iload_n hC dX12_is_82 rfl ?_
              exact hR _ _ _ _ _ _ _ dX12_is_83 (nar01 (by first | omega | (simp only [Int32.lt_iff_toInt_lt, Int32.le_iff_toInt_le, Int32.reduceToInt, ← Int32.toInt_inj, true_and, and_true, or_true, true_or, false_or, or_false, false_and, and_false, not_true_eq_false, not_false_eq_true] <;> omega))) (Nat.le_of_ble_eq_true rfl) (Nat.le_of_ble_eq_true rfl) ⟨rfl, rfl, (cv_384.fin (by first | (left; omega) | (right; omega)))⟩
            · simp only [Int32.lt_iff_toInt_lt, Int32.le_iff_toInt_le, Int32.reduceToInt, ← Int32.toInt_inj] at h_403
              refine v_aload_n hC dX12_is_51 rfl ?_
              refine v_get hC fl_X12_24 m_1 e_22 rfl dX12_is_52 ?_
              refine v_aload_n hC dX12_is_55 rfl ?_
              refine v_get hC fl_X12_117 m_1 e_22 rfl dX12_is_56 ?_
              refine v_iload_n hC dX12_is_59 rfl ?_
              obtain ⟨v_404, h_405⟩ : ∃ v9 : Int32, v_30 + i_380 = v9 := ⟨_, rfl⟩
              refine v_iadd hC dX12_is_60 h_405 ?_
              have h_406 := add_v h_405 (by first | omega | (simp only [Int32.lt_iff_toInt_lt, Int32.le_iff_toInt_le, Int32.reduceToInt, ← Int32.toInt_inj, true_and, and_true, or_true, true_or, false_or, or_false, false_and, and_false, not_true_eq_false, not_false_eq_true] <;> omega)) (by first | omega | (simp only [Int32.lt_iff_toInt_lt, Int32.le_iff_toInt_le, Int32.reduceToInt, ← Int32.toInt_inj, true_and, and_true, or_true, true_or, false_or, or_false, false_and, and_false, not_true_eq_false, not_false_eq_true] <;> omega))
              obtain ⟨m_407, t_408⟩ := id k_6
              obtain ⟨g_410, e_409, fit_411⟩ := hW.at m_407 t_408
              obtain ⟨v_412, h_413⟩ : ∃ v9 : Int32, g_410 (v_404 : Int32).toNatClampNeg = v9 := ⟨_, rfl⟩
              refine v_bald hC m_407 e_409 (vp_in_iff.mpr (by first | omega | (simp only [Int32.lt_iff_toInt_lt, Int32.le_iff_toInt_le, Int32.reduceToInt, ← Int32.toInt_inj, true_and, and_true, or_true, true_or, false_or, or_false, false_and, and_false, not_true_eq_false, not_false_eq_true] <;> omega))) h_413 dX12_is_61 ?_
              refine v_aload_n hC dX12_is_62 rfl ?_
              refine v_iload_n hC dX12_is_63 rfl ?_
              refine v_viS hC (rest := [.int v_412]) ha_1 rfl mi_J0_charAt_5068e ms_J0_charAt_5068e (p_J0_charAt_5068e hW ha_1 (by first | omega | (simp only [Int32.lt_iff_toInt_lt, Int32.le_iff_toInt_le, Int32.reduceToInt, ← Int32.toInt_inj, true_and, and_true, or_true, true_or, false_or, or_false, false_and, and_false, not_true_eq_false, not_false_eq_true] <;> omega))) mx_J0_charAt_5068e ml_X12_148 (by decide) rfl (cells1 := 0) (slots1 := 0) (by decide) (by decide) (Nat.le_of_ble_eq_true rfl) (Nat.le_of_ble_eq_true rfl) rfl (Nat.le_of_ble_eq_true rfl) dX12_is_64 (fun r_414 L_415 f_416 h_417 => ?_)
              obtain ⟨rfl, rfl, rfl, nr_418⟩ := h_417
              refine v_icmp_ne hC dX12_is_67 (tgt := 74) (by decide) (fun h_421 => ?_) (fun h_421 => ?_)
              · simp only [Int32.lt_iff_toInt_lt, Int32.le_iff_toInt_le, Int32.reduceToInt, ← Int32.toInt_inj] at h_421
                refine v_iconst hC dX12_is_74 (v := 0) (by decide) ?_
                refine v_istore_n hC dX12_is_75 (by decide) (lv' := [(2, .int 0), (3, .int i_380), (0, .ref a_0), (1, .ref (eK E a_1))]) rfl ?_
                obtain ⟨v_422, h_423⟩ : ∃ v9 : Int32, i_380 + Int32.ofInt 1 = v9 := ⟨_, rfl⟩
                have h_424 := add_v (b := 1) h_423 (by first | omega | (simp only [Int32.lt_iff_toInt_lt, Int32.le_iff_toInt_le, Int32.reduceToInt, ← Int32.toInt_inj, true_and, and_true, or_true, true_or, false_or, or_false, false_and, and_false, not_true_eq_false, not_false_eq_true] <;> omega)) (by first | omega | (simp only [Int32.lt_iff_toInt_lt, Int32.le_iff_toInt_le, Int32.reduceToInt, ← Int32.toInt_inj, true_and, and_true, or_true, true_or, false_or, or_false, false_and, and_false, not_true_eq_false, not_false_eq_true] <;> omega))
                simp only [Int32.reduceToInt] at h_424
                refine v_iinc hC dX12_is_76 (k := 1) rfl (v := v_422) h_423 (by decide) (lv' := [(3, .int v_422), (2, .int 0), (0, .ref a_0), (1, .ref (eK E a_1))]) rfl ?_
                refine v_goto hC dX12_is_79 (tgt := 39) (by decide) ?_
                refine v_pick [0, 1, 2, 3] rfl ?_
                have fe_425 : fld (f a_0) 9 = (v_30 : Int32).toInt := by rw [e_22]; rfl
                exact ih_387 v_422 (by first | omega | (simp only [Int32.lt_iff_toInt_lt, Int32.le_iff_toInt_le, Int32.reduceToInt, ← Int32.toInt_inj, true_and, and_true, or_true, true_or, false_or, or_false, false_and, and_false, not_true_eq_false, not_false_eq_true] <;> omega)) 0 (by decide) (cv_384.no (by omega) (by omega) (by omega) (fun q9 => h_421 (congrArg Int32.toInt ((bat_at (t := f (q 4)) e_409 h_413 (k := i_380) (F := fld (f a_0) 9) (by rw [fe_425]; omega) (by rw [fe_425]; omega) (by omega)).symm.trans q9)))) (by first | omega | (simp only [Int32.lt_iff_toInt_lt, Int32.le_iff_toInt_le, Int32.reduceToInt, ← Int32.toInt_inj, true_and, and_true, or_true, true_or, false_or, or_false, false_and, and_false, not_true_eq_false, not_false_eq_true] <;> omega))
              · simp only [Int32.lt_iff_toInt_lt, Int32.le_iff_toInt_le, Int32.reduceToInt, ← Int32.toInt_inj] at h_421
                refine v_iconst hC dX12_is_70 (v := 1) (by decide) ?_
                refine v_goto hC dX12_is_71 (tgt := 75) (by decide) ?_
                refine v_istore_n hC dX12_is_75 (by decide) (lv' := [(2, .int 1), (3, .int i_380), (0, .ref a_0), (1, .ref (eK E a_1))]) rfl ?_
                obtain ⟨v_426, h_427⟩ : ∃ v9 : Int32, i_380 + Int32.ofInt 1 = v9 := ⟨_, rfl⟩
                have h_428 := add_v (b := 1) h_427 (by first | omega | (simp only [Int32.lt_iff_toInt_lt, Int32.le_iff_toInt_le, Int32.reduceToInt, ← Int32.toInt_inj, true_and, and_true, or_true, true_or, false_or, or_false, false_and, and_false, not_true_eq_false, not_false_eq_true] <;> omega)) (by first | omega | (simp only [Int32.lt_iff_toInt_lt, Int32.le_iff_toInt_le, Int32.reduceToInt, ← Int32.toInt_inj, true_and, and_true, or_true, true_or, false_or, or_false, false_and, and_false, not_true_eq_false, not_false_eq_true] <;> omega))
                simp only [Int32.reduceToInt] at h_428
                refine v_iinc hC dX12_is_76 (k := 1) rfl (v := v_426) h_427 (by decide) (lv' := [(3, .int v_426), (2, .int 1), (0, .ref a_0), (1, .ref (eK E a_1))]) rfl ?_
                refine v_goto hC dX12_is_79 (tgt := 39) (by decide) ?_
                refine v_pick [0, 1, 2, 3] rfl ?_
                have fe_429 : fld (f a_0) 9 = (v_30 : Int32).toInt := by rw [e_22]; rfl
                exact ih_387 v_426 (by first | omega | (simp only [Int32.lt_iff_toInt_lt, Int32.le_iff_toInt_le, Int32.reduceToInt, ← Int32.toInt_inj, true_and, and_true, or_true, true_or, false_or, or_false, false_and, and_false, not_true_eq_false, not_false_eq_true] <;> omega)) 1 (by decide) (cv_384.yes (by omega) (by omega) (by omega) ((bat_at (t := f (q 4)) e_409 h_413 (k := i_380) (F := fld (f a_0) 9) (by rw [fe_429]; omega) (by rw [fe_429]; omega) (by omega)).trans (Int32.toInt_inj.mp (by omega)))) (by first | omega | (simp only [Int32.lt_iff_toInt_lt, Int32.le_iff_toInt_le, Int32.reduceToInt, ← Int32.toInt_inj, true_and, and_true, or_true, true_or, false_or, or_false, false_and, and_false, not_true_eq_false, not_false_eq_true] <;> omega))
      refine v_pick [0, 1, 2, 3] rfl ?_
      have fe_430 : fld (f a_0) 8 = (v_28 : Int32).toInt := by rw [e_22]; rfl
      have fe_431 : fld (f a_0) 9 = (v_30 : Int32).toInt := by rw [e_22]; rfl
      have fe_432 : fld (f a_0) 10 = (v_32 : Int32).toInt := by rw [e_22]; rfl
      have fe_433 : fld (f a_0) 12 = (v_35 : Int32).toInt := by rw [e_22]; rfl
      exact lp_385 42 0 (by decide) 0 (by decide) (IWI.s0 (by intro q9; rw [fe_430, fe_431, fe_432, fe_433] at q9; omega)) (by decide)
    · simp only [Int32.lt_iff_toInt_lt, Int32.le_iff_toInt_le, Int32.reduceToInt, ← Int32.toInt_inj] at h_242
      refine v_aload_n hC dX12_is_15 rfl ?_
      refine v_get hC fl_X12_108 m_1 e_22 rfl dX12_is_16 ?_
      refine v_aload_n hC dX12_is_19 rfl ?_
      refine v_get hC fl_X12_117 m_1 e_22 rfl dX12_is_20 ?_
      obtain ⟨v_434, h_435⟩ : ∃ v9 : Int32, v_28 - v_30 = v9 := ⟨_, rfl⟩
      refine v_isub hC dX12_is_23 h_435 ?_
      have h_436 := sub_v h_435 (by first | omega | (simp only [Int32.lt_iff_toInt_lt, Int32.le_iff_toInt_le, Int32.reduceToInt, ← Int32.toInt_inj, true_and, and_true, or_true, true_or, false_or, or_false, false_and, and_false, not_true_eq_false, not_false_eq_true] <;> omega)) (by first | omega | (simp only [Int32.lt_iff_toInt_lt, Int32.le_iff_toInt_le, Int32.reduceToInt, ← Int32.toInt_inj, true_and, and_true, or_true, true_or, false_or, or_false, false_and, and_false, not_true_eq_false, not_false_eq_true] <;> omega))
      refine v_aload_n hC dX12_is_24 rfl ?_
      refine v_viS hC (rest := [.int v_434]) ha_1 rfl mi_J0_length_8abf5 ms_J0_length_8abf5 (p_J0_length_8abf5 hW ha_1) mx_J0_length_8abf5 ml_X12_143 (by decide) rfl (cells1 := 0) (slots1 := 0) (by decide) (by decide) (Nat.le_of_ble_eq_true rfl) (Nat.le_of_ble_eq_true rfl) rfl (Nat.le_of_ble_eq_true rfl) dX12_is_25 (fun r_437 L_438 f_439 h_440 => ?_)
      obtain ⟨rfl, rfl, b_441, x_442⟩ := h_440
      try simp only [Int32.reduceToInt, Int64.reduceToInt] at x_442
      refine v_icmp_ne hC dX12_is_28 (tgt := 35) (by decide) (fun h_445 => ?_) (fun h_445 => ?_)
      · simp only [Int32.lt_iff_toInt_lt, Int32.le_iff_toInt_le, Int32.reduceToInt, ← Int32.toInt_inj] at h_445
        refine v_iconst hC dX12_is_35 (v := 0) (by decide) ?_
        refine v_istore_n hC dX12_is_36 (by decide) (lv' := [(2, .int 0), (0, .ref a_0), (1, .ref (eK E a_1))]) rfl ?_
        refine v_iconst hC dX12_is_37 (v := 0) (by decide) ?_
        refine v_istore_n hC dX12_is_38 (by decide) (lv' := [(3, .int 0), (2, .int 0), (0, .ref a_0), (1, .ref (eK E a_1))]) rfl ?_
        have lp_588 : ∀ (n_589 : Nat) (i_583 : Int32) (b_585 : (0 ≤ i_583.toInt ∧ i_583.toInt ≤ 40)) (i_584 : Int32) (b_586 : (0 ≤ i_584.toInt ∧ i_584.toInt ≤ 1)) (cv_587 : IWI (f a_0) (f (q 4)) a_1 i_584 i_583) (hm_591 : 40 - i_583.toInt < (n_589 : Int)), V z E 4 0 0 L f 39 [(3, .int i_583), (2, .int i_584), (0, .ref a_0), (1, .ref (eK E a_1))] [] := by
          intro n_589
          induction n_589 with
          | zero =>
            intro i_583 b_585 i_584 b_586 cv_587 hm_591
            have bs_592 := cv_587.bs
            have fe_593 : fld (f a_0) 8 = (v_28 : Int32).toInt := by rw [e_22]; rfl
            have fe_594 : fld (f a_0) 9 = (v_30 : Int32).toInt := by rw [e_22]; rfl
            have fe_595 : fld (f a_0) 10 = (v_32 : Int32).toInt := by rw [e_22]; rfl
            have fe_596 : fld (f a_0) 12 = (v_35 : Int32).toInt := by rw [e_22]; rfl
            rw [fe_593, fe_594, fe_595, fe_596] at bs_592
            exfalso; omega
          | succ n_589 ih_590 =>
            intro i_583 b_585 i_584 b_586 cv_587 hm_591
            have bs_592 := cv_587.bs
            have fe_593 : fld (f a_0) 8 = (v_28 : Int32).toInt := by rw [e_22]; rfl
            have fe_594 : fld (f a_0) 9 = (v_30 : Int32).toInt := by rw [e_22]; rfl
            have fe_595 : fld (f a_0) 10 = (v_32 : Int32).toInt := by rw [e_22]; rfl
            have fe_596 : fld (f a_0) 12 = (v_35 : Int32).toInt := by rw [e_22]; rfl
            rw [fe_593, fe_594, fe_595, fe_596] at bs_592
            refine v_iload_n hC dX12_is_39 rfl ?_
            refine v_aload_n hC dX12_is_40 rfl ?_
            refine v_viS hC (rest := [.int i_583]) ha_1 rfl mi_J0_length_8abf5 ms_J0_length_8abf5 (p_J0_length_8abf5 hW ha_1) mx_J0_length_8abf5 ml_X12_143 (by decide) rfl (cells1 := 0) (slots1 := 0) (by decide) (by decide) (Nat.le_of_ble_eq_true rfl) (Nat.le_of_ble_eq_true rfl) rfl (Nat.le_of_ble_eq_true rfl) dX12_is_41 (fun r_597 L_598 f_599 h_600 => ?_)
            obtain ⟨rfl, rfl, b_601, x_602⟩ := h_600
            try simp only [Int32.reduceToInt, Int64.reduceToInt] at x_602
            refine v_icmp_ge hC dX12_is_44 (tgt := 82) (by decide) (fun h_605 => ?_) (fun h_605 => ?_)
            · simp only [Int32.lt_iff_toInt_lt, Int32.le_iff_toInt_le, Int32.reduceToInt, ← Int32.toInt_inj] at h_605
              refine v_iload_n hC dX12_is_82 rfl ?_
              exact hR _ _ _ _ _ _ _ dX12_is_83 (nar01 (by first | omega | (simp only [Int32.lt_iff_toInt_lt, Int32.le_iff_toInt_le, Int32.reduceToInt, ← Int32.toInt_inj, true_and, and_true, or_true, true_or, false_or, or_false, false_and, and_false, not_true_eq_false, not_false_eq_true] <;> omega))) (Nat.le_of_ble_eq_true rfl) (Nat.le_of_ble_eq_true rfl) ⟨rfl, rfl, (cv_587.fin (by first | (left; omega) | (right; omega)))⟩
            · simp only [Int32.lt_iff_toInt_lt, Int32.le_iff_toInt_le, Int32.reduceToInt, ← Int32.toInt_inj] at h_605
              refine v_iload_n hC dX12_is_47 rfl ?_
              refine v_if_eq hC dX12_is_48 (tgt := 82) (by decide) (fun h_606 => ?_) (fun h_606 => ?_)
              · simp only [Int32.lt_iff_toInt_lt, Int32.le_iff_toInt_le, Int32.reduceToInt, ← Int32.toInt_inj] at h_606
                refine v_iload_n hC dX12_is_82 rfl ?_
                exact hR _ _ _ _ _ _ _ dX12_is_83 (nar01 (by first | omega | (simp only [Int32.lt_iff_toInt_lt, Int32.le_iff_toInt_le, Int32.reduceToInt, ← Int32.toInt_inj, true_and, and_true, or_true, true_or, false_or, or_false, false_and, and_false, not_true_eq_false, not_false_eq_true] <;> omega))) (Nat.le_of_ble_eq_true rfl) (Nat.le_of_ble_eq_true rfl) ⟨rfl, rfl, (cv_587.fin (by first | (left; omega) | (right; omega)))⟩
              · simp only [Int32.lt_iff_toInt_lt, Int32.le_iff_toInt_le, Int32.reduceToInt, ← Int32.toInt_inj] at h_606
                refine v_aload_n hC dX12_is_51 rfl ?_
                refine v_get hC fl_X12_24 m_1 e_22 rfl dX12_is_52 ?_
                refine v_aload_n hC dX12_is_55 rfl ?_
                refine v_get hC fl_X12_117 m_1 e_22 rfl dX12_is_56 ?_
                refine v_iload_n hC dX12_is_59 rfl ?_
                obtain ⟨v_607, h_608⟩ : ∃ v9 : Int32, v_30 + i_583 = v9 := ⟨_, rfl⟩
                refine v_iadd hC dX12_is_60 h_608 ?_
                have h_609 := add_v h_608 (by first | omega | (simp only [Int32.lt_iff_toInt_lt, Int32.le_iff_toInt_le, Int32.reduceToInt, ← Int32.toInt_inj, true_and, and_true, or_true, true_or, false_or, or_false, false_and, and_false, not_true_eq_false, not_false_eq_true] <;> omega)) (by first | omega | (simp only [Int32.lt_iff_toInt_lt, Int32.le_iff_toInt_le, Int32.reduceToInt, ← Int32.toInt_inj, true_and, and_true, or_true, true_or, false_or, or_false, false_and, and_false, not_true_eq_false, not_false_eq_true] <;> omega))
                obtain ⟨m_610, t_611⟩ := id k_6
                obtain ⟨g_613, e_612, fit_614⟩ := hW.at m_610 t_611
                obtain ⟨v_615, h_616⟩ : ∃ v9 : Int32, g_613 (v_607 : Int32).toNatClampNeg = v9 := ⟨_, rfl⟩
                refine v_bald hC m_610 e_612 (vp_in_iff.mpr (by first | omega | (simp only [Int32.lt_iff_toInt_lt, Int32.le_iff_toInt_le, Int32.reduceToInt, ← Int32.toInt_inj, true_and, and_true, or_true, true_or, false_or, or_false, false_and, and_false, not_true_eq_false, not_false_eq_true] <;> omega))) h_616 dX12_is_61 ?_
                refine v_aload_n hC dX12_is_62 rfl ?_
                refine v_iload_n hC dX12_is_63 rfl ?_
                refine v_viS hC (rest := [.int v_615]) ha_1 rfl mi_J0_charAt_5068e ms_J0_charAt_5068e (p_J0_charAt_5068e hW ha_1 (by first | omega | (simp only [Int32.lt_iff_toInt_lt, Int32.le_iff_toInt_le, Int32.reduceToInt, ← Int32.toInt_inj, true_and, and_true, or_true, true_or, false_or, or_false, false_and, and_false, not_true_eq_false, not_false_eq_true] <;> omega))) mx_J0_charAt_5068e ml_X12_148 (by decide) rfl (cells1 := 0) (slots1 := 0) (by decide) (by decide) (Nat.le_of_ble_eq_true rfl) (Nat.le_of_ble_eq_true rfl) rfl (Nat.le_of_ble_eq_true rfl) dX12_is_64 (fun r_617 L_618 f_619 h_620 => ?_)
                obtain ⟨rfl, rfl, rfl, nr_621⟩ := h_620
                refine v_icmp_ne hC dX12_is_67 (tgt := 74) (by decide) (fun h_624 => ?_) (fun h_624 => ?_)
                · simp only [Int32.lt_iff_toInt_lt, Int32.le_iff_toInt_le, Int32.reduceToInt, ← Int32.toInt_inj] at h_624
                  refine v_iconst hC dX12_is_74 (v := 0) (by decide) ?_
                  refine v_istore_n hC dX12_is_75 (by decide) (lv' := [(2, .int 0), (3, .int i_583), (0, .ref a_0), (1, .ref (eK E a_1))]) rfl ?_
                  obtain ⟨v_625, h_626⟩ : ∃ v9 : Int32, i_583 + Int32.ofInt 1 = v9 := ⟨_, rfl⟩
                  have h_627 := add_v (b := 1) h_626 (by first | omega | (simp only [Int32.lt_iff_toInt_lt, Int32.le_iff_toInt_le, Int32.reduceToInt, ← Int32.toInt_inj, true_and, and_true, or_true, true_or, false_or, or_false, false_and, and_false, not_true_eq_false, not_false_eq_true] <;> omega)) (by first | omega | (simp only [Int32.lt_iff_toInt_lt, Int32.le_iff_toInt_le, Int32.reduceToInt, ← Int32.toInt_inj, true_and, and_true, or_true, true_or, false_or, or_false, false_and, and_false, not_true_eq_false, not_false_eq_true] <;> omega))
                  simp only [Int32.reduceToInt] at h_627
                  refine v_iinc hC dX12_is_76 (k := 1) rfl (v := v_625) h_626 (by decide) (lv' := [(3, .int v_625), (2, .int 0), (0, .ref a_0), (1, .ref (eK E a_1))]) rfl ?_
                  refine v_goto hC dX12_is_79 (tgt := 39) (by decide) ?_
                  refine v_pick [0, 1, 2, 3] rfl ?_
                  have fe_628 : fld (f a_0) 9 = (v_30 : Int32).toInt := by rw [e_22]; rfl
                  exact ih_590 v_625 (by first | omega | (simp only [Int32.lt_iff_toInt_lt, Int32.le_iff_toInt_le, Int32.reduceToInt, ← Int32.toInt_inj, true_and, and_true, or_true, true_or, false_or, or_false, false_and, and_false, not_true_eq_false, not_false_eq_true] <;> omega)) 0 (by decide) (cv_587.no (by omega) (by omega) (by omega) (fun q9 => h_624 (congrArg Int32.toInt ((bat_at (t := f (q 4)) e_612 h_616 (k := i_583) (F := fld (f a_0) 9) (by rw [fe_628]; omega) (by rw [fe_628]; omega) (by omega)).symm.trans q9)))) (by first | omega | (simp only [Int32.lt_iff_toInt_lt, Int32.le_iff_toInt_le, Int32.reduceToInt, ← Int32.toInt_inj, true_and, and_true, or_true, true_or, false_or, or_false, false_and, and_false, not_true_eq_false, not_false_eq_true] <;> omega))
                · simp only [Int32.lt_iff_toInt_lt, Int32.le_iff_toInt_le, Int32.reduceToInt, ← Int32.toInt_inj] at h_624
                  refine v_iconst hC dX12_is_70 (v := 1) (by decide) ?_
                  refine v_goto hC dX12_is_71 (tgt := 75) (by decide) ?_
                  refine v_istore_n hC dX12_is_75 (by decide) (lv' := [(2, .int 1), (3, .int i_583), (0, .ref a_0), (1, .ref (eK E a_1))]) rfl ?_
                  obtain ⟨v_629, h_630⟩ : ∃ v9 : Int32, i_583 + Int32.ofInt 1 = v9 := ⟨_, rfl⟩
                  have h_631 := add_v (b := 1) h_630 (by first | omega | (simp only [Int32.lt_iff_toInt_lt, Int32.le_iff_toInt_le, Int32.reduceToInt, ← Int32.toInt_inj, true_and, and_true, or_true, true_or, false_or, or_false, false_and, and_false, not_true_eq_false, not_false_eq_true] <;> omega)) (by first | omega | (simp only [Int32.lt_iff_toInt_lt, Int32.le_iff_toInt_le, Int32.reduceToInt, ← Int32.toInt_inj, true_and, and_true, or_true, true_or, false_or, or_false, false_and, and_false, not_true_eq_false, not_false_eq_true] <;> omega))
                  simp only [Int32.reduceToInt] at h_631
                  refine v_iinc hC dX12_is_76 (k := 1) rfl (v := v_629) h_630 (by decide) (lv' := [(3, .int v_629), (2, .int 1), (0, .ref a_0), (1, .ref (eK E a_1))]) rfl ?_
                  refine v_goto hC dX12_is_79 (tgt := 39) (by decide) ?_
                  refine v_pick [0, 1, 2, 3] rfl ?_
                  have fe_632 : fld (f a_0) 9 = (v_30 : Int32).toInt := by rw [e_22]; rfl
                  exact ih_590 v_629 (by first | omega | (simp only [Int32.lt_iff_toInt_lt, Int32.le_iff_toInt_le, Int32.reduceToInt, ← Int32.toInt_inj, true_and, and_true, or_true, true_or, false_or, or_false, false_and, and_false, not_true_eq_false, not_false_eq_true] <;> omega)) 1 (by decide) (cv_587.yes (by omega) (by omega) (by omega) ((bat_at (t := f (q 4)) e_612 h_616 (k := i_583) (F := fld (f a_0) 9) (by rw [fe_632]; omega) (by rw [fe_632]; omega) (by omega)).trans (Int32.toInt_inj.mp (by omega)))) (by first | omega | (simp only [Int32.lt_iff_toInt_lt, Int32.le_iff_toInt_le, Int32.reduceToInt, ← Int32.toInt_inj, true_and, and_true, or_true, true_or, false_or, or_false, false_and, and_false, not_true_eq_false, not_false_eq_true] <;> omega))
        refine v_pick [0, 1, 2, 3] rfl ?_
        have fe_633 : fld (f a_0) 8 = (v_28 : Int32).toInt := by rw [e_22]; rfl
        have fe_634 : fld (f a_0) 9 = (v_30 : Int32).toInt := by rw [e_22]; rfl
        have fe_635 : fld (f a_0) 10 = (v_32 : Int32).toInt := by rw [e_22]; rfl
        have fe_636 : fld (f a_0) 12 = (v_35 : Int32).toInt := by rw [e_22]; rfl
        exact lp_588 42 0 (by decide) 0 (by decide) (IWI.s0 (by intro q9; rw [fe_633, fe_634, fe_635, fe_636] at q9; omega)) (by decide)
      · simp only [Int32.lt_iff_toInt_lt, Int32.le_iff_toInt_le, Int32.reduceToInt, ← Int32.toInt_inj] at h_445
        refine v_iconst hC dX12_is_31 (v := 1) (by decide) ?_
        refine v_goto hC dX12_is_32 (tgt := 36) (by decide) ?_
        refine v_istore_n hC dX12_is_36 (by decide) (lv' := [(2, .int 1), (0, .ref a_0), (1, .ref (eK E a_1))]) rfl ?_
        refine v_iconst hC dX12_is_37 (v := 0) (by decide) ?_
        refine v_istore_n hC dX12_is_38 (by decide) (lv' := [(3, .int 0), (2, .int 1), (0, .ref a_0), (1, .ref (eK E a_1))]) rfl ?_
        have lp_779 : ∀ (n_780 : Nat) (i_774 : Int32) (b_776 : (0 ≤ i_774.toInt ∧ i_774.toInt ≤ 40)) (i_775 : Int32) (b_777 : (0 ≤ i_775.toInt ∧ i_775.toInt ≤ 1)) (cv_778 : IWI (f a_0) (f (q 4)) a_1 i_775 i_774) (hm_782 : 40 - i_774.toInt < (n_780 : Int)), V z E 4 0 0 L f 39 [(3, .int i_774), (2, .int i_775), (0, .ref a_0), (1, .ref (eK E a_1))] [] := by
          intro n_780
          induction n_780 with
          | zero =>
            intro i_774 b_776 i_775 b_777 cv_778 hm_782
            have bs_783 := cv_778.bs
            have fe_784 : fld (f a_0) 8 = (v_28 : Int32).toInt := by rw [e_22]; rfl
            have fe_785 : fld (f a_0) 9 = (v_30 : Int32).toInt := by rw [e_22]; rfl
            have fe_786 : fld (f a_0) 10 = (v_32 : Int32).toInt := by rw [e_22]; rfl
            have fe_787 : fld (f a_0) 12 = (v_35 : Int32).toInt := by rw [e_22]; rfl
            rw [fe_784, fe_785, fe_786, fe_787] at bs_783
            exfalso; omega
          | succ n_780 ih_781 =>
            intro i_774 b_776 i_775 b_777 cv_778 hm_782
            have bs_783 := cv_778.bs
            have fe_784 : fld (f a_0) 8 = (v_28 : Int32).toInt := by rw [e_22]; rfl
            have fe_785 : fld (f a_0) 9 = (v_30 : Int32).toInt := by rw [e_22]; rfl
            have fe_786 : fld (f a_0) 10 = (v_32 : Int32).toInt := by rw [e_22]; rfl
            have fe_787 : fld (f a_0) 12 = (v_35 : Int32).toInt := by rw [e_22]; rfl
            rw [fe_784, fe_785, fe_786, fe_787] at bs_783
            refine v_iload_n hC dX12_is_39 rfl ?_
            refine v_aload_n hC dX12_is_40 rfl ?_
            refine v_viS hC (rest := [.int i_774]) ha_1 rfl mi_J0_length_8abf5 ms_J0_length_8abf5 (p_J0_length_8abf5 hW ha_1) mx_J0_length_8abf5 ml_X12_143 (by decide) rfl (cells1 := 0) (slots1 := 0) (by decide) (by decide) (Nat.le_of_ble_eq_true rfl) (Nat.le_of_ble_eq_true rfl) rfl (Nat.le_of_ble_eq_true rfl) dX12_is_41 (fun r_788 L_789 f_790 h_791 => ?_)
            obtain ⟨rfl, rfl, b_792, x_793⟩ := h_791
            try simp only [Int32.reduceToInt, Int64.reduceToInt] at x_793
            refine v_icmp_ge hC dX12_is_44 (tgt := 82) (by decide) (fun h_796 => ?_) (fun h_796 => ?_)
            · simp only [Int32.lt_iff_toInt_lt, Int32.le_iff_toInt_le, Int32.reduceToInt, ← Int32.toInt_inj] at h_796
              refine v_iload_n hC dX12_is_82 rfl ?_
              exact hR _ _ _ _ _ _ _ dX12_is_83 (nar01 (by first | omega | (simp only [Int32.lt_iff_toInt_lt, Int32.le_iff_toInt_le, Int32.reduceToInt, ← Int32.toInt_inj, true_and, and_true, or_true, true_or, false_or, or_false, false_and, and_false, not_true_eq_false, not_false_eq_true] <;> omega))) (Nat.le_of_ble_eq_true rfl) (Nat.le_of_ble_eq_true rfl) ⟨rfl, rfl, (cv_778.fin (by first | (left; omega) | (right; omega)))⟩
            · simp only [Int32.lt_iff_toInt_lt, Int32.le_iff_toInt_le, Int32.reduceToInt, ← Int32.toInt_inj] at h_796
              refine v_iload_n hC dX12_is_47 rfl ?_
              refine v_if_eq hC dX12_is_48 (tgt := 82) (by decide) (fun h_797 => ?_) (fun h_797 => ?_)
              · simp only [Int32.lt_iff_toInt_lt, Int32.le_iff_toInt_le, Int32.reduceToInt, ← Int32.toInt_inj] at h_797
                refine v_iload_n hC dX12_is_82 rfl ?_
                exact hR _ _ _ _ _ _ _ dX12_is_83 (nar01 (by first | omega | (simp only [Int32.lt_iff_toInt_lt, Int32.le_iff_toInt_le, Int32.reduceToInt, ← Int32.toInt_inj, true_and, and_true, or_true, true_or, false_or, or_false, false_and, and_false, not_true_eq_false, not_false_eq_true] <;> omega))) (Nat.le_of_ble_eq_true rfl) (Nat.le_of_ble_eq_true rfl) ⟨rfl, rfl, (cv_778.fin (by first | (left; omega) | (right; omega)))⟩
              · simp only [Int32.lt_iff_toInt_lt, Int32.le_iff_toInt_le, Int32.reduceToInt, ← Int32.toInt_inj] at h_797
                refine v_aload_n hC dX12_is_51 rfl ?_
                refine v_get hC fl_X12_24 m_1 e_22 rfl dX12_is_52 ?_
                refine v_aload_n hC dX12_is_55 rfl ?_
                refine v_get hC fl_X12_117 m_1 e_22 rfl dX12_is_56 ?_
                refine v_iload_n hC dX12_is_59 rfl ?_
                obtain ⟨v_798, h_799⟩ : ∃ v9 : Int32, v_30 + i_774 = v9 := ⟨_, rfl⟩
                refine v_iadd hC dX12_is_60 h_799 ?_
                have h_800 := add_v h_799 (by first | omega | (simp only [Int32.lt_iff_toInt_lt, Int32.le_iff_toInt_le, Int32.reduceToInt, ← Int32.toInt_inj, true_and, and_true, or_true, true_or, false_or, or_false, false_and, and_false, not_true_eq_false, not_false_eq_true] <;> omega)) (by first | omega | (simp only [Int32.lt_iff_toInt_lt, Int32.le_iff_toInt_le, Int32.reduceToInt, ← Int32.toInt_inj, true_and, and_true, or_true, true_or, false_or, or_false, false_and, and_false, not_true_eq_false, not_false_eq_true] <;> omega))
                obtain ⟨m_801, t_802⟩ := id k_6
                obtain ⟨g_804, e_803, fit_805⟩ := hW.at m_801 t_802
                obtain ⟨v_806, h_807⟩ : ∃ v9 : Int32, g_804 (v_798 : Int32).toNatClampNeg = v9 := ⟨_, rfl⟩
                refine v_bald hC m_801 e_803 (vp_in_iff.mpr (by first | omega | (simp only [Int32.lt_iff_toInt_lt, Int32.le_iff_toInt_le, Int32.reduceToInt, ← Int32.toInt_inj, true_and, and_true, or_true, true_or, false_or, or_false, false_and, and_false, not_true_eq_false, not_false_eq_true] <;> omega))) h_807 dX12_is_61 ?_
                refine v_aload_n hC dX12_is_62 rfl ?_
                refine v_iload_n hC dX12_is_63 rfl ?_
                refine v_viS hC (rest := [.int v_806]) ha_1 rfl mi_J0_charAt_5068e ms_J0_charAt_5068e (p_J0_charAt_5068e hW ha_1 (by first | omega | (simp only [Int32.lt_iff_toInt_lt, Int32.le_iff_toInt_le, Int32.reduceToInt, ← Int32.toInt_inj, true_and, and_true, or_true, true_or, false_or, or_false, false_and, and_false, not_true_eq_false, not_false_eq_true] <;> omega))) mx_J0_charAt_5068e ml_X12_148 (by decide) rfl (cells1 := 0) (slots1 := 0) (by decide) (by decide) (Nat.le_of_ble_eq_true rfl) (Nat.le_of_ble_eq_true rfl) rfl (Nat.le_of_ble_eq_true rfl) dX12_is_64 (fun r_808 L_809 f_810 h_811 => ?_)
                obtain ⟨rfl, rfl, rfl, nr_812⟩ := h_811
                refine v_icmp_ne hC dX12_is_67 (tgt := 74) (by decide) (fun h_815 => ?_) (fun h_815 => ?_)
                · simp only [Int32.lt_iff_toInt_lt, Int32.le_iff_toInt_le, Int32.reduceToInt, ← Int32.toInt_inj] at h_815
                  refine v_iconst hC dX12_is_74 (v := 0) (by decide) ?_
                  refine v_istore_n hC dX12_is_75 (by decide) (lv' := [(2, .int 0), (3, .int i_774), (0, .ref a_0), (1, .ref (eK E a_1))]) rfl ?_
                  obtain ⟨v_816, h_817⟩ : ∃ v9 : Int32, i_774 + Int32.ofInt 1 = v9 := ⟨_, rfl⟩
                  have h_818 := add_v (b := 1) h_817 (by first | omega | (simp only [Int32.lt_iff_toInt_lt, Int32.le_iff_toInt_le, Int32.reduceToInt, ← Int32.toInt_inj, true_and, and_true, or_true, true_or, false_or, or_false, false_and, and_false, not_true_eq_false, not_false_eq_true] <;> omega)) (by first | omega | (simp only [Int32.lt_iff_toInt_lt, Int32.le_iff_toInt_le, Int32.reduceToInt, ← Int32.toInt_inj, true_and, and_true, or_true, true_or, false_or, or_false, false_and, and_false, not_true_eq_false, not_false_eq_true] <;> omega))
                  simp only [Int32.reduceToInt] at h_818
                  refine v_iinc hC dX12_is_76 (k := 1) rfl (v := v_816) h_817 (by decide) (lv' := [(3, .int v_816), (2, .int 0), (0, .ref a_0), (1, .ref (eK E a_1))]) rfl ?_
                  refine v_goto hC dX12_is_79 (tgt := 39) (by decide) ?_
                  refine v_pick [0, 1, 2, 3] rfl ?_
                  have fe_819 : fld (f a_0) 9 = (v_30 : Int32).toInt := by rw [e_22]; rfl
                  exact ih_781 v_816 (by first | omega | (simp only [Int32.lt_iff_toInt_lt, Int32.le_iff_toInt_le, Int32.reduceToInt, ← Int32.toInt_inj, true_and, and_true, or_true, true_or, false_or, or_false, false_and, and_false, not_true_eq_false, not_false_eq_true] <;> omega)) 0 (by decide) (cv_778.no (by omega) (by omega) (by omega) (fun q9 => h_815 (congrArg Int32.toInt ((bat_at (t := f (q 4)) e_803 h_807 (k := i_774) (F := fld (f a_0) 9) (by rw [fe_819]; omega) (by rw [fe_819]; omega) (by omega)).symm.trans q9)))) (by first | omega | (simp only [Int32.lt_iff_toInt_lt, Int32.le_iff_toInt_le, Int32.reduceToInt, ← Int32.toInt_inj, true_and, and_true, or_true, true_or, false_or, or_false, false_and, and_false, not_true_eq_false, not_false_eq_true] <;> omega))
                · simp only [Int32.lt_iff_toInt_lt, Int32.le_iff_toInt_le, Int32.reduceToInt, ← Int32.toInt_inj] at h_815
                  refine v_iconst hC dX12_is_70 (v := 1) (by decide) ?_
                  refine v_goto hC dX12_is_71 (tgt := 75) (by decide) ?_
                  refine v_istore_n hC dX12_is_75 (by decide) (lv' := [(2, .int 1), (3, .int i_774), (0, .ref a_0), (1, .ref (eK E a_1))]) rfl ?_
                  obtain ⟨v_820, h_821⟩ : ∃ v9 : Int32, i_774 + Int32.ofInt 1 = v9 := ⟨_, rfl⟩
                  have h_822 := add_v (b := 1) h_821 (by first | omega | (simp only [Int32.lt_iff_toInt_lt, Int32.le_iff_toInt_le, Int32.reduceToInt, ← Int32.toInt_inj, true_and, and_true, or_true, true_or, false_or, or_false, false_and, and_false, not_true_eq_false, not_false_eq_true] <;> omega)) (by first | omega | (simp only [Int32.lt_iff_toInt_lt, Int32.le_iff_toInt_le, Int32.reduceToInt, ← Int32.toInt_inj, true_and, and_true, or_true, true_or, false_or, or_false, false_and, and_false, not_true_eq_false, not_false_eq_true] <;> omega))
                  simp only [Int32.reduceToInt] at h_822
                  refine v_iinc hC dX12_is_76 (k := 1) rfl (v := v_820) h_821 (by decide) (lv' := [(3, .int v_820), (2, .int 1), (0, .ref a_0), (1, .ref (eK E a_1))]) rfl ?_
                  refine v_goto hC dX12_is_79 (tgt := 39) (by decide) ?_
                  refine v_pick [0, 1, 2, 3] rfl ?_
                  have fe_823 : fld (f a_0) 9 = (v_30 : Int32).toInt := by rw [e_22]; rfl
                  exact ih_781 v_820 (by first | omega | (simp only [Int32.lt_iff_toInt_lt, Int32.le_iff_toInt_le, Int32.reduceToInt, ← Int32.toInt_inj, true_and, and_true, or_true, true_or, false_or, or_false, false_and, and_false, not_true_eq_false, not_false_eq_true] <;> omega)) 1 (by decide) (cv_778.yes (by omega) (by omega) (by omega) ((bat_at (t := f (q 4)) e_803 h_807 (k := i_774) (F := fld (f a_0) 9) (by rw [fe_823]; omega) (by rw [fe_823]; omega) (by omega)).trans (Int32.toInt_inj.mp (by omega)))) (by first | omega | (simp only [Int32.lt_iff_toInt_lt, Int32.le_iff_toInt_le, Int32.reduceToInt, ← Int32.toInt_inj, true_and, and_true, or_true, true_or, false_or, or_false, false_and, and_false, not_true_eq_false, not_false_eq_true] <;> omega))
        refine v_pick [0, 1, 2, 3] rfl ?_
        have fe_824 : fld (f a_0) 8 = (v_28 : Int32).toInt := by rw [e_22]; rfl
        have fe_825 : fld (f a_0) 9 = (v_30 : Int32).toInt := by rw [e_22]; rfl
        have fe_826 : fld (f a_0) 10 = (v_32 : Int32).toInt := by rw [e_22]; rfl
        have fe_827 : fld (f a_0) 12 = (v_35 : Int32).toInt := by rw [e_22]; rfl
        exact lp_779 42 0 (by decide) 1 (by decide) (IWI.s1 (by rw [fe_827]; omega) (by rw [fe_826]; omega) (by rw [fe_824, fe_825]; omega)) (by decide)
set_option maxRecDepth 100000 in
set_option maxHeartbeats 8000000 in
theorem p_X12_takes {l : Launch} {E : Ez} {L : List Nat} {f : Nat → va_E} {T : Nat → va_E → Prop} {a_0 : Nat} {a_1 : Nat} {q : Nat → Nat} (hW : WT T L f) (k_0 : isM T L E a_0 q) (ha_1 : a_1 < 77) : CI l yX12_takes cX12_takes 3 .boolean 5 0 0 E [.ref a_0, .ref (eK E a_1)] L f (fun r L1 f1 => L = L1 ∧ WT T L f1 ∧ FR [12] f f1 ∧ r = (iw (f a_0) (f (q 4)) a_1) ∧ ((iw (f a_0) (f (q 4)) a_1).toInt = 0 ∨ ((fld (f a_0) 8 ≤ fld (f1 a_0) 9 ∧ fld (f1 a_0) 9 ≤ fld (f1 a_0) 8) ∧ (fld (f1 a_0) 10 = 0 ∨ fld (f1 a_0) 9 < fld (f1 a_0) 8))) ∧ (¬ (iw (f a_0) (f (q 4)) a_1).toInt = 0 ∨ (fld (f1 a_0) 8 = fld (f a_0) 8 ∧ fld (f1 a_0) 9 = fld (f a_0) 9 ∧ fld (f1 a_0) 10 = fld (f a_0) 10)) ∧ fld (f1 a_0) 12 = fld (f a_0) 12 ∧ fld (f1 a_0) 20 = fld (f a_0) 20) := by
  refine ci_of (by decide) (Nat.le_of_ble_eq_true rfl) (fun z hz hnm hC hR => ?_)
  have hC : Cx z E cX12_takes RX12 3 5 0 0 := hC
  subst hz
  show V z E 3 0 0 L f 0 [(0, .ref a_0), (1, .ref (eK E a_1))] []
  obtain ⟨m_1, t_2, nq_21, k_3, k_4, k_5, k_6, k_7, k_8, k_9, k_10, k_11, k_12, k_13, k_14, k_15, k_16, k_17, k_18, k_19, k_20⟩ := id k_0
  obtain ⟨v_23, v_24, v_26, v_28, v_30, v_32, v_34, v_35, v_36, v_37, v_39, e_22, b_25, b_27, b_29, b_31, b_33, b_38, b_40⟩ := hW.at m_1 t_2
  have mz_41 : fld (f a_0) 8 = v_28.toInt := by rw [e_22]; rfl
  have mz_42 : fld (f a_0) 9 = v_30.toInt := by rw [e_22]; rfl
  have mz_43 : fld (f a_0) 10 = v_32.toInt := by rw [e_22]; rfl
  have mz_44 : fld (f a_0) 12 = v_35.toInt := by rw [e_22]; rfl
  have mz_45 : fld (f a_0) 20 = v_39.toInt := by rw [e_22]; rfl
  refine v_aload_n hC dX12_takes_0 rfl ?_
  refine v_aload_n hC dX12_takes_1 rfl ?_
  refine v_vi hC (rest := []) m_1 e_22 rfl mi_X12_is ms_X12_is (p_X12_is hW k_0 ha_1) mx_X12_is ml_X12_152 (by decide) rfl (cells1 := 0) (slots1 := 0) (by decide) (by decide) (Nat.le_of_ble_eq_true rfl) (Nat.le_of_ble_eq_true rfl) rfl (Nat.le_of_ble_eq_true rfl) dX12_takes_2 (fun r_46 L_47 f_48 h_49 => ?_)
  obtain ⟨rfl, rfl, rfl⟩ := h_49
  have fe_52 : fld (f a_0) 8 = (v_28 : Int32).toInt := by rw [e_22]; rfl
  have fe_53 : fld (f a_0) 9 = (v_30 : Int32).toInt := by rw [e_22]; rfl
  have fe_54 : fld (f a_0) 10 = (v_32 : Int32).toInt := by rw [e_22]; rfl
  have fe_55 : fld (f a_0) 12 = (v_35 : Int32).toInt := by rw [e_22]; rfl
  have ib_56 := iw_b (f a_0) (f (q 4)) a_1
  rw [fe_55, fe_54, fe_52, fe_53] at ib_56
  clear fe_52 fe_53 fe_54 fe_55
  refine v_istore_n hC dX12_takes_5 (by decide) (lv' := [(2, .int (iw (f a_0) (f (q 4)) a_1)), (0, .ref a_0), (1, .ref (eK E a_1))]) rfl ?_
  refine v_iload_n hC dX12_takes_6 rfl ?_
  refine v_if_eq hC dX12_takes_7 (tgt := 14) (by decide) (fun h_57 => ?_) (fun h_57 => ?_)
  · simp only [Int32.lt_iff_toInt_lt, Int32.le_iff_toInt_le, Int32.reduceToInt, ← Int32.toInt_inj] at h_57
    refine v_iload_n hC dX12_takes_14 rfl ?_
    have fe_58 : fld (f a_0) 8 = (v_28 : Int32).toInt := by rw [e_22]; rfl
    have fe_59 : fld (f a_0) 9 = (v_30 : Int32).toInt := by rw [e_22]; rfl
    have fe_60 : fld (f a_0) 10 = (v_32 : Int32).toInt := by rw [e_22]; rfl
    have fe_61 : fld (f a_0) 8 = (v_28 : Int32).toInt := by rw [e_22]; rfl
    have fe_62 : fld (f a_0) 9 = (v_30 : Int32).toInt := by rw [e_22]; rfl
    have fe_63 : fld (f a_0) 10 = (v_32 : Int32).toInt := by rw [e_22]; rfl
    have fe_64 : fld (f a_0) 12 = (v_35 : Int32).toInt := by rw [e_22]; rfl
    have fe_65 : fld (f a_0) 20 = (v_39 : Int32).toInt := by rw [e_22]; rfl
    exact hR _ _ _ _ _ _ _ dX12_takes_15 (nar01 (by first | omega | (simp only [Int32.lt_iff_toInt_lt, Int32.le_iff_toInt_le, Int32.reduceToInt, ← Int32.toInt_inj, true_and, and_true, or_true, true_or, false_or, or_false, false_and, and_false, not_true_eq_false, not_false_eq_true] <;> omega))) (Nat.le_of_ble_eq_true rfl) (Nat.le_of_ble_eq_true rfl) ⟨rfl, hW, FR.rf, rfl, (by simp only [fe_58, fe_59, fe_60, mz_41, true_and, and_true, or_true, true_or, false_or, or_false, false_and, and_false, not_true_eq_false, not_false_eq_true] <;> first | omega | (simp only [Int32.lt_iff_toInt_lt, Int32.le_iff_toInt_le, Int32.reduceToInt, ← Int32.toInt_inj, true_and, and_true, or_true, true_or, false_or, or_false, false_and, and_false, not_true_eq_false, not_false_eq_true] <;> omega)), (by simp only [fe_61, fe_62, fe_63, mz_41, mz_42, mz_43, true_and, and_true, or_true, true_or, false_or, or_false, false_and, and_false, not_true_eq_false, not_false_eq_true] <;> first | omega | (simp only [Int32.lt_iff_toInt_lt, Int32.le_iff_toInt_le, Int32.reduceToInt, ← Int32.toInt_inj, true_and, and_true, or_true, true_or, false_or, or_false, false_and, and_false, not_true_eq_false, not_false_eq_true] <;> omega)), (by simp only [fe_64, mz_44, true_and, and_true, or_true, true_or, false_or, or_false, false_and, and_false, not_true_eq_false, not_false_eq_true] <;> first | omega | (simp only [Int32.lt_iff_toInt_lt, Int32.le_iff_toInt_le, Int32.reduceToInt, ← Int32.toInt_inj, true_and, and_true, or_true, true_or, false_or, or_false, false_and, and_false, not_true_eq_false, not_false_eq_true] <;> omega)), (by simp only [fe_65, mz_45, true_and, and_true, or_true, true_or, false_or, or_false, false_and, and_false, not_true_eq_false, not_false_eq_true] <;> first | omega | (simp only [Int32.lt_iff_toInt_lt, Int32.le_iff_toInt_le, Int32.reduceToInt, ← Int32.toInt_inj, true_and, and_true, or_true, true_or, false_or, or_false, false_and, and_false, not_true_eq_false, not_false_eq_true] <;> omega))⟩
  · simp only [Int32.lt_iff_toInt_lt, Int32.le_iff_toInt_le, Int32.reduceToInt, ← Int32.toInt_inj] at h_57
    refine v_aload_n hC dX12_takes_10 rfl ?_
    refine v_vv hC (rest := []) m_1 e_22 rfl mi_X12_advance ms_X12_advance (p_X12_advance hW k_0) mx_X12_advance ml_X12_156 (by decide) rfl (cells1 := 0) (slots1 := 0) (by decide) (by decide) (Nat.le_of_ble_eq_true rfl) (Nat.le_of_ble_eq_true rfl) rfl (Nat.le_of_ble_eq_true rfl) dX12_takes_11 (fun L_67 f_68 h_69 => ?_)
    obtain ⟨rfl, hW_74, hF_75, x_70, x_71, x_72, x_73⟩ := h_69
    have fe_76 : fld (f a_0) 8 = (v_28 : Int32).toInt := by rw [e_22]; rfl
    have fe_77 : fld (f a_0) 12 = (v_35 : Int32).toInt := by rw [e_22]; rfl
    have fe_78 : fld (f a_0) 20 = (v_39 : Int32).toInt := by rw [e_22]; rfl
    obtain ⟨v_80, v_81, v_83, v_85, v_87, v_89, v_91, v_92, v_93, v_94, v_96, e_79, b_82, b_84, b_86, b_88, b_90, b_95, b_97⟩ := hW_74.at m_1 t_2
    have fe_98 : fld (f_68 a_0) 8 = (v_85 : Int32).toInt := by rw [e_79]; rfl
    have fe_99 : fld (f_68 a_0) 9 = (v_87 : Int32).toInt := by rw [e_79]; rfl
    have fe_100 : fld (f_68 a_0) 10 = (v_89 : Int32).toInt := by rw [e_79]; rfl
    have fe_101 : fld (f_68 a_0) 12 = (v_92 : Int32).toInt := by rw [e_79]; rfl
    have fe_102 : fld (f_68 a_0) 20 = (v_96 : Int32).toInt := by rw [e_79]; rfl
    rw [fe_76, fe_99, fe_98] at x_70
    rw [fe_100, fe_99, fe_98] at x_71
    rw [fe_101, fe_77] at x_72
    rw [fe_102, fe_78] at x_73
    clear fe_76 fe_77 fe_78 fe_98 fe_99 fe_100 fe_101 fe_102
    refine v_iload_n hC dX12_takes_14 rfl ?_
    have fe_103 : fld (f_68 a_0) 8 = (v_85 : Int32).toInt := by rw [e_79]; rfl
    have fe_104 : fld (f_68 a_0) 9 = (v_87 : Int32).toInt := by rw [e_79]; rfl
    have fe_105 : fld (f_68 a_0) 10 = (v_89 : Int32).toInt := by rw [e_79]; rfl
    have fe_106 : fld (f_68 a_0) 8 = (v_85 : Int32).toInt := by rw [e_79]; rfl
    have fe_107 : fld (f_68 a_0) 9 = (v_87 : Int32).toInt := by rw [e_79]; rfl
    have fe_108 : fld (f_68 a_0) 10 = (v_89 : Int32).toInt := by rw [e_79]; rfl
    have fe_109 : fld (f_68 a_0) 12 = (v_92 : Int32).toInt := by rw [e_79]; rfl
    have fe_110 : fld (f_68 a_0) 20 = (v_96 : Int32).toInt := by rw [e_79]; rfl
    exact hR _ _ _ _ _ _ _ dX12_takes_15 (nar01 (by first | omega | (simp only [Int32.lt_iff_toInt_lt, Int32.le_iff_toInt_le, Int32.reduceToInt, ← Int32.toInt_inj, true_and, and_true, or_true, true_or, false_or, or_false, false_and, and_false, not_true_eq_false, not_false_eq_true] <;> omega))) (Nat.le_of_ble_eq_true rfl) (Nat.le_of_ble_eq_true rfl) ⟨rfl, hW_74, (hF_75.mono rfl), rfl, (by simp only [fe_103, fe_104, fe_105, mz_41, true_and, and_true, or_true, true_or, false_or, or_false, false_and, and_false, not_true_eq_false, not_false_eq_true] <;> first | omega | (simp only [Int32.lt_iff_toInt_lt, Int32.le_iff_toInt_le, Int32.reduceToInt, ← Int32.toInt_inj, true_and, and_true, or_true, true_or, false_or, or_false, false_and, and_false, not_true_eq_false, not_false_eq_true] <;> omega)), (by simp only [fe_106, fe_107, fe_108, mz_41, mz_42, mz_43, true_and, and_true, or_true, true_or, false_or, or_false, false_and, and_false, not_true_eq_false, not_false_eq_true] <;> first | omega | (simp only [Int32.lt_iff_toInt_lt, Int32.le_iff_toInt_le, Int32.reduceToInt, ← Int32.toInt_inj, true_and, and_true, or_true, true_or, false_or, or_false, false_and, and_false, not_true_eq_false, not_false_eq_true] <;> omega)), (by simp only [fe_109, mz_44, true_and, and_true, or_true, true_or, false_or, or_false, false_and, and_false, not_true_eq_false, not_false_eq_true] <;> first | omega | (simp only [Int32.lt_iff_toInt_lt, Int32.le_iff_toInt_le, Int32.reduceToInt, ← Int32.toInt_inj, true_and, and_true, or_true, true_or, false_or, or_false, false_and, and_false, not_true_eq_false, not_false_eq_true] <;> omega)), (by simp only [fe_110, mz_45, true_and, and_true, or_true, true_or, false_or, or_false, false_and, and_false, not_true_eq_false, not_false_eq_true] <;> first | omega | (simp only [Int32.lt_iff_toInt_lt, Int32.le_iff_toInt_le, Int32.reduceToInt, ← Int32.toInt_inj, true_and, and_true, or_true, true_or, false_or, or_false, false_and, and_false, not_true_eq_false, not_false_eq_true] <;> omega))⟩
set_option maxRecDepth 100000 in
set_option maxHeartbeats 8000000 in
theorem p_X12_errs {l : Launch} {E : Ez} {L : List Nat} {f : Nat → va_E} {T : Nat → va_E → Prop} {a_0 : Nat} {a_1 : Int32} {q : Nat → Nat} (hW : WT T L f) (k_0 : isM T L E a_0 q) (g_1 : (1 ≤ a_1.toInt ∧ a_1.toInt ≤ 3)) : CV l yX12_errs cX12_errs 2 1 0 0 E [.ref a_0, .int a_1] L f (fun L1 f1 => L = L1 ∧ WT T L f1 ∧ FR [12] f f1 ∧ ¬ fld (f1 a_0) 12 = 0 ∧ fld (f1 a_0) 8 = fld (f a_0) 8 ∧ fld (f1 a_0) 9 = fld (f a_0) 9 ∧ fld (f1 a_0) 10 = fld (f a_0) 10 ∧ fld (f1 a_0) 20 = fld (f a_0) 20) := by
  refine cv_of (by decide) (Nat.le_of_ble_eq_true rfl) (fun z hz hnm hC hR => ?_)
  have hC : Cx z E cX12_errs RX12 2 1 0 0 := hC
  subst hz
  show V z E 2 0 0 L f 0 [(0, .ref a_0), (1, .int a_1)] []
  obtain ⟨m_1, t_2, nq_21, k_3, k_4, k_5, k_6, k_7, k_8, k_9, k_10, k_11, k_12, k_13, k_14, k_15, k_16, k_17, k_18, k_19, k_20⟩ := id k_0
  obtain ⟨v_23, v_24, v_26, v_28, v_30, v_32, v_34, v_35, v_36, v_37, v_39, e_22, b_25, b_27, b_29, b_31, b_33, b_38, b_40⟩ := hW.at m_1 t_2
  have mz_41 : fld (f a_0) 8 = v_28.toInt := by rw [e_22]; rfl
  have mz_42 : fld (f a_0) 9 = v_30.toInt := by rw [e_22]; rfl
  have mz_43 : fld (f a_0) 10 = v_32.toInt := by rw [e_22]; rfl
  have mz_44 : fld (f a_0) 20 = v_39.toInt := by rw [e_22]; rfl
  refine v_aload_n hC dX12_errs_0 rfl ?_
  refine v_vi hC (rest := []) m_1 e_22 rfl mi_X12_good ms_X12_good (p_X12_good hW k_0) mx_X12_good ml_X12_139 (by decide) rfl (cells1 := 0) (slots1 := 0) (by decide) (by decide) (Nat.le_of_ble_eq_true rfl) (Nat.le_of_ble_eq_true rfl) rfl (Nat.le_of_ble_eq_true rfl) dX12_errs_1 (fun r_45 L_46 f_47 h_48 => ?_)
  obtain ⟨rfl, rfl, b_49, x_50⟩ := h_48
  have fe_53 : fld (f a_0) 12 = (v_35 : Int32).toInt := by rw [e_22]; rfl
  rw [fe_53] at x_50
  clear fe_53
  try simp only [Int32.reduceToInt, Int64.reduceToInt] at x_50
  refine v_if_ne hC dX12_errs_4 (tgt := 8) (by decide) (fun h_54 => ?_) (fun h_54 => ?_)
  · simp only [Int32.lt_iff_toInt_lt, Int32.le_iff_toInt_le, Int32.reduceToInt, ← Int32.toInt_inj] at h_54
    refine v_aload_n hC dX12_errs_8 rfl ?_
    refine v_iload_n hC dX12_errs_9 rfl ?_
    refine v_put hC fl_X12_111 m_1 e_22 rfl rfl (Nat.le_of_ble_eq_true rfl) (fs' := [.int v_23, .ref (q 1), .ref (q 2), .ref (q 3), .ref (q 4), .int v_24, .ref (q 6), .int v_26, .int v_28, .int v_30, .int v_32, .int v_34, .int a_1, .int v_36, .ref (q 14), .ref (q 15), .ref (q 16), .int v_37, .ref (q 18), .ref (q 19), .int v_39, .ref (q 21), .ref (q 22), .ref (q 23), .ref (q 24), .ref (q 25), .ref (q 26), .ref (q 27), .ref (q 28)]) rfl dX12_errs_10 (fun f_55 hf_56 hk_57 => ?_)
    have hW_58 := hW.up hf_56 hk_57 t_2 ⟨v_23, v_24, v_26, v_28, v_30, v_32, v_34, a_1, v_36, v_37, v_39, rfl, (by first | omega | (simp only [Int32.lt_iff_toInt_lt, Int32.le_iff_toInt_le, Int32.reduceToInt, ← Int32.toInt_inj, true_and, and_true, or_true, true_or, false_or, or_false, false_and, and_false, not_true_eq_false, not_false_eq_true] <;> omega)), (by first | omega | (simp only [Int32.lt_iff_toInt_lt, Int32.le_iff_toInt_le, Int32.reduceToInt, ← Int32.toInt_inj, true_and, and_true, or_true, true_or, false_or, or_false, false_and, and_false, not_true_eq_false, not_false_eq_true] <;> omega)), (by first | omega | (simp only [Int32.lt_iff_toInt_lt, Int32.le_iff_toInt_le, Int32.reduceToInt, ← Int32.toInt_inj, true_and, and_true, or_true, true_or, false_or, or_false, false_and, and_false, not_true_eq_false, not_false_eq_true] <;> omega)), (by first | omega | (simp only [Int32.lt_iff_toInt_lt, Int32.le_iff_toInt_le, Int32.reduceToInt, ← Int32.toInt_inj, true_and, and_true, or_true, true_or, false_or, or_false, false_and, and_false, not_true_eq_false, not_false_eq_true] <;> omega)), (by first | omega | (simp only [Int32.lt_iff_toInt_lt, Int32.le_iff_toInt_le, Int32.reduceToInt, ← Int32.toInt_inj, true_and, and_true, or_true, true_or, false_or, or_false, false_and, and_false, not_true_eq_false, not_false_eq_true] <;> omega)), (by first | omega | (simp only [Int32.lt_iff_toInt_lt, Int32.le_iff_toInt_le, Int32.reduceToInt, ← Int32.toInt_inj, true_and, and_true, or_true, true_or, false_or, or_false, false_and, and_false, not_true_eq_false, not_false_eq_true] <;> omega)), (by first | omega | (simp only [Int32.lt_iff_toInt_lt, Int32.le_iff_toInt_le, Int32.reduceToInt, ← Int32.toInt_inj, true_and, and_true, or_true, true_or, false_or, or_false, false_and, and_false, not_true_eq_false, not_false_eq_true] <;> omega))⟩
    have fr_59 := FR.w hk_57 e_22 (k := 12) rfl
    refine v_aload_n hC dX12_errs_13 rfl ?_
    refine v_aload_n hC dX12_errs_14 rfl ?_
    refine v_get hC fl_X12_117 m_1 hf_56 rfl dX12_errs_15 ?_
    refine v_put hC fl_X12_31 m_1 hf_56 rfl rfl (Nat.le_of_ble_eq_true rfl) (fs' := [.int v_23, .ref (q 1), .ref (q 2), .ref (q 3), .ref (q 4), .int v_24, .ref (q 6), .int v_26, .int v_28, .int v_30, .int v_32, .int v_34, .int a_1, .int v_30, .ref (q 14), .ref (q 15), .ref (q 16), .int v_37, .ref (q 18), .ref (q 19), .int v_39, .ref (q 21), .ref (q 22), .ref (q 23), .ref (q 24), .ref (q 25), .ref (q 26), .ref (q 27), .ref (q 28)]) rfl dX12_errs_18 (fun f_60 hf_61 hk_62 => ?_)
    have hW_63 := hW_58.up hf_61 hk_62 t_2 ⟨v_23, v_24, v_26, v_28, v_30, v_32, v_34, a_1, v_30, v_37, v_39, rfl, (by first | omega | (simp only [Int32.lt_iff_toInt_lt, Int32.le_iff_toInt_le, Int32.reduceToInt, ← Int32.toInt_inj, true_and, and_true, or_true, true_or, false_or, or_false, false_and, and_false, not_true_eq_false, not_false_eq_true] <;> omega)), (by first | omega | (simp only [Int32.lt_iff_toInt_lt, Int32.le_iff_toInt_le, Int32.reduceToInt, ← Int32.toInt_inj, true_and, and_true, or_true, true_or, false_or, or_false, false_and, and_false, not_true_eq_false, not_false_eq_true] <;> omega)), (by first | omega | (simp only [Int32.lt_iff_toInt_lt, Int32.le_iff_toInt_le, Int32.reduceToInt, ← Int32.toInt_inj, true_and, and_true, or_true, true_or, false_or, or_false, false_and, and_false, not_true_eq_false, not_false_eq_true] <;> omega)), (by first | omega | (simp only [Int32.lt_iff_toInt_lt, Int32.le_iff_toInt_le, Int32.reduceToInt, ← Int32.toInt_inj, true_and, and_true, or_true, true_or, false_or, or_false, false_and, and_false, not_true_eq_false, not_false_eq_true] <;> omega)), (by first | omega | (simp only [Int32.lt_iff_toInt_lt, Int32.le_iff_toInt_le, Int32.reduceToInt, ← Int32.toInt_inj, true_and, and_true, or_true, true_or, false_or, or_false, false_and, and_false, not_true_eq_false, not_false_eq_true] <;> omega)), (by first | omega | (simp only [Int32.lt_iff_toInt_lt, Int32.le_iff_toInt_le, Int32.reduceToInt, ← Int32.toInt_inj, true_and, and_true, or_true, true_or, false_or, or_false, false_and, and_false, not_true_eq_false, not_false_eq_true] <;> omega)), (by first | omega | (simp only [Int32.lt_iff_toInt_lt, Int32.le_iff_toInt_le, Int32.reduceToInt, ← Int32.toInt_inj, true_and, and_true, or_true, true_or, false_or, or_false, false_and, and_false, not_true_eq_false, not_false_eq_true] <;> omega))⟩
    have fr_64 := FR.w hk_62 hf_56 (k := 12) rfl
    have fe_65 : fld (f_60 a_0) 12 = (a_1 : Int32).toInt := by rw [hf_61]; rfl
    have fe_66 : fld (f_60 a_0) 8 = (v_28 : Int32).toInt := by rw [hf_61]; rfl
    have fe_67 : fld (f_60 a_0) 9 = (v_30 : Int32).toInt := by rw [hf_61]; rfl
    have fe_68 : fld (f_60 a_0) 10 = (v_32 : Int32).toInt := by rw [hf_61]; rfl
    have fe_69 : fld (f_60 a_0) 20 = (v_39 : Int32).toInt := by rw [hf_61]; rfl
    exact hR _ _ _ _ _ _ dX12_errs_21 (Nat.le_of_ble_eq_true rfl) (Nat.le_of_ble_eq_true rfl) ⟨rfl, hW_63, ((fr_59.tr fr_64).mono rfl), (by simp only [fe_65, true_and, and_true, or_true, true_or, false_or, or_false, false_and, and_false, not_true_eq_false, not_false_eq_true] <;> first | omega | (simp only [Int32.lt_iff_toInt_lt, Int32.le_iff_toInt_le, Int32.reduceToInt, ← Int32.toInt_inj, true_and, and_true, or_true, true_or, false_or, or_false, false_and, and_false, not_true_eq_false, not_false_eq_true] <;> omega)), (by simp only [fe_66, mz_41, true_and, and_true, or_true, true_or, false_or, or_false, false_and, and_false, not_true_eq_false, not_false_eq_true] <;> first | omega | (simp only [Int32.lt_iff_toInt_lt, Int32.le_iff_toInt_le, Int32.reduceToInt, ← Int32.toInt_inj, true_and, and_true, or_true, true_or, false_or, or_false, false_and, and_false, not_true_eq_false, not_false_eq_true] <;> omega)), (by simp only [fe_67, mz_42, true_and, and_true, or_true, true_or, false_or, or_false, false_and, and_false, not_true_eq_false, not_false_eq_true] <;> first | omega | (simp only [Int32.lt_iff_toInt_lt, Int32.le_iff_toInt_le, Int32.reduceToInt, ← Int32.toInt_inj, true_and, and_true, or_true, true_or, false_or, or_false, false_and, and_false, not_true_eq_false, not_false_eq_true] <;> omega)), (by simp only [fe_68, mz_43, true_and, and_true, or_true, true_or, false_or, or_false, false_and, and_false, not_true_eq_false, not_false_eq_true] <;> first | omega | (simp only [Int32.lt_iff_toInt_lt, Int32.le_iff_toInt_le, Int32.reduceToInt, ← Int32.toInt_inj, true_and, and_true, or_true, true_or, false_or, or_false, false_and, and_false, not_true_eq_false, not_false_eq_true] <;> omega)), (by simp only [fe_69, mz_44, true_and, and_true, or_true, true_or, false_or, or_false, false_and, and_false, not_true_eq_false, not_false_eq_true] <;> first | omega | (simp only [Int32.lt_iff_toInt_lt, Int32.le_iff_toInt_le, Int32.reduceToInt, ← Int32.toInt_inj, true_and, and_true, or_true, true_or, false_or, or_false, false_and, and_false, not_true_eq_false, not_false_eq_true] <;> omega))⟩
  · simp only [Int32.lt_iff_toInt_lt, Int32.le_iff_toInt_le, Int32.reduceToInt, ← Int32.toInt_inj] at h_54
    have fe_70 : fld (f a_0) 12 = (v_35 : Int32).toInt := by rw [e_22]; rfl
    have fe_71 : fld (f a_0) 8 = (v_28 : Int32).toInt := by rw [e_22]; rfl
    have fe_72 : fld (f a_0) 9 = (v_30 : Int32).toInt := by rw [e_22]; rfl
    have fe_73 : fld (f a_0) 10 = (v_32 : Int32).toInt := by rw [e_22]; rfl
    have fe_74 : fld (f a_0) 20 = (v_39 : Int32).toInt := by rw [e_22]; rfl
    exact hR _ _ _ _ _ _ dX12_errs_7 (Nat.le_of_ble_eq_true rfl) (Nat.le_of_ble_eq_true rfl) ⟨rfl, hW, FR.rf, (by simp only [fe_70, true_and, and_true, or_true, true_or, false_or, or_false, false_and, and_false, not_true_eq_false, not_false_eq_true] <;> first | omega | (simp only [Int32.lt_iff_toInt_lt, Int32.le_iff_toInt_le, Int32.reduceToInt, ← Int32.toInt_inj, true_and, and_true, or_true, true_or, false_or, or_false, false_and, and_false, not_true_eq_false, not_false_eq_true] <;> omega)), (by simp only [fe_71, mz_41, true_and, and_true, or_true, true_or, false_or, or_false, false_and, and_false, not_true_eq_false, not_false_eq_true] <;> first | omega | (simp only [Int32.lt_iff_toInt_lt, Int32.le_iff_toInt_le, Int32.reduceToInt, ← Int32.toInt_inj, true_and, and_true, or_true, true_or, false_or, or_false, false_and, and_false, not_true_eq_false, not_false_eq_true] <;> omega)), (by simp only [fe_72, mz_42, true_and, and_true, or_true, true_or, false_or, or_false, false_and, and_false, not_true_eq_false, not_false_eq_true] <;> first | omega | (simp only [Int32.lt_iff_toInt_lt, Int32.le_iff_toInt_le, Int32.reduceToInt, ← Int32.toInt_inj, true_and, and_true, or_true, true_or, false_or, or_false, false_and, and_false, not_true_eq_false, not_false_eq_true] <;> omega)), (by simp only [fe_73, mz_43, true_and, and_true, or_true, true_or, false_or, or_false, false_and, and_false, not_true_eq_false, not_false_eq_true] <;> first | omega | (simp only [Int32.lt_iff_toInt_lt, Int32.le_iff_toInt_le, Int32.reduceToInt, ← Int32.toInt_inj, true_and, and_true, or_true, true_or, false_or, or_false, false_and, and_false, not_true_eq_false, not_false_eq_true] <;> omega)), (by simp only [fe_74, mz_44, true_and, and_true, or_true, true_or, false_or, or_false, false_and, and_false, not_true_eq_false, not_false_eq_true] <;> first | omega | (simp only [Int32.lt_iff_toInt_lt, Int32.le_iff_toInt_le, Int32.reduceToInt, ← Int32.toInt_inj, true_and, and_true, or_true, true_or, false_or, or_false, false_and, and_false, not_true_eq_false, not_false_eq_true] <;> omega))⟩
set_option maxRecDepth 100000 in
set_option maxHeartbeats 8000000 in
theorem p_X12_ends {l : Launch} {E : Ez} {L : List Nat} {f : Nat → va_E} {T : Nat → va_E → Prop} {a_0 : Nat} {q : Nat → Nat} (hW : WT T L f) (k_0 : isM T L E a_0 q) : CV l yX12_ends cX12_ends 1 2 0 0 E [.ref a_0] L f (fun L1 f1 => L = L1 ∧ WT T L f1 ∧ FR [12] f f1 ∧ (¬ fld (f1 a_0) 12 = 0 ∨ fld (f a_0) 12 = 0) ∧ (¬ fld (f1 a_0) 12 = 0 ∨ (fld (f a_0) 10 = 3 ∧ fld (f a_0) 8 ≤ fld (f1 a_0) 9 ∧ fld (f1 a_0) 9 ≤ fld (f1 a_0) 8)) ∧ (¬ fld (f1 a_0) 12 = 0 ∨ fld (f1 a_0) 10 = 0 ∨ fld (f1 a_0) 9 < fld (f1 a_0) 8) ∧ fld (f1 a_0) 20 = fld (f a_0) 20 ∧ (¬ fld (f1 a_0) 12 = 0 ∨ (fld (f a_0) 12 = 0 ∧ fld (f a_0) 10 = 3 ∧ fld (f a_0) 8 ≤ fld (f1 a_0) 9 ∧ fld (f1 a_0) 9 ≤ fld (f1 a_0) 8 ∧ (fld (f1 a_0) 10 = 0 ∨ fld (f1 a_0) 9 < fld (f1 a_0) 8)))) := by
  refine cv_of (by decide) (Nat.le_of_ble_eq_true rfl) (fun z hz hnm hC hR => ?_)
  have hC : Cx z E cX12_ends RX12 1 2 0 0 := hC
  subst hz
  show V z E 1 0 0 L f 0 [(0, .ref a_0)] []
  obtain ⟨m_1, t_2, nq_21, k_3, k_4, k_5, k_6, k_7, k_8, k_9, k_10, k_11, k_12, k_13, k_14, k_15, k_16, k_17, k_18, k_19, k_20⟩ := id k_0
  obtain ⟨v_23, v_24, v_26, v_28, v_30, v_32, v_34, v_35, v_36, v_37, v_39, e_22, b_25, b_27, b_29, b_31, b_33, b_38, b_40⟩ := hW.at m_1 t_2
  have mz_41 : fld (f a_0) 8 = v_28.toInt := by rw [e_22]; rfl
  have mz_42 : fld (f a_0) 10 = v_32.toInt := by rw [e_22]; rfl
  have mz_43 : fld (f a_0) 12 = v_35.toInt := by rw [e_22]; rfl
  have mz_44 : fld (f a_0) 20 = v_39.toInt := by rw [e_22]; rfl
  refine v_aload_n hC dX12_ends_0 rfl ?_
  refine v_vi hC (rest := []) m_1 e_22 rfl mi_X12_good ms_X12_good (p_X12_good hW k_0) mx_X12_good ml_X12_139 (by decide) rfl (cells1 := 0) (slots1 := 0) (by decide) (by decide) (Nat.le_of_ble_eq_true rfl) (Nat.le_of_ble_eq_true rfl) rfl (Nat.le_of_ble_eq_true rfl) dX12_ends_1 (fun r_45 L_46 f_47 h_48 => ?_)
  obtain ⟨rfl, rfl, b_49, x_50⟩ := h_48
  have fe_53 : fld (f a_0) 12 = (v_35 : Int32).toInt := by rw [e_22]; rfl
  rw [fe_53] at x_50
  clear fe_53
  try simp only [Int32.reduceToInt, Int64.reduceToInt] at x_50
  refine v_if_eq hC dX12_ends_4 (tgt := 20) (by decide) (fun h_54 => ?_) (fun h_54 => ?_)
  · simp only [Int32.lt_iff_toInt_lt, Int32.le_iff_toInt_le, Int32.reduceToInt, ← Int32.toInt_inj] at h_54
    refine v_aload_n hC dX12_ends_20 rfl ?_
    refine v_vi hC (rest := []) m_1 e_22 rfl mi_X12_good ms_X12_good (p_X12_good hW k_0) mx_X12_good ml_X12_139 (by decide) rfl (cells1 := 0) (slots1 := 0) (by decide) (by decide) (Nat.le_of_ble_eq_true rfl) (Nat.le_of_ble_eq_true rfl) rfl (Nat.le_of_ble_eq_true rfl) dX12_ends_21 (fun r_55 L_56 f_57 h_58 => ?_)
    obtain ⟨rfl, rfl, b_59, x_60⟩ := h_58
    have fe_63 : fld (f a_0) 12 = (v_35 : Int32).toInt := by rw [e_22]; rfl
    rw [fe_63] at x_60
    clear fe_63
    try simp only [Int32.reduceToInt, Int64.reduceToInt] at x_60
    refine v_if_eq hC dX12_ends_24 (tgt := 31) (by decide) (fun h_64 => ?_) (fun h_64 => ?_)
    · simp only [Int32.lt_iff_toInt_lt, Int32.le_iff_toInt_le, Int32.reduceToInt, ← Int32.toInt_inj] at h_64
      have fe_65 : fld (f a_0) 12 = (v_35 : Int32).toInt := by rw [e_22]; rfl
      have fe_66 : fld (f a_0) 8 = (v_28 : Int32).toInt := by rw [e_22]; rfl
      have fe_67 : fld (f a_0) 9 = (v_30 : Int32).toInt := by rw [e_22]; rfl
      have fe_68 : fld (f a_0) 12 = (v_35 : Int32).toInt := by rw [e_22]; rfl
      have fe_69 : fld (f a_0) 8 = (v_28 : Int32).toInt := by rw [e_22]; rfl
      have fe_70 : fld (f a_0) 9 = (v_30 : Int32).toInt := by rw [e_22]; rfl
      have fe_71 : fld (f a_0) 10 = (v_32 : Int32).toInt := by rw [e_22]; rfl
      have fe_72 : fld (f a_0) 12 = (v_35 : Int32).toInt := by rw [e_22]; rfl
      have fe_73 : fld (f a_0) 20 = (v_39 : Int32).toInt := by rw [e_22]; rfl
      have fe_74 : fld (f a_0) 8 = (v_28 : Int32).toInt := by rw [e_22]; rfl
      have fe_75 : fld (f a_0) 9 = (v_30 : Int32).toInt := by rw [e_22]; rfl
      have fe_76 : fld (f a_0) 10 = (v_32 : Int32).toInt := by rw [e_22]; rfl
      have fe_77 : fld (f a_0) 12 = (v_35 : Int32).toInt := by rw [e_22]; rfl
      exact hR _ _ _ _ _ _ dX12_ends_31 (Nat.le_of_ble_eq_true rfl) (Nat.le_of_ble_eq_true rfl) ⟨rfl, hW, FR.rf, (by simp only [fe_65, mz_43, true_and, and_true, or_true, true_or, false_or, or_false, false_and, and_false, not_true_eq_false, not_false_eq_true] <;> first | omega | (simp only [Int32.lt_iff_toInt_lt, Int32.le_iff_toInt_le, Int32.reduceToInt, ← Int32.toInt_inj, true_and, and_true, or_true, true_or, false_or, or_false, false_and, and_false, not_true_eq_false, not_false_eq_true] <;> omega)), (by simp only [fe_66, fe_67, fe_68, mz_41, mz_42, true_and, and_true, or_true, true_or, false_or, or_false, false_and, and_false, not_true_eq_false, not_false_eq_true] <;> first | omega | (simp only [Int32.lt_iff_toInt_lt, Int32.le_iff_toInt_le, Int32.reduceToInt, ← Int32.toInt_inj, true_and, and_true, or_true, true_or, false_or, or_false, false_and, and_false, not_true_eq_false, not_false_eq_true] <;> omega)), (by simp only [fe_69, fe_70, fe_71, fe_72, true_and, and_true, or_true, true_or, false_or, or_false, false_and, and_false, not_true_eq_false, not_false_eq_true] <;> first | omega | (simp only [Int32.lt_iff_toInt_lt, Int32.le_iff_toInt_le, Int32.reduceToInt, ← Int32.toInt_inj, true_and, and_true, or_true, true_or, false_or, or_false, false_and, and_false, not_true_eq_false, not_false_eq_true] <;> omega)), (by simp only [fe_73, mz_44, true_and, and_true, or_true, true_or, false_or, or_false, false_and, and_false, not_true_eq_false, not_false_eq_true] <;> first | omega | (simp only [Int32.lt_iff_toInt_lt, Int32.le_iff_toInt_le, Int32.reduceToInt, ← Int32.toInt_inj, true_and, and_true, or_true, true_or, false_or, or_false, false_and, and_false, not_true_eq_false, not_false_eq_true] <;> omega)), (by simp only [fe_74, fe_75, fe_76, fe_77, mz_41, mz_42, mz_43, true_and, and_true, or_true, true_or, false_or, or_false, false_and, and_false, not_true_eq_false, not_false_eq_true] <;> first | omega | (simp only [Int32.lt_iff_toInt_lt, Int32.le_iff_toInt_le, Int32.reduceToInt, ← Int32.toInt_inj, true_and, and_true, or_true, true_or, false_or, or_false, false_and, and_false, not_true_eq_false, not_false_eq_true] <;> omega))⟩
    · simp only [Int32.lt_iff_toInt_lt, Int32.le_iff_toInt_le, Int32.reduceToInt, ← Int32.toInt_inj] at h_64
      refine v_aload_n hC dX12_ends_27 rfl ?_
      refine v_vv hC (rest := []) m_1 e_22 rfl mi_X12_advance ms_X12_advance (p_X12_advance hW k_0) mx_X12_advance ml_X12_156 (by decide) rfl (cells1 := 0) (slots1 := 0) (by decide) (by decide) (Nat.le_of_ble_eq_true rfl) (Nat.le_of_ble_eq_true rfl) rfl (Nat.le_of_ble_eq_true rfl) dX12_ends_28 (fun L_79 f_80 h_81 => ?_)
      obtain ⟨rfl, hW_86, hF_87, x_82, x_83, x_84, x_85⟩ := h_81
      have fe_88 : fld (f a_0) 8 = (v_28 : Int32).toInt := by rw [e_22]; rfl
      have fe_89 : fld (f a_0) 12 = (v_35 : Int32).toInt := by rw [e_22]; rfl
      have fe_90 : fld (f a_0) 20 = (v_39 : Int32).toInt := by rw [e_22]; rfl
      obtain ⟨v_92, v_93, v_95, v_97, v_99, v_101, v_103, v_104, v_105, v_106, v_108, e_91, b_94, b_96, b_98, b_100, b_102, b_107, b_109⟩ := hW_86.at m_1 t_2
      have fe_110 : fld (f_80 a_0) 8 = (v_97 : Int32).toInt := by rw [e_91]; rfl
      have fe_111 : fld (f_80 a_0) 9 = (v_99 : Int32).toInt := by rw [e_91]; rfl
      have fe_112 : fld (f_80 a_0) 10 = (v_101 : Int32).toInt := by rw [e_91]; rfl
      have fe_113 : fld (f_80 a_0) 12 = (v_104 : Int32).toInt := by rw [e_91]; rfl
      have fe_114 : fld (f_80 a_0) 20 = (v_108 : Int32).toInt := by rw [e_91]; rfl
      rw [fe_88, fe_111, fe_110] at x_82
      rw [fe_112, fe_111, fe_110] at x_83
      rw [fe_113, fe_89] at x_84
      rw [fe_114, fe_90] at x_85
      clear fe_88 fe_89 fe_90 fe_110 fe_111 fe_112 fe_113 fe_114
      have fe_115 : fld (f_80 a_0) 12 = (v_104 : Int32).toInt := by rw [e_91]; rfl
      have fe_116 : fld (f_80 a_0) 8 = (v_97 : Int32).toInt := by rw [e_91]; rfl
      have fe_117 : fld (f_80 a_0) 9 = (v_99 : Int32).toInt := by rw [e_91]; rfl
      have fe_118 : fld (f_80 a_0) 12 = (v_104 : Int32).toInt := by rw [e_91]; rfl
      have fe_119 : fld (f_80 a_0) 8 = (v_97 : Int32).toInt := by rw [e_91]; rfl
      have fe_120 : fld (f_80 a_0) 9 = (v_99 : Int32).toInt := by rw [e_91]; rfl
      have fe_121 : fld (f_80 a_0) 10 = (v_101 : Int32).toInt := by rw [e_91]; rfl
      have fe_122 : fld (f_80 a_0) 12 = (v_104 : Int32).toInt := by rw [e_91]; rfl
      have fe_123 : fld (f_80 a_0) 20 = (v_108 : Int32).toInt := by rw [e_91]; rfl
      have fe_124 : fld (f_80 a_0) 8 = (v_97 : Int32).toInt := by rw [e_91]; rfl
      have fe_125 : fld (f_80 a_0) 9 = (v_99 : Int32).toInt := by rw [e_91]; rfl
      have fe_126 : fld (f_80 a_0) 10 = (v_101 : Int32).toInt := by rw [e_91]; rfl
      have fe_127 : fld (f_80 a_0) 12 = (v_104 : Int32).toInt := by rw [e_91]; rfl
      exact hR _ _ _ _ _ _ dX12_ends_31 (Nat.le_of_ble_eq_true rfl) (Nat.le_of_ble_eq_true rfl) ⟨rfl, hW_86, (hF_87.mono rfl), (by simp only [fe_115, mz_43, true_and, and_true, or_true, true_or, false_or, or_false, false_and, and_false, not_true_eq_false, not_false_eq_true] <;> first | omega | (simp only [Int32.lt_iff_toInt_lt, Int32.le_iff_toInt_le, Int32.reduceToInt, ← Int32.toInt_inj, true_and, and_true, or_true, true_or, false_or, or_false, false_and, and_false, not_true_eq_false, not_false_eq_true] <;> omega)), (by simp only [fe_116, fe_117, fe_118, mz_41, mz_42, true_and, and_true, or_true, true_or, false_or, or_false, false_and, and_false, not_true_eq_false, not_false_eq_true] <;> first | omega | (simp only [Int32.lt_iff_toInt_lt, Int32.le_iff_toInt_le, Int32.reduceToInt, ← Int32.toInt_inj, true_and, and_true, or_true, true_or, false_or, or_false, false_and, and_false, not_true_eq_false, not_false_eq_true] <;> omega)), (by simp only [fe_119, fe_120, fe_121, fe_122, true_and, and_true, or_true, true_or, false_or, or_false, false_and, and_false, not_true_eq_false, not_false_eq_true] <;> first | omega | (simp only [Int32.lt_iff_toInt_lt, Int32.le_iff_toInt_le, Int32.reduceToInt, ← Int32.toInt_inj, true_and, and_true, or_true, true_or, false_or, or_false, false_and, and_false, not_true_eq_false, not_false_eq_true] <;> omega)), (by simp only [fe_123, mz_44, true_and, and_true, or_true, true_or, false_or, or_false, false_and, and_false, not_true_eq_false, not_false_eq_true] <;> first | omega | (simp only [Int32.lt_iff_toInt_lt, Int32.le_iff_toInt_le, Int32.reduceToInt, ← Int32.toInt_inj, true_and, and_true, or_true, true_or, false_or, or_false, false_and, and_false, not_true_eq_false, not_false_eq_true] <;> omega)), (by simp only [fe_124, fe_125, fe_126, fe_127, mz_41, mz_42, mz_43, true_and, and_true, or_true, true_or, false_or, or_false, false_and, and_false, not_true_eq_false, not_false_eq_true] <;> first | omega | (simp only [Int32.lt_iff_toInt_lt, Int32.le_iff_toInt_le, Int32.reduceToInt, ← Int32.toInt_inj, true_and, and_true, or_true, true_or, false_or, or_false, false_and, and_false, not_true_eq_false, not_false_eq_true] <;> omega))⟩
  · simp only [Int32.lt_iff_toInt_lt, Int32.le_iff_toInt_le, Int32.reduceToInt, ← Int32.toInt_inj] at h_54
    refine v_aload_n hC dX12_ends_7 rfl ?_
    refine v_get hC fl_X12_120 m_1 e_22 rfl dX12_ends_8 ?_
    refine v_iconst hC dX12_ends_11 (v := 3) (by decide) ?_
    refine v_icmp_eq hC dX12_ends_12 (tgt := 20) (by decide) (fun h_128 => ?_) (fun h_128 => ?_)
    · simp only [Int32.lt_iff_toInt_lt, Int32.le_iff_toInt_le, Int32.reduceToInt, ← Int32.toInt_inj] at h_128
      refine v_aload_n hC dX12_ends_20 rfl ?_
      refine v_vi hC (rest := []) m_1 e_22 rfl mi_X12_good ms_X12_good (p_X12_good hW k_0) mx_X12_good ml_X12_139 (by decide) rfl (cells1 := 0) (slots1 := 0) (by decide) (by decide) (Nat.le_of_ble_eq_true rfl) (Nat.le_of_ble_eq_true rfl) rfl (Nat.le_of_ble_eq_true rfl) dX12_ends_21 (fun r_129 L_130 f_131 h_132 => ?_)
      obtain ⟨rfl, rfl, b_133, x_134⟩ := h_132
      have fe_137 : fld (f a_0) 12 = (v_35 : Int32).toInt := by rw [e_22]; rfl
      rw [fe_137] at x_134
      clear fe_137
      try simp only [Int32.reduceToInt, Int64.reduceToInt] at x_134
      refine v_if_eq hC dX12_ends_24 (tgt := 31) (by decide) (fun h_138 => ?_) (fun h_138 => ?_)
      · simp only [Int32.lt_iff_toInt_lt, Int32.le_iff_toInt_le, Int32.reduceToInt, ← Int32.toInt_inj] at h_138
        have fe_139 : fld (f a_0) 12 = (v_35 : Int32).toInt := by rw [e_22]; rfl
        have fe_140 : fld (f a_0) 8 = (v_28 : Int32).toInt := by rw [e_22]; rfl
        have fe_141 : fld (f a_0) 9 = (v_30 : Int32).toInt := by rw [e_22]; rfl
        have fe_142 : fld (f a_0) 12 = (v_35 : Int32).toInt := by rw [e_22]; rfl
        have fe_143 : fld (f a_0) 8 = (v_28 : Int32).toInt := by rw [e_22]; rfl
        have fe_144 : fld (f a_0) 9 = (v_30 : Int32).toInt := by rw [e_22]; rfl
        have fe_145 : fld (f a_0) 10 = (v_32 : Int32).toInt := by rw [e_22]; rfl
        have fe_146 : fld (f a_0) 12 = (v_35 : Int32).toInt := by rw [e_22]; rfl
        have fe_147 : fld (f a_0) 20 = (v_39 : Int32).toInt := by rw [e_22]; rfl
        have fe_148 : fld (f a_0) 8 = (v_28 : Int32).toInt := by rw [e_22]; rfl
        have fe_149 : fld (f a_0) 9 = (v_30 : Int32).toInt := by rw [e_22]; rfl
        have fe_150 : fld (f a_0) 10 = (v_32 : Int32).toInt := by rw [e_22]; rfl
        have fe_151 : fld (f a_0) 12 = (v_35 : Int32).toInt := by rw [e_22]; rfl
        exact hR _ _ _ _ _ _ dX12_ends_31 (Nat.le_of_ble_eq_true rfl) (Nat.le_of_ble_eq_true rfl) ⟨rfl, hW, FR.rf, (by simp only [fe_139, mz_43, true_and, and_true, or_true, true_or, false_or, or_false, false_and, and_false, not_true_eq_false, not_false_eq_true] <;> first | omega | (simp only [Int32.lt_iff_toInt_lt, Int32.le_iff_toInt_le, Int32.reduceToInt, ← Int32.toInt_inj, true_and, and_true, or_true, true_or, false_or, or_false, false_and, and_false, not_true_eq_false, not_false_eq_true] <;> omega)), (by simp only [fe_140, fe_141, fe_142, mz_41, mz_42, true_and, and_true, or_true, true_or, false_or, or_false, false_and, and_false, not_true_eq_false, not_false_eq_true] <;> first | omega | (simp only [Int32.lt_iff_toInt_lt, Int32.le_iff_toInt_le, Int32.reduceToInt, ← Int32.toInt_inj, true_and, and_true, or_true, true_or, false_or, or_false, false_and, and_false, not_true_eq_false, not_false_eq_true] <;> omega)), (by simp only [fe_143, fe_144, fe_145, fe_146, true_and, and_true, or_true, true_or, false_or, or_false, false_and, and_false, not_true_eq_false, not_false_eq_true] <;> first | omega | (simp only [Int32.lt_iff_toInt_lt, Int32.le_iff_toInt_le, Int32.reduceToInt, ← Int32.toInt_inj, true_and, and_true, or_true, true_or, false_or, or_false, false_and, and_false, not_true_eq_false, not_false_eq_true] <;> omega)), (by simp only [fe_147, mz_44, true_and, and_true, or_true, true_or, false_or, or_false, false_and, and_false, not_true_eq_false, not_false_eq_true] <;> first | omega | (simp only [Int32.lt_iff_toInt_lt, Int32.le_iff_toInt_le, Int32.reduceToInt, ← Int32.toInt_inj, true_and, and_true, or_true, true_or, false_or, or_false, false_and, and_false, not_true_eq_false, not_false_eq_true] <;> omega)), (by simp only [fe_148, fe_149, fe_150, fe_151, mz_41, mz_42, mz_43, true_and, and_true, or_true, true_or, false_or, or_false, false_and, and_false, not_true_eq_false, not_false_eq_true] <;> first | omega | (simp only [Int32.lt_iff_toInt_lt, Int32.le_iff_toInt_le, Int32.reduceToInt, ← Int32.toInt_inj, true_and, and_true, or_true, true_or, false_or, or_false, false_and, and_false, not_true_eq_false, not_false_eq_true] <;> omega))⟩
      · simp only [Int32.lt_iff_toInt_lt, Int32.le_iff_toInt_le, Int32.reduceToInt, ← Int32.toInt_inj] at h_138
        refine v_aload_n hC dX12_ends_27 rfl ?_
        refine v_vv hC (rest := []) m_1 e_22 rfl mi_X12_advance ms_X12_advance (p_X12_advance hW k_0) mx_X12_advance ml_X12_156 (by decide) rfl (cells1 := 0) (slots1 := 0) (by decide) (by decide) (Nat.le_of_ble_eq_true rfl) (Nat.le_of_ble_eq_true rfl) rfl (Nat.le_of_ble_eq_true rfl) dX12_ends_28 (fun L_153 f_154 h_155 => ?_)
        obtain ⟨rfl, hW_160, hF_161, x_156, x_157, x_158, x_159⟩ := h_155
        have fe_162 : fld (f a_0) 8 = (v_28 : Int32).toInt := by rw [e_22]; rfl
        have fe_163 : fld (f a_0) 12 = (v_35 : Int32).toInt := by rw [e_22]; rfl
        have fe_164 : fld (f a_0) 20 = (v_39 : Int32).toInt := by rw [e_22]; rfl
        obtain ⟨v_166, v_167, v_169, v_171, v_173, v_175, v_177, v_178, v_179, v_180, v_182, e_165, b_168, b_170, b_172, b_174, b_176, b_181, b_183⟩ := hW_160.at m_1 t_2
        have fe_184 : fld (f_154 a_0) 8 = (v_171 : Int32).toInt := by rw [e_165]; rfl
        have fe_185 : fld (f_154 a_0) 9 = (v_173 : Int32).toInt := by rw [e_165]; rfl
        have fe_186 : fld (f_154 a_0) 10 = (v_175 : Int32).toInt := by rw [e_165]; rfl
        have fe_187 : fld (f_154 a_0) 12 = (v_178 : Int32).toInt := by rw [e_165]; rfl
        have fe_188 : fld (f_154 a_0) 20 = (v_182 : Int32).toInt := by rw [e_165]; rfl
        rw [fe_162, fe_185, fe_184] at x_156
        rw [fe_186, fe_185, fe_184] at x_157
        rw [fe_187, fe_163] at x_158
        rw [fe_188, fe_164] at x_159
        clear fe_162 fe_163 fe_164 fe_184 fe_185 fe_186 fe_187 fe_188
        have fe_189 : fld (f_154 a_0) 12 = (v_178 : Int32).toInt := by rw [e_165]; rfl
        have fe_190 : fld (f_154 a_0) 8 = (v_171 : Int32).toInt := by rw [e_165]; rfl
        have fe_191 : fld (f_154 a_0) 9 = (v_173 : Int32).toInt := by rw [e_165]; rfl
        have fe_192 : fld (f_154 a_0) 12 = (v_178 : Int32).toInt := by rw [e_165]; rfl
        have fe_193 : fld (f_154 a_0) 8 = (v_171 : Int32).toInt := by rw [e_165]; rfl
        have fe_194 : fld (f_154 a_0) 9 = (v_173 : Int32).toInt := by rw [e_165]; rfl
        have fe_195 : fld (f_154 a_0) 10 = (v_175 : Int32).toInt := by rw [e_165]; rfl
        have fe_196 : fld (f_154 a_0) 12 = (v_178 : Int32).toInt := by rw [e_165]; rfl
        have fe_197 : fld (f_154 a_0) 20 = (v_182 : Int32).toInt := by rw [e_165]; rfl
        have fe_198 : fld (f_154 a_0) 8 = (v_171 : Int32).toInt := by rw [e_165]; rfl
        have fe_199 : fld (f_154 a_0) 9 = (v_173 : Int32).toInt := by rw [e_165]; rfl
        have fe_200 : fld (f_154 a_0) 10 = (v_175 : Int32).toInt := by rw [e_165]; rfl
        have fe_201 : fld (f_154 a_0) 12 = (v_178 : Int32).toInt := by rw [e_165]; rfl
        exact hR _ _ _ _ _ _ dX12_ends_31 (Nat.le_of_ble_eq_true rfl) (Nat.le_of_ble_eq_true rfl) ⟨rfl, hW_160, (hF_161.mono rfl), (by simp only [fe_189, mz_43, true_and, and_true, or_true, true_or, false_or, or_false, false_and, and_false, not_true_eq_false, not_false_eq_true] <;> first | omega | (simp only [Int32.lt_iff_toInt_lt, Int32.le_iff_toInt_le, Int32.reduceToInt, ← Int32.toInt_inj, true_and, and_true, or_true, true_or, false_or, or_false, false_and, and_false, not_true_eq_false, not_false_eq_true] <;> omega)), (by simp only [fe_190, fe_191, fe_192, mz_41, mz_42, true_and, and_true, or_true, true_or, false_or, or_false, false_and, and_false, not_true_eq_false, not_false_eq_true] <;> first | omega | (simp only [Int32.lt_iff_toInt_lt, Int32.le_iff_toInt_le, Int32.reduceToInt, ← Int32.toInt_inj, true_and, and_true, or_true, true_or, false_or, or_false, false_and, and_false, not_true_eq_false, not_false_eq_true] <;> omega)), (by simp only [fe_193, fe_194, fe_195, fe_196, true_and, and_true, or_true, true_or, false_or, or_false, false_and, and_false, not_true_eq_false, not_false_eq_true] <;> first | omega | (simp only [Int32.lt_iff_toInt_lt, Int32.le_iff_toInt_le, Int32.reduceToInt, ← Int32.toInt_inj, true_and, and_true, or_true, true_or, false_or, or_false, false_and, and_false, not_true_eq_false, not_false_eq_true] <;> omega)), (by simp only [fe_197, mz_44, true_and, and_true, or_true, true_or, false_or, or_false, false_and, and_false, not_true_eq_false, not_false_eq_true] <;> first | omega | (simp only [Int32.lt_iff_toInt_lt, Int32.le_iff_toInt_le, Int32.reduceToInt, ← Int32.toInt_inj, true_and, and_true, or_true, true_or, false_or, or_false, false_and, and_false, not_true_eq_false, not_false_eq_true] <;> omega)), (by simp only [fe_198, fe_199, fe_200, fe_201, mz_41, mz_42, mz_43, true_and, and_true, or_true, true_or, false_or, or_false, false_and, and_false, not_true_eq_false, not_false_eq_true] <;> first | omega | (simp only [Int32.lt_iff_toInt_lt, Int32.le_iff_toInt_le, Int32.reduceToInt, ← Int32.toInt_inj, true_and, and_true, or_true, true_or, false_or, or_false, false_and, and_false, not_true_eq_false, not_false_eq_true] <;> omega))⟩
    · simp only [Int32.lt_iff_toInt_lt, Int32.le_iff_toInt_le, Int32.reduceToInt, ← Int32.toInt_inj] at h_128
      refine v_aload_n hC dX12_ends_15 rfl ?_
      refine v_iconst hC dX12_ends_16 (v := 1) (by decide) ?_
      refine v_vv hC (rest := []) m_1 e_22 rfl mi_X12_errs ms_X12_errs (p_X12_errs hW k_0 (by decide)) mx_X12_errs ml_X12_162 (by decide) rfl (cells1 := 0) (slots1 := 0) (by decide) (by decide) (Nat.le_of_ble_eq_true rfl) (Nat.le_of_ble_eq_true rfl) rfl (Nat.le_of_ble_eq_true rfl) dX12_ends_17 (fun L_203 f_204 h_205 => ?_)
      obtain ⟨rfl, hW_211, hF_212, x_206, x_207, x_208, x_209, x_210⟩ := h_205
      have fe_213 : fld (f a_0) 8 = (v_28 : Int32).toInt := by rw [e_22]; rfl
      have fe_214 : fld (f a_0) 9 = (v_30 : Int32).toInt := by rw [e_22]; rfl
      have fe_215 : fld (f a_0) 10 = (v_32 : Int32).toInt := by rw [e_22]; rfl
      have fe_216 : fld (f a_0) 20 = (v_39 : Int32).toInt := by rw [e_22]; rfl
      obtain ⟨v_218, v_219, v_221, v_223, v_225, v_227, v_229, v_230, v_231, v_232, v_234, e_217, b_220, b_222, b_224, b_226, b_228, b_233, b_235⟩ := hW_211.at m_1 t_2
      have fe_236 : fld (f_204 a_0) 8 = (v_223 : Int32).toInt := by rw [e_217]; rfl
      have fe_237 : fld (f_204 a_0) 9 = (v_225 : Int32).toInt := by rw [e_217]; rfl
      have fe_238 : fld (f_204 a_0) 10 = (v_227 : Int32).toInt := by rw [e_217]; rfl
      have fe_239 : fld (f_204 a_0) 12 = (v_230 : Int32).toInt := by rw [e_217]; rfl
      have fe_240 : fld (f_204 a_0) 20 = (v_234 : Int32).toInt := by rw [e_217]; rfl
      rw [fe_239] at x_206
      rw [fe_236, fe_213] at x_207
      rw [fe_237, fe_214] at x_208
      rw [fe_238, fe_215] at x_209
      rw [fe_240, fe_216] at x_210
      clear fe_213 fe_214 fe_215 fe_216 fe_236 fe_237 fe_238 fe_239 fe_240
      refine v_aload_n hC dX12_ends_20 rfl ?_
      refine v_vi hC (rest := []) m_1 e_217 rfl mi_X12_good ms_X12_good (p_X12_good hW_211 k_0) mx_X12_good ml_X12_139 (by decide) rfl (cells1 := 0) (slots1 := 0) (by decide) (by decide) (Nat.le_of_ble_eq_true rfl) (Nat.le_of_ble_eq_true rfl) rfl (Nat.le_of_ble_eq_true rfl) dX12_ends_21 (fun r_241 L_242 f_243 h_244 => ?_)
      obtain ⟨rfl, rfl, b_245, x_246⟩ := h_244
      have fe_249 : fld (f_204 a_0) 12 = (v_230 : Int32).toInt := by rw [e_217]; rfl
      rw [fe_249] at x_246
      clear fe_249
      try simp only [Int32.reduceToInt, Int64.reduceToInt] at x_246
      refine v_if_eq hC dX12_ends_24 (tgt := 31) (by decide) (fun h_250 => ?_) (fun h_250 => ?_)
      · simp only [Int32.lt_iff_toInt_lt, Int32.le_iff_toInt_le, Int32.reduceToInt, ← Int32.toInt_inj] at h_250
        have fe_251 : fld (f_204 a_0) 12 = (v_230 : Int32).toInt := by rw [e_217]; rfl
        have fe_252 : fld (f_204 a_0) 8 = (v_223 : Int32).toInt := by rw [e_217]; rfl
        have fe_253 : fld (f_204 a_0) 9 = (v_225 : Int32).toInt := by rw [e_217]; rfl
        have fe_254 : fld (f_204 a_0) 12 = (v_230 : Int32).toInt := by rw [e_217]; rfl
        have fe_255 : fld (f_204 a_0) 8 = (v_223 : Int32).toInt := by rw [e_217]; rfl
        have fe_256 : fld (f_204 a_0) 9 = (v_225 : Int32).toInt := by rw [e_217]; rfl
        have fe_257 : fld (f_204 a_0) 10 = (v_227 : Int32).toInt := by rw [e_217]; rfl
        have fe_258 : fld (f_204 a_0) 12 = (v_230 : Int32).toInt := by rw [e_217]; rfl
        have fe_259 : fld (f_204 a_0) 20 = (v_234 : Int32).toInt := by rw [e_217]; rfl
        have fe_260 : fld (f_204 a_0) 8 = (v_223 : Int32).toInt := by rw [e_217]; rfl
        have fe_261 : fld (f_204 a_0) 9 = (v_225 : Int32).toInt := by rw [e_217]; rfl
        have fe_262 : fld (f_204 a_0) 10 = (v_227 : Int32).toInt := by rw [e_217]; rfl
        have fe_263 : fld (f_204 a_0) 12 = (v_230 : Int32).toInt := by rw [e_217]; rfl
        exact hR _ _ _ _ _ _ dX12_ends_31 (Nat.le_of_ble_eq_true rfl) (Nat.le_of_ble_eq_true rfl) ⟨rfl, hW_211, (hF_212.mono rfl), (by simp only [fe_251, mz_43, true_and, and_true, or_true, true_or, false_or, or_false, false_and, and_false, not_true_eq_false, not_false_eq_true] <;> first | omega | (simp only [Int32.lt_iff_toInt_lt, Int32.le_iff_toInt_le, Int32.reduceToInt, ← Int32.toInt_inj, true_and, and_true, or_true, true_or, false_or, or_false, false_and, and_false, not_true_eq_false, not_false_eq_true] <;> omega)), (by simp only [fe_252, fe_253, fe_254, mz_41, mz_42, true_and, and_true, or_true, true_or, false_or, or_false, false_and, and_false, not_true_eq_false, not_false_eq_true] <;> first | omega | (simp only [Int32.lt_iff_toInt_lt, Int32.le_iff_toInt_le, Int32.reduceToInt, ← Int32.toInt_inj, true_and, and_true, or_true, true_or, false_or, or_false, false_and, and_false, not_true_eq_false, not_false_eq_true] <;> omega)), (by simp only [fe_255, fe_256, fe_257, fe_258, true_and, and_true, or_true, true_or, false_or, or_false, false_and, and_false, not_true_eq_false, not_false_eq_true] <;> first | omega | (simp only [Int32.lt_iff_toInt_lt, Int32.le_iff_toInt_le, Int32.reduceToInt, ← Int32.toInt_inj, true_and, and_true, or_true, true_or, false_or, or_false, false_and, and_false, not_true_eq_false, not_false_eq_true] <;> omega)), (by simp only [fe_259, mz_44, true_and, and_true, or_true, true_or, false_or, or_false, false_and, and_false, not_true_eq_false, not_false_eq_true] <;> first | omega | (simp only [Int32.lt_iff_toInt_lt, Int32.le_iff_toInt_le, Int32.reduceToInt, ← Int32.toInt_inj, true_and, and_true, or_true, true_or, false_or, or_false, false_and, and_false, not_true_eq_false, not_false_eq_true] <;> omega)), (by simp only [fe_260, fe_261, fe_262, fe_263, mz_41, mz_42, mz_43, true_and, and_true, or_true, true_or, false_or, or_false, false_and, and_false, not_true_eq_false, not_false_eq_true] <;> first | omega | (simp only [Int32.lt_iff_toInt_lt, Int32.le_iff_toInt_le, Int32.reduceToInt, ← Int32.toInt_inj, true_and, and_true, or_true, true_or, false_or, or_false, false_and, and_false, not_true_eq_false, not_false_eq_true] <;> omega))⟩
      · simp only [Int32.lt_iff_toInt_lt, Int32.le_iff_toInt_le, Int32.reduceToInt, ← Int32.toInt_inj] at h_250
        refine v_aload_n hC dX12_ends_27 rfl ?_
        refine v_vv hC (rest := []) m_1 e_217 rfl mi_X12_advance ms_X12_advance (p_X12_advance hW_211 k_0) mx_X12_advance ml_X12_156 (by decide) rfl (cells1 := 0) (slots1 := 0) (by decide) (by decide) (Nat.le_of_ble_eq_true rfl) (Nat.le_of_ble_eq_true rfl) rfl (Nat.le_of_ble_eq_true rfl) dX12_ends_28 (fun L_265 f_266 h_267 => ?_)
        obtain ⟨rfl, hW_272, hF_273, x_268, x_269, x_270, x_271⟩ := h_267
        have fe_274 : fld (f_204 a_0) 8 = (v_223 : Int32).toInt := by rw [e_217]; rfl
        have fe_275 : fld (f_204 a_0) 12 = (v_230 : Int32).toInt := by rw [e_217]; rfl
        have fe_276 : fld (f_204 a_0) 20 = (v_234 : Int32).toInt := by rw [e_217]; rfl
        obtain ⟨v_278, v_279, v_281, v_283, v_285, v_287, v_289, v_290, v_291, v_292, v_294, e_277, b_280, b_282, b_284, b_286, b_288, b_293, b_295⟩ := hW_272.at m_1 t_2
        have fe_296 : fld (f_266 a_0) 8 = (v_283 : Int32).toInt := by rw [e_277]; rfl
        have fe_297 : fld (f_266 a_0) 9 = (v_285 : Int32).toInt := by rw [e_277]; rfl
        have fe_298 : fld (f_266 a_0) 10 = (v_287 : Int32).toInt := by rw [e_277]; rfl
        have fe_299 : fld (f_266 a_0) 12 = (v_290 : Int32).toInt := by rw [e_277]; rfl
        have fe_300 : fld (f_266 a_0) 20 = (v_294 : Int32).toInt := by rw [e_277]; rfl
        rw [fe_274, fe_297, fe_296] at x_268
        rw [fe_298, fe_297, fe_296] at x_269
        rw [fe_299, fe_275] at x_270
        rw [fe_300, fe_276] at x_271
        clear fe_274 fe_275 fe_276 fe_296 fe_297 fe_298 fe_299 fe_300
        have fe_301 : fld (f_266 a_0) 12 = (v_290 : Int32).toInt := by rw [e_277]; rfl
        have fe_302 : fld (f_266 a_0) 8 = (v_283 : Int32).toInt := by rw [e_277]; rfl
        have fe_303 : fld (f_266 a_0) 9 = (v_285 : Int32).toInt := by rw [e_277]; rfl
        have fe_304 : fld (f_266 a_0) 12 = (v_290 : Int32).toInt := by rw [e_277]; rfl
        have fe_305 : fld (f_266 a_0) 8 = (v_283 : Int32).toInt := by rw [e_277]; rfl
        have fe_306 : fld (f_266 a_0) 9 = (v_285 : Int32).toInt := by rw [e_277]; rfl
        have fe_307 : fld (f_266 a_0) 10 = (v_287 : Int32).toInt := by rw [e_277]; rfl
        have fe_308 : fld (f_266 a_0) 12 = (v_290 : Int32).toInt := by rw [e_277]; rfl
        have fe_309 : fld (f_266 a_0) 20 = (v_294 : Int32).toInt := by rw [e_277]; rfl
        have fe_310 : fld (f_266 a_0) 8 = (v_283 : Int32).toInt := by rw [e_277]; rfl
        have fe_311 : fld (f_266 a_0) 9 = (v_285 : Int32).toInt := by rw [e_277]; rfl
        have fe_312 : fld (f_266 a_0) 10 = (v_287 : Int32).toInt := by rw [e_277]; rfl
        have fe_313 : fld (f_266 a_0) 12 = (v_290 : Int32).toInt := by rw [e_277]; rfl
        exact hR _ _ _ _ _ _ dX12_ends_31 (Nat.le_of_ble_eq_true rfl) (Nat.le_of_ble_eq_true rfl) ⟨rfl, hW_272, ((hF_212.tr hF_273).mono rfl), (by simp only [fe_301, mz_43, true_and, and_true, or_true, true_or, false_or, or_false, false_and, and_false, not_true_eq_false, not_false_eq_true] <;> first | omega | (simp only [Int32.lt_iff_toInt_lt, Int32.le_iff_toInt_le, Int32.reduceToInt, ← Int32.toInt_inj, true_and, and_true, or_true, true_or, false_or, or_false, false_and, and_false, not_true_eq_false, not_false_eq_true] <;> omega)), (by simp only [fe_302, fe_303, fe_304, mz_41, mz_42, true_and, and_true, or_true, true_or, false_or, or_false, false_and, and_false, not_true_eq_false, not_false_eq_true] <;> first | omega | (simp only [Int32.lt_iff_toInt_lt, Int32.le_iff_toInt_le, Int32.reduceToInt, ← Int32.toInt_inj, true_and, and_true, or_true, true_or, false_or, or_false, false_and, and_false, not_true_eq_false, not_false_eq_true] <;> omega)), (by simp only [fe_305, fe_306, fe_307, fe_308, true_and, and_true, or_true, true_or, false_or, or_false, false_and, and_false, not_true_eq_false, not_false_eq_true] <;> first | omega | (simp only [Int32.lt_iff_toInt_lt, Int32.le_iff_toInt_le, Int32.reduceToInt, ← Int32.toInt_inj, true_and, and_true, or_true, true_or, false_or, or_false, false_and, and_false, not_true_eq_false, not_false_eq_true] <;> omega)), (by simp only [fe_309, mz_44, true_and, and_true, or_true, true_or, false_or, or_false, false_and, and_false, not_true_eq_false, not_false_eq_true] <;> first | omega | (simp only [Int32.lt_iff_toInt_lt, Int32.le_iff_toInt_le, Int32.reduceToInt, ← Int32.toInt_inj, true_and, and_true, or_true, true_or, false_or, or_false, false_and, and_false, not_true_eq_false, not_false_eq_true] <;> omega)), (by simp only [fe_310, fe_311, fe_312, fe_313, mz_41, mz_42, mz_43, true_and, and_true, or_true, true_or, false_or, or_false, false_and, and_false, not_true_eq_false, not_false_eq_true] <;> first | omega | (simp only [Int32.lt_iff_toInt_lt, Int32.le_iff_toInt_le, Int32.reduceToInt, ← Int32.toInt_inj, true_and, and_true, or_true, true_or, false_or, or_false, false_and, and_false, not_true_eq_false, not_false_eq_true] <;> omega))⟩
set_option maxRecDepth 100000 in
set_option maxHeartbeats 8000000 in
theorem p_X12_number {l : Launch} {E : Ez} {L : List Nat} {f : Nat → va_E} {T : Nat → va_E → Prop} {a_0 : Nat} {a_1 : Int32} {a_2 : Int32} {q : Nat → Nat} (hW : WT T L f) (k_0 : isM T L E a_0 q) : CI l yX12_number cX12_number 4 .int 2 0 0 E [.ref a_0, .int a_1, .int a_2] L f (fun r L1 f1 => L = L1 ∧ WT T L f1 ∧ FR [12] f f1 ∧ (¬ fld (f1 a_0) 12 = 0 ∨ (fld (f a_0) 12 = 0 ∧ a_1.toInt ≤ r.toInt ∧ r.toInt ≤ a_2.toInt)) ∧ (¬ fld (f1 a_0) 12 = 0 ∨ (fld (f a_0) 10 = 2 ∧ fld (f a_0) 8 ≤ fld (f1 a_0) 9 ∧ fld (f1 a_0) 9 ≤ fld (f1 a_0) 8)) ∧ (¬ fld (f1 a_0) 12 = 0 ∨ fld (f1 a_0) 10 = 0 ∨ fld (f1 a_0) 9 < fld (f1 a_0) 8) ∧ (fld (f1 a_0) 12 = 0 ∨ r.toInt = 0) ∧ fld (f1 a_0) 20 = fld (f a_0) 20 ∧ (¬ fld (f1 a_0) 12 = 0 ∨ (fld (f a_0) 12 = 0 ∧ a_1.toInt ≤ r.toInt ∧ r.toInt ≤ a_2.toInt ∧ fld (f a_0) 10 = 2 ∧ fld (f a_0) 8 ≤ fld (f1 a_0) 9 ∧ fld (f1 a_0) 9 ≤ fld (f1 a_0) 8 ∧ (fld (f1 a_0) 10 = 0 ∨ fld (f1 a_0) 9 < fld (f1 a_0) 8)))) := by
  refine ci_of (by decide) (Nat.le_of_ble_eq_true rfl) (fun z hz hnm hC hR => ?_)
  have hC : Cx z E cX12_number RX12 4 2 0 0 := hC
  subst hz
  show V z E 4 0 0 L f 0 [(0, .ref a_0), (1, .int a_1), (2, .int a_2)] []
  obtain ⟨m_1, t_2, nq_21, k_3, k_4, k_5, k_6, k_7, k_8, k_9, k_10, k_11, k_12, k_13, k_14, k_15, k_16, k_17, k_18, k_19, k_20⟩ := id k_0
  obtain ⟨v_23, v_24, v_26, v_28, v_30, v_32, v_34, v_35, v_36, v_37, v_39, e_22, b_25, b_27, b_29, b_31, b_33, b_38, b_40⟩ := hW.at m_1 t_2
  have mz_41 : fld (f a_0) 8 = v_28.toInt := by rw [e_22]; rfl
  have mz_42 : fld (f a_0) 10 = v_32.toInt := by rw [e_22]; rfl
  have mz_43 : fld (f a_0) 12 = v_35.toInt := by rw [e_22]; rfl
  have mz_44 : fld (f a_0) 20 = v_39.toInt := by rw [e_22]; rfl
  refine v_aload_n hC dX12_number_0 rfl ?_
  refine v_vi hC (rest := []) m_1 e_22 rfl mi_X12_good ms_X12_good (p_X12_good hW k_0) mx_X12_good ml_X12_139 (by decide) rfl (cells1 := 0) (slots1 := 0) (by decide) (by decide) (Nat.le_of_ble_eq_true rfl) (Nat.le_of_ble_eq_true rfl) rfl (Nat.le_of_ble_eq_true rfl) dX12_number_1 (fun r_45 L_46 f_47 h_48 => ?_)
  obtain ⟨rfl, rfl, b_49, x_50⟩ := h_48
  have fe_53 : fld (f a_0) 12 = (v_35 : Int32).toInt := by rw [e_22]; rfl
  rw [fe_53] at x_50
  clear fe_53
  try simp only [Int32.reduceToInt, Int64.reduceToInt] at x_50
  refine v_if_eq hC dX12_number_4 (tgt := 20) (by decide) (fun h_54 => ?_) (fun h_54 => ?_)
  · simp only [Int32.lt_iff_toInt_lt, Int32.le_iff_toInt_le, Int32.reduceToInt, ← Int32.toInt_inj] at h_54
    refine v_aload_n hC dX12_number_20 rfl ?_
    refine v_vi hC (rest := []) m_1 e_22 rfl mi_X12_good ms_X12_good (p_X12_good hW k_0) mx_X12_good ml_X12_139 (by decide) rfl (cells1 := 0) (slots1 := 0) (by decide) (by decide) (Nat.le_of_ble_eq_true rfl) (Nat.le_of_ble_eq_true rfl) rfl (Nat.le_of_ble_eq_true rfl) dX12_number_21 (fun r_55 L_56 f_57 h_58 => ?_)
    obtain ⟨rfl, rfl, b_59, x_60⟩ := h_58
    have fe_63 : fld (f a_0) 12 = (v_35 : Int32).toInt := by rw [e_22]; rfl
    rw [fe_63] at x_60
    clear fe_63
    try simp only [Int32.reduceToInt, Int64.reduceToInt] at x_60
    refine v_if_eq hC dX12_number_24 (tgt := 47) (by decide) (fun h_64 => ?_) (fun h_64 => ?_)
    · simp only [Int32.lt_iff_toInt_lt, Int32.le_iff_toInt_le, Int32.reduceToInt, ← Int32.toInt_inj] at h_64
      refine v_aload_n hC dX12_number_47 rfl ?_
      refine v_vi hC (rest := []) m_1 e_22 rfl mi_X12_good ms_X12_good (p_X12_good hW k_0) mx_X12_good ml_X12_139 (by decide) rfl (cells1 := 0) (slots1 := 0) (by decide) (by decide) (Nat.le_of_ble_eq_true rfl) (Nat.le_of_ble_eq_true rfl) rfl (Nat.le_of_ble_eq_true rfl) dX12_number_48 (fun r_65 L_66 f_67 h_68 => ?_)
      obtain ⟨rfl, rfl, b_69, x_70⟩ := h_68
      have fe_73 : fld (f a_0) 12 = (v_35 : Int32).toInt := by rw [e_22]; rfl
      rw [fe_73] at x_70
      clear fe_73
      try simp only [Int32.reduceToInt, Int64.reduceToInt] at x_70
      refine v_if_ne hC dX12_number_51 (tgt := 56) (by decide) (fun h_74 => ?_) (fun h_74 => ?_)
      · simp only [Int32.lt_iff_toInt_lt, Int32.le_iff_toInt_le, Int32.reduceToInt, ← Int32.toInt_inj] at h_74
        refine v_aload_n hC dX12_number_56 rfl ?_
        refine v_get hC fl_X12_131 m_1 e_22 rfl dX12_number_57 ?_
        refine v_istore_n hC dX12_number_60 (by decide) (lv' := [(3, .int v_34), (0, .ref a_0), (1, .int a_1), (2, .int a_2)]) rfl ?_
        refine v_aload_n hC dX12_number_61 rfl ?_
        refine v_vv hC (rest := []) m_1 e_22 rfl mi_X12_advance ms_X12_advance (p_X12_advance hW k_0) mx_X12_advance ml_X12_156 (by decide) rfl (cells1 := 0) (slots1 := 0) (by decide) (by decide) (Nat.le_of_ble_eq_true rfl) (Nat.le_of_ble_eq_true rfl) rfl (Nat.le_of_ble_eq_true rfl) dX12_number_62 (fun L_76 f_77 h_78 => ?_)
        obtain ⟨rfl, hW_83, hF_84, x_79, x_80, x_81, x_82⟩ := h_78
        have fe_85 : fld (f a_0) 8 = (v_28 : Int32).toInt := by rw [e_22]; rfl
        have fe_86 : fld (f a_0) 12 = (v_35 : Int32).toInt := by rw [e_22]; rfl
        have fe_87 : fld (f a_0) 20 = (v_39 : Int32).toInt := by rw [e_22]; rfl
        obtain ⟨v_89, v_90, v_92, v_94, v_96, v_98, v_100, v_101, v_102, v_103, v_105, e_88, b_91, b_93, b_95, b_97, b_99, b_104, b_106⟩ := hW_83.at m_1 t_2
        have fe_107 : fld (f_77 a_0) 8 = (v_94 : Int32).toInt := by rw [e_88]; rfl
        have fe_108 : fld (f_77 a_0) 9 = (v_96 : Int32).toInt := by rw [e_88]; rfl
        have fe_109 : fld (f_77 a_0) 10 = (v_98 : Int32).toInt := by rw [e_88]; rfl
        have fe_110 : fld (f_77 a_0) 12 = (v_101 : Int32).toInt := by rw [e_88]; rfl
        have fe_111 : fld (f_77 a_0) 20 = (v_105 : Int32).toInt := by rw [e_88]; rfl
        rw [fe_85, fe_108, fe_107] at x_79
        rw [fe_109, fe_108, fe_107] at x_80
        rw [fe_110, fe_86] at x_81
        rw [fe_111, fe_87] at x_82
        clear fe_85 fe_86 fe_87 fe_107 fe_108 fe_109 fe_110 fe_111
        refine v_iload_n hC dX12_number_65 rfl ?_
        have fe_112 : fld (f_77 a_0) 12 = (v_101 : Int32).toInt := by rw [e_88]; rfl
        have fe_113 : fld (f_77 a_0) 8 = (v_94 : Int32).toInt := by rw [e_88]; rfl
        have fe_114 : fld (f_77 a_0) 9 = (v_96 : Int32).toInt := by rw [e_88]; rfl
        have fe_115 : fld (f_77 a_0) 12 = (v_101 : Int32).toInt := by rw [e_88]; rfl
        have fe_116 : fld (f_77 a_0) 8 = (v_94 : Int32).toInt := by rw [e_88]; rfl
        have fe_117 : fld (f_77 a_0) 9 = (v_96 : Int32).toInt := by rw [e_88]; rfl
        have fe_118 : fld (f_77 a_0) 10 = (v_98 : Int32).toInt := by rw [e_88]; rfl
        have fe_119 : fld (f_77 a_0) 12 = (v_101 : Int32).toInt := by rw [e_88]; rfl
        have fe_120 : fld (f_77 a_0) 12 = (v_101 : Int32).toInt := by rw [e_88]; rfl
        have fe_121 : fld (f_77 a_0) 20 = (v_105 : Int32).toInt := by rw [e_88]; rfl
        have fe_122 : fld (f_77 a_0) 8 = (v_94 : Int32).toInt := by rw [e_88]; rfl
        have fe_123 : fld (f_77 a_0) 9 = (v_96 : Int32).toInt := by rw [e_88]; rfl
        have fe_124 : fld (f_77 a_0) 10 = (v_98 : Int32).toInt := by rw [e_88]; rfl
        have fe_125 : fld (f_77 a_0) 12 = (v_101 : Int32).toInt := by rw [e_88]; rfl
        exact hR _ _ _ _ _ _ _ dX12_number_66 rfl (Nat.le_of_ble_eq_true rfl) (Nat.le_of_ble_eq_true rfl) ⟨rfl, hW_83, (hF_84.mono rfl), (by simp only [fe_112, mz_43, true_and, and_true, or_true, true_or, false_or, or_false, false_and, and_false, not_true_eq_false, not_false_eq_true] <;> first | omega | (simp only [Int32.lt_iff_toInt_lt, Int32.le_iff_toInt_le, Int32.reduceToInt, ← Int32.toInt_inj, true_and, and_true, or_true, true_or, false_or, or_false, false_and, and_false, not_true_eq_false, not_false_eq_true] <;> omega)), (by simp only [fe_113, fe_114, fe_115, mz_41, mz_42, true_and, and_true, or_true, true_or, false_or, or_false, false_and, and_false, not_true_eq_false, not_false_eq_true] <;> first | omega | (simp only [Int32.lt_iff_toInt_lt, Int32.le_iff_toInt_le, Int32.reduceToInt, ← Int32.toInt_inj, true_and, and_true, or_true, true_or, false_or, or_false, false_and, and_false, not_true_eq_false, not_false_eq_true] <;> omega)), (by simp only [fe_116, fe_117, fe_118, fe_119, true_and, and_true, or_true, true_or, false_or, or_false, false_and, and_false, not_true_eq_false, not_false_eq_true] <;> first | omega | (simp only [Int32.lt_iff_toInt_lt, Int32.le_iff_toInt_le, Int32.reduceToInt, ← Int32.toInt_inj, true_and, and_true, or_true, true_or, false_or, or_false, false_and, and_false, not_true_eq_false, not_false_eq_true] <;> omega)), (by simp only [fe_120, true_and, and_true, or_true, true_or, false_or, or_false, false_and, and_false, not_true_eq_false, not_false_eq_true] <;> first | omega | (simp only [Int32.lt_iff_toInt_lt, Int32.le_iff_toInt_le, Int32.reduceToInt, ← Int32.toInt_inj, true_and, and_true, or_true, true_or, false_or, or_false, false_and, and_false, not_true_eq_false, not_false_eq_true] <;> omega)), (by simp only [fe_121, mz_44, true_and, and_true, or_true, true_or, false_or, or_false, false_and, and_false, not_true_eq_false, not_false_eq_true] <;> first | omega | (simp only [Int32.lt_iff_toInt_lt, Int32.le_iff_toInt_le, Int32.reduceToInt, ← Int32.toInt_inj, true_and, and_true, or_true, true_or, false_or, or_false, false_and, and_false, not_true_eq_false, not_false_eq_true] <;> omega)), (by simp only [fe_122, fe_123, fe_124, fe_125, mz_41, mz_42, mz_43, true_and, and_true, or_true, true_or, false_or, or_false, false_and, and_false, not_true_eq_false, not_false_eq_true] <;> first | omega | (simp only [Int32.lt_iff_toInt_lt, Int32.le_iff_toInt_le, Int32.reduceToInt, ← Int32.toInt_inj, true_and, and_true, or_true, true_or, false_or, or_false, false_and, and_false, not_true_eq_false, not_false_eq_true] <;> omega))⟩
      · simp only [Int32.lt_iff_toInt_lt, Int32.le_iff_toInt_le, Int32.reduceToInt, ← Int32.toInt_inj] at h_74
        refine v_iconst hC dX12_number_54 (v := 0) (by decide) ?_
        have fe_126 : fld (f a_0) 12 = (v_35 : Int32).toInt := by rw [e_22]; rfl
        have fe_127 : fld (f a_0) 8 = (v_28 : Int32).toInt := by rw [e_22]; rfl
        have fe_128 : fld (f a_0) 9 = (v_30 : Int32).toInt := by rw [e_22]; rfl
        have fe_129 : fld (f a_0) 12 = (v_35 : Int32).toInt := by rw [e_22]; rfl
        have fe_130 : fld (f a_0) 8 = (v_28 : Int32).toInt := by rw [e_22]; rfl
        have fe_131 : fld (f a_0) 9 = (v_30 : Int32).toInt := by rw [e_22]; rfl
        have fe_132 : fld (f a_0) 10 = (v_32 : Int32).toInt := by rw [e_22]; rfl
        have fe_133 : fld (f a_0) 12 = (v_35 : Int32).toInt := by rw [e_22]; rfl
        have fe_134 : fld (f a_0) 12 = (v_35 : Int32).toInt := by rw [e_22]; rfl
        have fe_135 : fld (f a_0) 20 = (v_39 : Int32).toInt := by rw [e_22]; rfl
        have fe_136 : fld (f a_0) 8 = (v_28 : Int32).toInt := by rw [e_22]; rfl
        have fe_137 : fld (f a_0) 9 = (v_30 : Int32).toInt := by rw [e_22]; rfl
        have fe_138 : fld (f a_0) 10 = (v_32 : Int32).toInt := by rw [e_22]; rfl
        have fe_139 : fld (f a_0) 12 = (v_35 : Int32).toInt := by rw [e_22]; rfl
        exact hR _ _ _ _ _ _ _ dX12_number_55 rfl (Nat.le_of_ble_eq_true rfl) (Nat.le_of_ble_eq_true rfl) ⟨rfl, hW, FR.rf, (by simp only [fe_126, mz_43, true_and, and_true, or_true, true_or, false_or, or_false, false_and, and_false, not_true_eq_false, not_false_eq_true] <;> first | omega | (simp only [Int32.lt_iff_toInt_lt, Int32.le_iff_toInt_le, Int32.reduceToInt, ← Int32.toInt_inj, true_and, and_true, or_true, true_or, false_or, or_false, false_and, and_false, not_true_eq_false, not_false_eq_true] <;> omega)), (by simp only [fe_127, fe_128, fe_129, mz_41, mz_42, true_and, and_true, or_true, true_or, false_or, or_false, false_and, and_false, not_true_eq_false, not_false_eq_true] <;> first | omega | (simp only [Int32.lt_iff_toInt_lt, Int32.le_iff_toInt_le, Int32.reduceToInt, ← Int32.toInt_inj, true_and, and_true, or_true, true_or, false_or, or_false, false_and, and_false, not_true_eq_false, not_false_eq_true] <;> omega)), (by simp only [fe_130, fe_131, fe_132, fe_133, true_and, and_true, or_true, true_or, false_or, or_false, false_and, and_false, not_true_eq_false, not_false_eq_true] <;> first | omega | (simp only [Int32.lt_iff_toInt_lt, Int32.le_iff_toInt_le, Int32.reduceToInt, ← Int32.toInt_inj, true_and, and_true, or_true, true_or, false_or, or_false, false_and, and_false, not_true_eq_false, not_false_eq_true] <;> omega)), (by simp only [fe_134, true_and, and_true, or_true, true_or, false_or, or_false, false_and, and_false, not_true_eq_false, not_false_eq_true] <;> first | omega | (simp only [Int32.lt_iff_toInt_lt, Int32.le_iff_toInt_le, Int32.reduceToInt, ← Int32.toInt_inj, true_and, and_true, or_true, true_or, false_or, or_false, false_and, and_false, not_true_eq_false, not_false_eq_true] <;> omega)), (by simp only [fe_135, mz_44, true_and, and_true, or_true, true_or, false_or, or_false, false_and, and_false, not_true_eq_false, not_false_eq_true] <;> first | omega | (simp only [Int32.lt_iff_toInt_lt, Int32.le_iff_toInt_le, Int32.reduceToInt, ← Int32.toInt_inj, true_and, and_true, or_true, true_or, false_or, or_false, false_and, and_false, not_true_eq_false, not_false_eq_true] <;> omega)), (by simp only [fe_136, fe_137, fe_138, fe_139, mz_41, mz_42, mz_43, true_and, and_true, or_true, true_or, false_or, or_false, false_and, and_false, not_true_eq_false, not_false_eq_true] <;> first | omega | (simp only [Int32.lt_iff_toInt_lt, Int32.le_iff_toInt_le, Int32.reduceToInt, ← Int32.toInt_inj, true_and, and_true, or_true, true_or, false_or, or_false, false_and, and_false, not_true_eq_false, not_false_eq_true] <;> omega))⟩
    · simp only [Int32.lt_iff_toInt_lt, Int32.le_iff_toInt_le, Int32.reduceToInt, ← Int32.toInt_inj] at h_64
      refine v_aload_n hC dX12_number_27 rfl ?_
      refine v_get hC fl_X12_131 m_1 e_22 rfl dX12_number_28 ?_
      obtain ⟨v_140, h_141⟩ : ∃ v9 : Int64, v_34.toInt64 = v9 := ⟨_, rfl⟩
      refine v_i2l hC dX12_number_31 h_141 ?_
      have h_142 : v_140.toInt = v_34.toInt := by rw [← h_141]; exact Int32.toInt_toInt64 _
      refine v_iload_n hC dX12_number_32 rfl ?_
      obtain ⟨v_143, h_144⟩ : ∃ v9 : Int64, a_1.toInt64 = v9 := ⟨_, rfl⟩
      refine v_i2l hC dX12_number_33 h_144 ?_
      have h_145 : v_143.toInt = a_1.toInt := by rw [← h_144]; exact Int32.toInt_toInt64 _
      refine v_iload_n hC dX12_number_34 rfl ?_
      obtain ⟨v_146, h_147⟩ : ∃ v9 : Int64, a_2.toInt64 = v9 := ⟨_, rfl⟩
      refine v_i2l hC dX12_number_35 h_147 ?_
      have h_148 : v_146.toInt = a_2.toInt := by rw [← h_147]; exact Int32.toInt_toInt64 _
      refine v_si hC (rest := []) mt_X12_in (p_X12_in hW) mx_X12_in ml_X12_79 (by decide) rfl (cells1 := 0) (slots1 := 0) (by decide) (by decide) (Nat.le_of_ble_eq_true rfl) (Nat.le_of_ble_eq_true rfl) rfl (Nat.le_of_ble_eq_true rfl) dX12_number_36 (fun r_149 L_150 f_151 h_152 => ?_)
      obtain ⟨rfl, rfl, b_153, x_154⟩ := h_152
      try simp only [Int32.reduceToInt, Int64.reduceToInt] at x_154
      refine v_if_ne hC dX12_number_39 (tgt := 47) (by decide) (fun h_157 => ?_) (fun h_157 => ?_)
      · simp only [Int32.lt_iff_toInt_lt, Int32.le_iff_toInt_le, Int32.reduceToInt, ← Int32.toInt_inj] at h_157
        refine v_aload_n hC dX12_number_47 rfl ?_
        refine v_vi hC (rest := []) m_1 e_22 rfl mi_X12_good ms_X12_good (p_X12_good hW k_0) mx_X12_good ml_X12_139 (by decide) rfl (cells1 := 0) (slots1 := 0) (by decide) (by decide) (Nat.le_of_ble_eq_true rfl) (Nat.le_of_ble_eq_true rfl) rfl (Nat.le_of_ble_eq_true rfl) dX12_number_48 (fun r_158 L_159 f_160 h_161 => ?_)
        obtain ⟨rfl, rfl, b_162, x_163⟩ := h_161
        have fe_166 : fld (f a_0) 12 = (v_35 : Int32).toInt := by rw [e_22]; rfl
        rw [fe_166] at x_163
        clear fe_166
        try simp only [Int32.reduceToInt, Int64.reduceToInt] at x_163
        refine v_if_ne hC dX12_number_51 (tgt := 56) (by decide) (fun h_167 => ?_) (fun h_167 => ?_)
        · simp only [Int32.lt_iff_toInt_lt, Int32.le_iff_toInt_le, Int32.reduceToInt, ← Int32.toInt_inj] at h_167
          refine v_aload_n hC dX12_number_56 rfl ?_
          refine v_get hC fl_X12_131 m_1 e_22 rfl dX12_number_57 ?_
          refine v_istore_n hC dX12_number_60 (by decide) (lv' := [(3, .int v_34), (0, .ref a_0), (1, .int a_1), (2, .int a_2)]) rfl ?_
          refine v_aload_n hC dX12_number_61 rfl ?_
          refine v_vv hC (rest := []) m_1 e_22 rfl mi_X12_advance ms_X12_advance (p_X12_advance hW k_0) mx_X12_advance ml_X12_156 (by decide) rfl (cells1 := 0) (slots1 := 0) (by decide) (by decide) (Nat.le_of_ble_eq_true rfl) (Nat.le_of_ble_eq_true rfl) rfl (Nat.le_of_ble_eq_true rfl) dX12_number_62 (fun L_169 f_170 h_171 => ?_)
          obtain ⟨rfl, hW_176, hF_177, x_172, x_173, x_174, x_175⟩ := h_171
          have fe_178 : fld (f a_0) 8 = (v_28 : Int32).toInt := by rw [e_22]; rfl
          have fe_179 : fld (f a_0) 12 = (v_35 : Int32).toInt := by rw [e_22]; rfl
          have fe_180 : fld (f a_0) 20 = (v_39 : Int32).toInt := by rw [e_22]; rfl
          obtain ⟨v_182, v_183, v_185, v_187, v_189, v_191, v_193, v_194, v_195, v_196, v_198, e_181, b_184, b_186, b_188, b_190, b_192, b_197, b_199⟩ := hW_176.at m_1 t_2
          have fe_200 : fld (f_170 a_0) 8 = (v_187 : Int32).toInt := by rw [e_181]; rfl
          have fe_201 : fld (f_170 a_0) 9 = (v_189 : Int32).toInt := by rw [e_181]; rfl
          have fe_202 : fld (f_170 a_0) 10 = (v_191 : Int32).toInt := by rw [e_181]; rfl
          have fe_203 : fld (f_170 a_0) 12 = (v_194 : Int32).toInt := by rw [e_181]; rfl
          have fe_204 : fld (f_170 a_0) 20 = (v_198 : Int32).toInt := by rw [e_181]; rfl
          rw [fe_178, fe_201, fe_200] at x_172
          rw [fe_202, fe_201, fe_200] at x_173
          rw [fe_203, fe_179] at x_174
          rw [fe_204, fe_180] at x_175
          clear fe_178 fe_179 fe_180 fe_200 fe_201 fe_202 fe_203 fe_204
          refine v_iload_n hC dX12_number_65 rfl ?_
          have fe_205 : fld (f_170 a_0) 12 = (v_194 : Int32).toInt := by rw [e_181]; rfl
          have fe_206 : fld (f_170 a_0) 8 = (v_187 : Int32).toInt := by rw [e_181]; rfl
          have fe_207 : fld (f_170 a_0) 9 = (v_189 : Int32).toInt := by rw [e_181]; rfl
          have fe_208 : fld (f_170 a_0) 12 = (v_194 : Int32).toInt := by rw [e_181]; rfl
          have fe_209 : fld (f_170 a_0) 8 = (v_187 : Int32).toInt := by rw [e_181]; rfl
          have fe_210 : fld (f_170 a_0) 9 = (v_189 : Int32).toInt := by rw [e_181]; rfl
          have fe_211 : fld (f_170 a_0) 10 = (v_191 : Int32).toInt := by rw [e_181]; rfl
          have fe_212 : fld (f_170 a_0) 12 = (v_194 : Int32).toInt := by rw [e_181]; rfl
          have fe_213 : fld (f_170 a_0) 12 = (v_194 : Int32).toInt := by rw [e_181]; rfl
          have fe_214 : fld (f_170 a_0) 20 = (v_198 : Int32).toInt := by rw [e_181]; rfl
          have fe_215 : fld (f_170 a_0) 8 = (v_187 : Int32).toInt := by rw [e_181]; rfl
          have fe_216 : fld (f_170 a_0) 9 = (v_189 : Int32).toInt := by rw [e_181]; rfl
          have fe_217 : fld (f_170 a_0) 10 = (v_191 : Int32).toInt := by rw [e_181]; rfl
          have fe_218 : fld (f_170 a_0) 12 = (v_194 : Int32).toInt := by rw [e_181]; rfl
          exact hR _ _ _ _ _ _ _ dX12_number_66 rfl (Nat.le_of_ble_eq_true rfl) (Nat.le_of_ble_eq_true rfl) ⟨rfl, hW_176, (hF_177.mono rfl), (by simp only [fe_205, mz_43, true_and, and_true, or_true, true_or, false_or, or_false, false_and, and_false, not_true_eq_false, not_false_eq_true] <;> first | omega | (simp only [Int32.lt_iff_toInt_lt, Int32.le_iff_toInt_le, Int32.reduceToInt, ← Int32.toInt_inj, true_and, and_true, or_true, true_or, false_or, or_false, false_and, and_false, not_true_eq_false, not_false_eq_true] <;> omega)), (by simp only [fe_206, fe_207, fe_208, mz_41, mz_42, true_and, and_true, or_true, true_or, false_or, or_false, false_and, and_false, not_true_eq_false, not_false_eq_true] <;> first | omega | (simp only [Int32.lt_iff_toInt_lt, Int32.le_iff_toInt_le, Int32.reduceToInt, ← Int32.toInt_inj, true_and, and_true, or_true, true_or, false_or, or_false, false_and, and_false, not_true_eq_false, not_false_eq_true] <;> omega)), (by simp only [fe_209, fe_210, fe_211, fe_212, true_and, and_true, or_true, true_or, false_or, or_false, false_and, and_false, not_true_eq_false, not_false_eq_true] <;> first | omega | (simp only [Int32.lt_iff_toInt_lt, Int32.le_iff_toInt_le, Int32.reduceToInt, ← Int32.toInt_inj, true_and, and_true, or_true, true_or, false_or, or_false, false_and, and_false, not_true_eq_false, not_false_eq_true] <;> omega)), (by simp only [fe_213, true_and, and_true, or_true, true_or, false_or, or_false, false_and, and_false, not_true_eq_false, not_false_eq_true] <;> first | omega | (simp only [Int32.lt_iff_toInt_lt, Int32.le_iff_toInt_le, Int32.reduceToInt, ← Int32.toInt_inj, true_and, and_true, or_true, true_or, false_or, or_false, false_and, and_false, not_true_eq_false, not_false_eq_true] <;> omega)), (by simp only [fe_214, mz_44, true_and, and_true, or_true, true_or, false_or, or_false, false_and, and_false, not_true_eq_false, not_false_eq_true] <;> first | omega | (simp only [Int32.lt_iff_toInt_lt, Int32.le_iff_toInt_le, Int32.reduceToInt, ← Int32.toInt_inj, true_and, and_true, or_true, true_or, false_or, or_false, false_and, and_false, not_true_eq_false, not_false_eq_true] <;> omega)), (by simp only [fe_215, fe_216, fe_217, fe_218, mz_41, mz_42, mz_43, true_and, and_true, or_true, true_or, false_or, or_false, false_and, and_false, not_true_eq_false, not_false_eq_true] <;> first | omega | (simp only [Int32.lt_iff_toInt_lt, Int32.le_iff_toInt_le, Int32.reduceToInt, ← Int32.toInt_inj, true_and, and_true, or_true, true_or, false_or, or_false, false_and, and_false, not_true_eq_false, not_false_eq_true] <;> omega))⟩
        · simp only [Int32.lt_iff_toInt_lt, Int32.le_iff_toInt_le, Int32.reduceToInt, ← Int32.toInt_inj] at h_167
          refine v_iconst hC dX12_number_54 (v := 0) (by decide) ?_
          have fe_219 : fld (f a_0) 12 = (v_35 : Int32).toInt := by rw [e_22]; rfl
          have fe_220 : fld (f a_0) 8 = (v_28 : Int32).toInt := by rw [e_22]; rfl
          have fe_221 : fld (f a_0) 9 = (v_30 : Int32).toInt := by rw [e_22]; rfl
          have fe_222 : fld (f a_0) 12 = (v_35 : Int32).toInt := by rw [e_22]; rfl
          have fe_223 : fld (f a_0) 8 = (v_28 : Int32).toInt := by rw [e_22]; rfl
          have fe_224 : fld (f a_0) 9 = (v_30 : Int32).toInt := by rw [e_22]; rfl
          have fe_225 : fld (f a_0) 10 = (v_32 : Int32).toInt := by rw [e_22]; rfl
          have fe_226 : fld (f a_0) 12 = (v_35 : Int32).toInt := by rw [e_22]; rfl
          have fe_227 : fld (f a_0) 12 = (v_35 : Int32).toInt := by rw [e_22]; rfl
          have fe_228 : fld (f a_0) 20 = (v_39 : Int32).toInt := by rw [e_22]; rfl
          have fe_229 : fld (f a_0) 8 = (v_28 : Int32).toInt := by rw [e_22]; rfl
          have fe_230 : fld (f a_0) 9 = (v_30 : Int32).toInt := by rw [e_22]; rfl
          have fe_231 : fld (f a_0) 10 = (v_32 : Int32).toInt := by rw [e_22]; rfl
          have fe_232 : fld (f a_0) 12 = (v_35 : Int32).toInt := by rw [e_22]; rfl
          exact hR _ _ _ _ _ _ _ dX12_number_55 rfl (Nat.le_of_ble_eq_true rfl) (Nat.le_of_ble_eq_true rfl) ⟨rfl, hW, FR.rf, (by simp only [fe_219, mz_43, true_and, and_true, or_true, true_or, false_or, or_false, false_and, and_false, not_true_eq_false, not_false_eq_true] <;> first | omega | (simp only [Int32.lt_iff_toInt_lt, Int32.le_iff_toInt_le, Int32.reduceToInt, ← Int32.toInt_inj, true_and, and_true, or_true, true_or, false_or, or_false, false_and, and_false, not_true_eq_false, not_false_eq_true] <;> omega)), (by simp only [fe_220, fe_221, fe_222, mz_41, mz_42, true_and, and_true, or_true, true_or, false_or, or_false, false_and, and_false, not_true_eq_false, not_false_eq_true] <;> first | omega | (simp only [Int32.lt_iff_toInt_lt, Int32.le_iff_toInt_le, Int32.reduceToInt, ← Int32.toInt_inj, true_and, and_true, or_true, true_or, false_or, or_false, false_and, and_false, not_true_eq_false, not_false_eq_true] <;> omega)), (by simp only [fe_223, fe_224, fe_225, fe_226, true_and, and_true, or_true, true_or, false_or, or_false, false_and, and_false, not_true_eq_false, not_false_eq_true] <;> first | omega | (simp only [Int32.lt_iff_toInt_lt, Int32.le_iff_toInt_le, Int32.reduceToInt, ← Int32.toInt_inj, true_and, and_true, or_true, true_or, false_or, or_false, false_and, and_false, not_true_eq_false, not_false_eq_true] <;> omega)), (by simp only [fe_227, true_and, and_true, or_true, true_or, false_or, or_false, false_and, and_false, not_true_eq_false, not_false_eq_true] <;> first | omega | (simp only [Int32.lt_iff_toInt_lt, Int32.le_iff_toInt_le, Int32.reduceToInt, ← Int32.toInt_inj, true_and, and_true, or_true, true_or, false_or, or_false, false_and, and_false, not_true_eq_false, not_false_eq_true] <;> omega)), (by simp only [fe_228, mz_44, true_and, and_true, or_true, true_or, false_or, or_false, false_and, and_false, not_true_eq_false, not_false_eq_true] <;> first | omega | (simp only [Int32.lt_iff_toInt_lt, Int32.le_iff_toInt_le, Int32.reduceToInt, ← Int32.toInt_inj, true_and, and_true, or_true, true_or, false_or, or_false, false_and, and_false, not_true_eq_false, not_false_eq_true] <;> omega)), (by simp only [fe_229, fe_230, fe_231, fe_232, mz_41, mz_42, mz_43, true_and, and_true, or_true, true_or, false_or, or_false, false_and, and_false, not_true_eq_false, not_false_eq_true] <;> first | omega | (simp only [Int32.lt_iff_toInt_lt, Int32.le_iff_toInt_le, Int32.reduceToInt, ← Int32.toInt_inj, true_and, and_true, or_true, true_or, false_or, or_false, false_and, and_false, not_true_eq_false, not_false_eq_true] <;> omega))⟩
      · simp only [Int32.lt_iff_toInt_lt, Int32.le_iff_toInt_le, Int32.reduceToInt, ← Int32.toInt_inj] at h_157
        refine v_aload_n hC dX12_number_42 rfl ?_
        refine v_iconst hC dX12_number_43 (v := 2) (by decide) ?_
        refine v_vv hC (rest := []) m_1 e_22 rfl mi_X12_errs ms_X12_errs (p_X12_errs hW k_0 (by decide)) mx_X12_errs ml_X12_162 (by decide) rfl (cells1 := 0) (slots1 := 0) (by decide) (by decide) (Nat.le_of_ble_eq_true rfl) (Nat.le_of_ble_eq_true rfl) rfl (Nat.le_of_ble_eq_true rfl) dX12_number_44 (fun L_234 f_235 h_236 => ?_)
        obtain ⟨rfl, hW_242, hF_243, x_237, x_238, x_239, x_240, x_241⟩ := h_236
        have fe_244 : fld (f a_0) 8 = (v_28 : Int32).toInt := by rw [e_22]; rfl
        have fe_245 : fld (f a_0) 9 = (v_30 : Int32).toInt := by rw [e_22]; rfl
        have fe_246 : fld (f a_0) 10 = (v_32 : Int32).toInt := by rw [e_22]; rfl
        have fe_247 : fld (f a_0) 20 = (v_39 : Int32).toInt := by rw [e_22]; rfl
        obtain ⟨v_249, v_250, v_252, v_254, v_256, v_258, v_260, v_261, v_262, v_263, v_265, e_248, b_251, b_253, b_255, b_257, b_259, b_264, b_266⟩ := hW_242.at m_1 t_2
        have fe_267 : fld (f_235 a_0) 8 = (v_254 : Int32).toInt := by rw [e_248]; rfl
        have fe_268 : fld (f_235 a_0) 9 = (v_256 : Int32).toInt := by rw [e_248]; rfl
        have fe_269 : fld (f_235 a_0) 10 = (v_258 : Int32).toInt := by rw [e_248]; rfl
        have fe_270 : fld (f_235 a_0) 12 = (v_261 : Int32).toInt := by rw [e_248]; rfl
        have fe_271 : fld (f_235 a_0) 20 = (v_265 : Int32).toInt := by rw [e_248]; rfl
        rw [fe_270] at x_237
        rw [fe_267, fe_244] at x_238
        rw [fe_268, fe_245] at x_239
        rw [fe_269, fe_246] at x_240
        rw [fe_271, fe_247] at x_241
        clear fe_244 fe_245 fe_246 fe_247 fe_267 fe_268 fe_269 fe_270 fe_271
        refine v_aload_n hC dX12_number_47 rfl ?_
        refine v_vi hC (rest := []) m_1 e_248 rfl mi_X12_good ms_X12_good (p_X12_good hW_242 k_0) mx_X12_good ml_X12_139 (by decide) rfl (cells1 := 0) (slots1 := 0) (by decide) (by decide) (Nat.le_of_ble_eq_true rfl) (Nat.le_of_ble_eq_true rfl) rfl (Nat.le_of_ble_eq_true rfl) dX12_number_48 (fun r_272 L_273 f_274 h_275 => ?_)
        obtain ⟨rfl, rfl, b_276, x_277⟩ := h_275
        have fe_280 : fld (f_235 a_0) 12 = (v_261 : Int32).toInt := by rw [e_248]; rfl
        rw [fe_280] at x_277
        clear fe_280
        try simp only [Int32.reduceToInt, Int64.reduceToInt] at x_277
        refine v_if_ne hC dX12_number_51 (tgt := 56) (by decide) (fun h_281 => ?_) (fun h_281 => ?_)
        · simp only [Int32.lt_iff_toInt_lt, Int32.le_iff_toInt_le, Int32.reduceToInt, ← Int32.toInt_inj] at h_281
          refine v_aload_n hC dX12_number_56 rfl ?_
          refine v_get hC fl_X12_131 m_1 e_248 rfl dX12_number_57 ?_
          refine v_istore_n hC dX12_number_60 (by decide) (lv' := [(3, .int v_260), (0, .ref a_0), (1, .int a_1), (2, .int a_2)]) rfl ?_
          refine v_aload_n hC dX12_number_61 rfl ?_
          refine v_vv hC (rest := []) m_1 e_248 rfl mi_X12_advance ms_X12_advance (p_X12_advance hW_242 k_0) mx_X12_advance ml_X12_156 (by decide) rfl (cells1 := 0) (slots1 := 0) (by decide) (by decide) (Nat.le_of_ble_eq_true rfl) (Nat.le_of_ble_eq_true rfl) rfl (Nat.le_of_ble_eq_true rfl) dX12_number_62 (fun L_283 f_284 h_285 => ?_)
          obtain ⟨rfl, hW_290, hF_291, x_286, x_287, x_288, x_289⟩ := h_285
          have fe_292 : fld (f_235 a_0) 8 = (v_254 : Int32).toInt := by rw [e_248]; rfl
          have fe_293 : fld (f_235 a_0) 12 = (v_261 : Int32).toInt := by rw [e_248]; rfl
          have fe_294 : fld (f_235 a_0) 20 = (v_265 : Int32).toInt := by rw [e_248]; rfl
          obtain ⟨v_296, v_297, v_299, v_301, v_303, v_305, v_307, v_308, v_309, v_310, v_312, e_295, b_298, b_300, b_302, b_304, b_306, b_311, b_313⟩ := hW_290.at m_1 t_2
          have fe_314 : fld (f_284 a_0) 8 = (v_301 : Int32).toInt := by rw [e_295]; rfl
          have fe_315 : fld (f_284 a_0) 9 = (v_303 : Int32).toInt := by rw [e_295]; rfl
          have fe_316 : fld (f_284 a_0) 10 = (v_305 : Int32).toInt := by rw [e_295]; rfl
          have fe_317 : fld (f_284 a_0) 12 = (v_308 : Int32).toInt := by rw [e_295]; rfl
          have fe_318 : fld (f_284 a_0) 20 = (v_312 : Int32).toInt := by rw [e_295]; rfl
          rw [fe_292, fe_315, fe_314] at x_286
          rw [fe_316, fe_315, fe_314] at x_287
          rw [fe_317, fe_293] at x_288
          rw [fe_318, fe_294] at x_289
          clear fe_292 fe_293 fe_294 fe_314 fe_315 fe_316 fe_317 fe_318
          refine v_iload_n hC dX12_number_65 rfl ?_
          have fe_319 : fld (f_284 a_0) 12 = (v_308 : Int32).toInt := by rw [e_295]; rfl
          have fe_320 : fld (f_284 a_0) 8 = (v_301 : Int32).toInt := by rw [e_295]; rfl
          have fe_321 : fld (f_284 a_0) 9 = (v_303 : Int32).toInt := by rw [e_295]; rfl
          have fe_322 : fld (f_284 a_0) 12 = (v_308 : Int32).toInt := by rw [e_295]; rfl
          have fe_323 : fld (f_284 a_0) 8 = (v_301 : Int32).toInt := by rw [e_295]; rfl
          have fe_324 : fld (f_284 a_0) 9 = (v_303 : Int32).toInt := by rw [e_295]; rfl
          have fe_325 : fld (f_284 a_0) 10 = (v_305 : Int32).toInt := by rw [e_295]; rfl
          have fe_326 : fld (f_284 a_0) 12 = (v_308 : Int32).toInt := by rw [e_295]; rfl
          have fe_327 : fld (f_284 a_0) 12 = (v_308 : Int32).toInt := by rw [e_295]; rfl
          have fe_328 : fld (f_284 a_0) 20 = (v_312 : Int32).toInt := by rw [e_295]; rfl
          have fe_329 : fld (f_284 a_0) 8 = (v_301 : Int32).toInt := by rw [e_295]; rfl
          have fe_330 : fld (f_284 a_0) 9 = (v_303 : Int32).toInt := by rw [e_295]; rfl
          have fe_331 : fld (f_284 a_0) 10 = (v_305 : Int32).toInt := by rw [e_295]; rfl
          have fe_332 : fld (f_284 a_0) 12 = (v_308 : Int32).toInt := by rw [e_295]; rfl
          exact hR _ _ _ _ _ _ _ dX12_number_66 rfl (Nat.le_of_ble_eq_true rfl) (Nat.le_of_ble_eq_true rfl) ⟨rfl, hW_290, ((hF_243.tr hF_291).mono rfl), (by simp only [fe_319, mz_43, true_and, and_true, or_true, true_or, false_or, or_false, false_and, and_false, not_true_eq_false, not_false_eq_true] <;> first | omega | (simp only [Int32.lt_iff_toInt_lt, Int32.le_iff_toInt_le, Int32.reduceToInt, ← Int32.toInt_inj, true_and, and_true, or_true, true_or, false_or, or_false, false_and, and_false, not_true_eq_false, not_false_eq_true] <;> omega)), (by simp only [fe_320, fe_321, fe_322, mz_41, mz_42, true_and, and_true, or_true, true_or, false_or, or_false, false_and, and_false, not_true_eq_false, not_false_eq_true] <;> first | omega | (simp only [Int32.lt_iff_toInt_lt, Int32.le_iff_toInt_le, Int32.reduceToInt, ← Int32.toInt_inj, true_and, and_true, or_true, true_or, false_or, or_false, false_and, and_false, not_true_eq_false, not_false_eq_true] <;> omega)), (by simp only [fe_323, fe_324, fe_325, fe_326, true_and, and_true, or_true, true_or, false_or, or_false, false_and, and_false, not_true_eq_false, not_false_eq_true] <;> first | omega | (simp only [Int32.lt_iff_toInt_lt, Int32.le_iff_toInt_le, Int32.reduceToInt, ← Int32.toInt_inj, true_and, and_true, or_true, true_or, false_or, or_false, false_and, and_false, not_true_eq_false, not_false_eq_true] <;> omega)), (by simp only [fe_327, true_and, and_true, or_true, true_or, false_or, or_false, false_and, and_false, not_true_eq_false, not_false_eq_true] <;> first | omega | (simp only [Int32.lt_iff_toInt_lt, Int32.le_iff_toInt_le, Int32.reduceToInt, ← Int32.toInt_inj, true_and, and_true, or_true, true_or, false_or, or_false, false_and, and_false, not_true_eq_false, not_false_eq_true] <;> omega)), (by simp only [fe_328, mz_44, true_and, and_true, or_true, true_or, false_or, or_false, false_and, and_false, not_true_eq_false, not_false_eq_true] <;> first | omega | (simp only [Int32.lt_iff_toInt_lt, Int32.le_iff_toInt_le, Int32.reduceToInt, ← Int32.toInt_inj, true_and, and_true, or_true, true_or, false_or, or_false, false_and, and_false, not_true_eq_false, not_false_eq_true] <;> omega)), (by simp only [fe_329, fe_330, fe_331, fe_332, mz_41, mz_42, mz_43, true_and, and_true, or_true, true_or, false_or, or_false, false_and, and_false, not_true_eq_false, not_false_eq_true] <;> first | omega | (simp only [Int32.lt_iff_toInt_lt, Int32.le_iff_toInt_le, Int32.reduceToInt, ← Int32.toInt_inj, true_and, and_true, or_true, true_or, false_or, or_false, false_and, and_false, not_true_eq_false, not_false_eq_true] <;> omega))⟩
        · simp only [Int32.lt_iff_toInt_lt, Int32.le_iff_toInt_le, Int32.reduceToInt, ← Int32.toInt_inj] at h_281
          refine v_iconst hC dX12_number_54 (v := 0) (by decide) ?_
          have fe_333 : fld (f_235 a_0) 12 = (v_261 : Int32).toInt := by rw [e_248]; rfl
          have fe_334 : fld (f_235 a_0) 8 = (v_254 : Int32).toInt := by rw [e_248]; rfl
          have fe_335 : fld (f_235 a_0) 9 = (v_256 : Int32).toInt := by rw [e_248]; rfl
          have fe_336 : fld (f_235 a_0) 12 = (v_261 : Int32).toInt := by rw [e_248]; rfl
          have fe_337 : fld (f_235 a_0) 8 = (v_254 : Int32).toInt := by rw [e_248]; rfl
          have fe_338 : fld (f_235 a_0) 9 = (v_256 : Int32).toInt := by rw [e_248]; rfl
          have fe_339 : fld (f_235 a_0) 10 = (v_258 : Int32).toInt := by rw [e_248]; rfl
          have fe_340 : fld (f_235 a_0) 12 = (v_261 : Int32).toInt := by rw [e_248]; rfl
          have fe_341 : fld (f_235 a_0) 12 = (v_261 : Int32).toInt := by rw [e_248]; rfl
          have fe_342 : fld (f_235 a_0) 20 = (v_265 : Int32).toInt := by rw [e_248]; rfl
          have fe_343 : fld (f_235 a_0) 8 = (v_254 : Int32).toInt := by rw [e_248]; rfl
          have fe_344 : fld (f_235 a_0) 9 = (v_256 : Int32).toInt := by rw [e_248]; rfl
          have fe_345 : fld (f_235 a_0) 10 = (v_258 : Int32).toInt := by rw [e_248]; rfl
          have fe_346 : fld (f_235 a_0) 12 = (v_261 : Int32).toInt := by rw [e_248]; rfl
          exact hR _ _ _ _ _ _ _ dX12_number_55 rfl (Nat.le_of_ble_eq_true rfl) (Nat.le_of_ble_eq_true rfl) ⟨rfl, hW_242, (hF_243.mono rfl), (by simp only [fe_333, mz_43, true_and, and_true, or_true, true_or, false_or, or_false, false_and, and_false, not_true_eq_false, not_false_eq_true] <;> first | omega | (simp only [Int32.lt_iff_toInt_lt, Int32.le_iff_toInt_le, Int32.reduceToInt, ← Int32.toInt_inj, true_and, and_true, or_true, true_or, false_or, or_false, false_and, and_false, not_true_eq_false, not_false_eq_true] <;> omega)), (by simp only [fe_334, fe_335, fe_336, mz_41, mz_42, true_and, and_true, or_true, true_or, false_or, or_false, false_and, and_false, not_true_eq_false, not_false_eq_true] <;> first | omega | (simp only [Int32.lt_iff_toInt_lt, Int32.le_iff_toInt_le, Int32.reduceToInt, ← Int32.toInt_inj, true_and, and_true, or_true, true_or, false_or, or_false, false_and, and_false, not_true_eq_false, not_false_eq_true] <;> omega)), (by simp only [fe_337, fe_338, fe_339, fe_340, true_and, and_true, or_true, true_or, false_or, or_false, false_and, and_false, not_true_eq_false, not_false_eq_true] <;> first | omega | (simp only [Int32.lt_iff_toInt_lt, Int32.le_iff_toInt_le, Int32.reduceToInt, ← Int32.toInt_inj, true_and, and_true, or_true, true_or, false_or, or_false, false_and, and_false, not_true_eq_false, not_false_eq_true] <;> omega)), (by simp only [fe_341, true_and, and_true, or_true, true_or, false_or, or_false, false_and, and_false, not_true_eq_false, not_false_eq_true] <;> first | omega | (simp only [Int32.lt_iff_toInt_lt, Int32.le_iff_toInt_le, Int32.reduceToInt, ← Int32.toInt_inj, true_and, and_true, or_true, true_or, false_or, or_false, false_and, and_false, not_true_eq_false, not_false_eq_true] <;> omega)), (by simp only [fe_342, mz_44, true_and, and_true, or_true, true_or, false_or, or_false, false_and, and_false, not_true_eq_false, not_false_eq_true] <;> first | omega | (simp only [Int32.lt_iff_toInt_lt, Int32.le_iff_toInt_le, Int32.reduceToInt, ← Int32.toInt_inj, true_and, and_true, or_true, true_or, false_or, or_false, false_and, and_false, not_true_eq_false, not_false_eq_true] <;> omega)), (by simp only [fe_343, fe_344, fe_345, fe_346, mz_41, mz_42, mz_43, true_and, and_true, or_true, true_or, false_or, or_false, false_and, and_false, not_true_eq_false, not_false_eq_true] <;> first | omega | (simp only [Int32.lt_iff_toInt_lt, Int32.le_iff_toInt_le, Int32.reduceToInt, ← Int32.toInt_inj, true_and, and_true, or_true, true_or, false_or, or_false, false_and, and_false, not_true_eq_false, not_false_eq_true] <;> omega))⟩
  · simp only [Int32.lt_iff_toInt_lt, Int32.le_iff_toInt_le, Int32.reduceToInt, ← Int32.toInt_inj] at h_54
    refine v_aload_n hC dX12_number_7 rfl ?_
    refine v_get hC fl_X12_120 m_1 e_22 rfl dX12_number_8 ?_
    refine v_iconst hC dX12_number_11 (v := 2) (by decide) ?_
    refine v_icmp_eq hC dX12_number_12 (tgt := 20) (by decide) (fun h_347 => ?_) (fun h_347 => ?_)
    · simp only [Int32.lt_iff_toInt_lt, Int32.le_iff_toInt_le, Int32.reduceToInt, ← Int32.toInt_inj] at h_347
      refine v_aload_n hC dX12_number_20 rfl ?_
      refine v_vi hC (rest := []) m_1 e_22 rfl mi_X12_good ms_X12_good (p_X12_good hW k_0) mx_X12_good ml_X12_139 (by decide) rfl (cells1 := 0) (slots1 := 0) (by decide) (by decide) (Nat.le_of_ble_eq_true rfl) (Nat.le_of_ble_eq_true rfl) rfl (Nat.le_of_ble_eq_true rfl) dX12_number_21 (fun r_348 L_349 f_350 h_351 => ?_)
      obtain ⟨rfl, rfl, b_352, x_353⟩ := h_351
      have fe_356 : fld (f a_0) 12 = (v_35 : Int32).toInt := by rw [e_22]; rfl
      rw [fe_356] at x_353
      clear fe_356
      try simp only [Int32.reduceToInt, Int64.reduceToInt] at x_353
      refine v_if_eq hC dX12_number_24 (tgt := 47) (by decide) (fun h_357 => ?_) (fun h_357 => ?_)
      · simp only [Int32.lt_iff_toInt_lt, Int32.le_iff_toInt_le, Int32.reduceToInt, ← Int32.toInt_inj] at h_357
        refine v_aload_n hC dX12_number_47 rfl ?_
        refine v_vi hC (rest := []) m_1 e_22 rfl mi_X12_good ms_X12_good (p_X12_good hW k_0) mx_X12_good ml_X12_139 (by decide) rfl (cells1 := 0) (slots1 := 0) (by decide) (by decide) (Nat.le_of_ble_eq_true rfl) (Nat.le_of_ble_eq_true rfl) rfl (Nat.le_of_ble_eq_true rfl) dX12_number_48 (fun r_358 L_359 f_360 h_361 => ?_)
        obtain ⟨rfl, rfl, b_362, x_363⟩ := h_361
        have fe_366 : fld (f a_0) 12 = (v_35 : Int32).toInt := by rw [e_22]; rfl
        rw [fe_366] at x_363
        clear fe_366
        try simp only [Int32.reduceToInt, Int64.reduceToInt] at x_363
        refine v_if_ne hC dX12_number_51 (tgt := 56) (by decide) (fun h_367 => ?_) (fun h_367 => ?_)
        · simp only [Int32.lt_iff_toInt_lt, Int32.le_iff_toInt_le, Int32.reduceToInt, ← Int32.toInt_inj] at h_367
          refine v_aload_n hC dX12_number_56 rfl ?_
          refine v_get hC fl_X12_131 m_1 e_22 rfl dX12_number_57 ?_
          refine v_istore_n hC dX12_number_60 (by decide) (lv' := [(3, .int v_34), (0, .ref a_0), (1, .int a_1), (2, .int a_2)]) rfl ?_
          refine v_aload_n hC dX12_number_61 rfl ?_
          refine v_vv hC (rest := []) m_1 e_22 rfl mi_X12_advance ms_X12_advance (p_X12_advance hW k_0) mx_X12_advance ml_X12_156 (by decide) rfl (cells1 := 0) (slots1 := 0) (by decide) (by decide) (Nat.le_of_ble_eq_true rfl) (Nat.le_of_ble_eq_true rfl) rfl (Nat.le_of_ble_eq_true rfl) dX12_number_62 (fun L_369 f_370 h_371 => ?_)
          obtain ⟨rfl, hW_376, hF_377, x_372, x_373, x_374, x_375⟩ := h_371
          have fe_378 : fld (f a_0) 8 = (v_28 : Int32).toInt := by rw [e_22]; rfl
          have fe_379 : fld (f a_0) 12 = (v_35 : Int32).toInt := by rw [e_22]; rfl
          have fe_380 : fld (f a_0) 20 = (v_39 : Int32).toInt := by rw [e_22]; rfl
          obtain ⟨v_382, v_383, v_385, v_387, v_389, v_391, v_393, v_394, v_395, v_396, v_398, e_381, b_384, b_386, b_388, b_390, b_392, b_397, b_399⟩ := hW_376.at m_1 t_2
          have fe_400 : fld (f_370 a_0) 8 = (v_387 : Int32).toInt := by rw [e_381]; rfl
          have fe_401 : fld (f_370 a_0) 9 = (v_389 : Int32).toInt := by rw [e_381]; rfl
          have fe_402 : fld (f_370 a_0) 10 = (v_391 : Int32).toInt := by rw [e_381]; rfl
          have fe_403 : fld (f_370 a_0) 12 = (v_394 : Int32).toInt := by rw [e_381]; rfl
          have fe_404 : fld (f_370 a_0) 20 = (v_398 : Int32).toInt := by rw [e_381]; rfl
          rw [fe_378, fe_401, fe_400] at x_372
          rw [fe_402, fe_401, fe_400] at x_373
          rw [fe_403, fe_379] at x_374
          rw [fe_404, fe_380] at x_375
          clear fe_378 fe_379 fe_380 fe_400 fe_401 fe_402 fe_403 fe_404
          refine v_iload_n hC dX12_number_65 rfl ?_
          have fe_405 : fld (f_370 a_0) 12 = (v_394 : Int32).toInt := by rw [e_381]; rfl
          have fe_406 : fld (f_370 a_0) 8 = (v_387 : Int32).toInt := by rw [e_381]; rfl
          have fe_407 : fld (f_370 a_0) 9 = (v_389 : Int32).toInt := by rw [e_381]; rfl
          have fe_408 : fld (f_370 a_0) 12 = (v_394 : Int32).toInt := by rw [e_381]; rfl
          have fe_409 : fld (f_370 a_0) 8 = (v_387 : Int32).toInt := by rw [e_381]; rfl
          have fe_410 : fld (f_370 a_0) 9 = (v_389 : Int32).toInt := by rw [e_381]; rfl
          have fe_411 : fld (f_370 a_0) 10 = (v_391 : Int32).toInt := by rw [e_381]; rfl
          have fe_412 : fld (f_370 a_0) 12 = (v_394 : Int32).toInt := by rw [e_381]; rfl
          have fe_413 : fld (f_370 a_0) 12 = (v_394 : Int32).toInt := by rw [e_381]; rfl
          have fe_414 : fld (f_370 a_0) 20 = (v_398 : Int32).toInt := by rw [e_381]; rfl
          have fe_415 : fld (f_370 a_0) 8 = (v_387 : Int32).toInt := by rw [e_381]; rfl
          have fe_416 : fld (f_370 a_0) 9 = (v_389 : Int32).toInt := by rw [e_381]; rfl
          have fe_417 : fld (f_370 a_0) 10 = (v_391 : Int32).toInt := by rw [e_381]; rfl
          have fe_418 : fld (f_370 a_0) 12 = (v_394 : Int32).toInt := by rw [e_381]; rfl
          exact hR _ _ _ _ _ _ _ dX12_number_66 rfl (Nat.le_of_ble_eq_true rfl) (Nat.le_of_ble_eq_true rfl) ⟨rfl, hW_376, (hF_377.mono rfl), (by simp only [fe_405, mz_43, true_and, and_true, or_true, true_or, false_or, or_false, false_and, and_false, not_true_eq_false, not_false_eq_true] <;> first | omega | (simp only [Int32.lt_iff_toInt_lt, Int32.le_iff_toInt_le, Int32.reduceToInt, ← Int32.toInt_inj, true_and, and_true, or_true, true_or, false_or, or_false, false_and, and_false, not_true_eq_false, not_false_eq_true] <;> omega)), (by simp only [fe_406, fe_407, fe_408, mz_41, mz_42, true_and, and_true, or_true, true_or, false_or, or_false, false_and, and_false, not_true_eq_false, not_false_eq_true] <;> first | omega | (simp only [Int32.lt_iff_toInt_lt, Int32.le_iff_toInt_le, Int32.reduceToInt, ← Int32.toInt_inj, true_and, and_true, or_true, true_or, false_or, or_false, false_and, and_false, not_true_eq_false, not_false_eq_true] <;> omega)), (by simp only [fe_409, fe_410, fe_411, fe_412, true_and, and_true, or_true, true_or, false_or, or_false, false_and, and_false, not_true_eq_false, not_false_eq_true] <;> first | omega | (simp only [Int32.lt_iff_toInt_lt, Int32.le_iff_toInt_le, Int32.reduceToInt, ← Int32.toInt_inj, true_and, and_true, or_true, true_or, false_or, or_false, false_and, and_false, not_true_eq_false, not_false_eq_true] <;> omega)), (by simp only [fe_413, true_and, and_true, or_true, true_or, false_or, or_false, false_and, and_false, not_true_eq_false, not_false_eq_true] <;> first | omega | (simp only [Int32.lt_iff_toInt_lt, Int32.le_iff_toInt_le, Int32.reduceToInt, ← Int32.toInt_inj, true_and, and_true, or_true, true_or, false_or, or_false, false_and, and_false, not_true_eq_false, not_false_eq_true] <;> omega)), (by simp only [fe_414, mz_44, true_and, and_true, or_true, true_or, false_or, or_false, false_and, and_false, not_true_eq_false, not_false_eq_true] <;> first | omega | (simp only [Int32.lt_iff_toInt_lt, Int32.le_iff_toInt_le, Int32.reduceToInt, ← Int32.toInt_inj, true_and, and_true, or_true, true_or, false_or, or_false, false_and, and_false, not_true_eq_false, not_false_eq_true] <;> omega)), (by simp only [fe_415, fe_416, fe_417, fe_418, mz_41, mz_42, mz_43, true_and, and_true, or_true, true_or, false_or, or_false, false_and, and_false, not_true_eq_false, not_false_eq_true] <;> first | omega | (simp only [Int32.lt_iff_toInt_lt, Int32.le_iff_toInt_le, Int32.reduceToInt, ← Int32.toInt_inj, true_and, and_true, or_true, true_or, false_or, or_false, false_and, and_false, not_true_eq_false, not_false_eq_true] <;> omega))⟩
        · simp only [Int32.lt_iff_toInt_lt, Int32.le_iff_toInt_le, Int32.reduceToInt, ← Int32.toInt_inj] at h_367
          refine v_iconst hC dX12_number_54 (v := 0) (by decide) ?_
          have fe_419 : fld (f a_0) 12 = (v_35 : Int32).toInt := by rw [e_22]; rfl
          have fe_420 : fld (f a_0) 8 = (v_28 : Int32).toInt := by rw [e_22]; rfl
          have fe_421 : fld (f a_0) 9 = (v_30 : Int32).toInt := by rw [e_22]; rfl
          have fe_422 : fld (f a_0) 12 = (v_35 : Int32).toInt := by rw [e_22]; rfl
          have fe_423 : fld (f a_0) 8 = (v_28 : Int32).toInt := by rw [e_22]; rfl
          have fe_424 : fld (f a_0) 9 = (v_30 : Int32).toInt := by rw [e_22]; rfl
          have fe_425 : fld (f a_0) 10 = (v_32 : Int32).toInt := by rw [e_22]; rfl
          have fe_426 : fld (f a_0) 12 = (v_35 : Int32).toInt := by rw [e_22]; rfl
          have fe_427 : fld (f a_0) 12 = (v_35 : Int32).toInt := by rw [e_22]; rfl
          have fe_428 : fld (f a_0) 20 = (v_39 : Int32).toInt := by rw [e_22]; rfl
          have fe_429 : fld (f a_0) 8 = (v_28 : Int32).toInt := by rw [e_22]; rfl
          have fe_430 : fld (f a_0) 9 = (v_30 : Int32).toInt := by rw [e_22]; rfl
          have fe_431 : fld (f a_0) 10 = (v_32 : Int32).toInt := by rw [e_22]; rfl
          have fe_432 : fld (f a_0) 12 = (v_35 : Int32).toInt := by rw [e_22]; rfl
          exact hR _ _ _ _ _ _ _ dX12_number_55 rfl (Nat.le_of_ble_eq_true rfl) (Nat.le_of_ble_eq_true rfl) ⟨rfl, hW, FR.rf, (by simp only [fe_419, mz_43, true_and, and_true, or_true, true_or, false_or, or_false, false_and, and_false, not_true_eq_false, not_false_eq_true] <;> first | omega | (simp only [Int32.lt_iff_toInt_lt, Int32.le_iff_toInt_le, Int32.reduceToInt, ← Int32.toInt_inj, true_and, and_true, or_true, true_or, false_or, or_false, false_and, and_false, not_true_eq_false, not_false_eq_true] <;> omega)), (by simp only [fe_420, fe_421, fe_422, mz_41, mz_42, true_and, and_true, or_true, true_or, false_or, or_false, false_and, and_false, not_true_eq_false, not_false_eq_true] <;> first | omega | (simp only [Int32.lt_iff_toInt_lt, Int32.le_iff_toInt_le, Int32.reduceToInt, ← Int32.toInt_inj, true_and, and_true, or_true, true_or, false_or, or_false, false_and, and_false, not_true_eq_false, not_false_eq_true] <;> omega)), (by simp only [fe_423, fe_424, fe_425, fe_426, true_and, and_true, or_true, true_or, false_or, or_false, false_and, and_false, not_true_eq_false, not_false_eq_true] <;> first | omega | (simp only [Int32.lt_iff_toInt_lt, Int32.le_iff_toInt_le, Int32.reduceToInt, ← Int32.toInt_inj, true_and, and_true, or_true, true_or, false_or, or_false, false_and, and_false, not_true_eq_false, not_false_eq_true] <;> omega)), (by simp only [fe_427, true_and, and_true, or_true, true_or, false_or, or_false, false_and, and_false, not_true_eq_false, not_false_eq_true] <;> first | omega | (simp only [Int32.lt_iff_toInt_lt, Int32.le_iff_toInt_le, Int32.reduceToInt, ← Int32.toInt_inj, true_and, and_true, or_true, true_or, false_or, or_false, false_and, and_false, not_true_eq_false, not_false_eq_true] <;> omega)), (by simp only [fe_428, mz_44, true_and, and_true, or_true, true_or, false_or, or_false, false_and, and_false, not_true_eq_false, not_false_eq_true] <;> first | omega | (simp only [Int32.lt_iff_toInt_lt, Int32.le_iff_toInt_le, Int32.reduceToInt, ← Int32.toInt_inj, true_and, and_true, or_true, true_or, false_or, or_false, false_and, and_false, not_true_eq_false, not_false_eq_true] <;> omega)), (by simp only [fe_429, fe_430, fe_431, fe_432, mz_41, mz_42, mz_43, true_and, and_true, or_true, true_or, false_or, or_false, false_and, and_false, not_true_eq_false, not_false_eq_true] <;> first | omega | (simp only [Int32.lt_iff_toInt_lt, Int32.le_iff_toInt_le, Int32.reduceToInt, ← Int32.toInt_inj, true_and, and_true, or_true, true_or, false_or, or_false, false_and, and_false, not_true_eq_false, not_false_eq_true] <;> omega))⟩
      · simp only [Int32.lt_iff_toInt_lt, Int32.le_iff_toInt_le, Int32.reduceToInt, ← Int32.toInt_inj] at h_357
        refine v_aload_n hC dX12_number_27 rfl ?_
        refine v_get hC fl_X12_131 m_1 e_22 rfl dX12_number_28 ?_
        obtain ⟨v_433, h_434⟩ : ∃ v9 : Int64, v_34.toInt64 = v9 := ⟨_, rfl⟩
        refine v_i2l hC dX12_number_31 h_434 ?_
        have h_435 : v_433.toInt = v_34.toInt := by rw [← h_434]; exact Int32.toInt_toInt64 _
        refine v_iload_n hC dX12_number_32 rfl ?_
        obtain ⟨v_436, h_437⟩ : ∃ v9 : Int64, a_1.toInt64 = v9 := ⟨_, rfl⟩
        refine v_i2l hC dX12_number_33 h_437 ?_
        have h_438 : v_436.toInt = a_1.toInt := by rw [← h_437]; exact Int32.toInt_toInt64 _
        refine v_iload_n hC dX12_number_34 rfl ?_
        obtain ⟨v_439, h_440⟩ : ∃ v9 : Int64, a_2.toInt64 = v9 := ⟨_, rfl⟩
        refine v_i2l hC dX12_number_35 h_440 ?_
        have h_441 : v_439.toInt = a_2.toInt := by rw [← h_440]; exact Int32.toInt_toInt64 _
        refine v_si hC (rest := []) mt_X12_in (p_X12_in hW) mx_X12_in ml_X12_79 (by decide) rfl (cells1 := 0) (slots1 := 0) (by decide) (by decide) (Nat.le_of_ble_eq_true rfl) (Nat.le_of_ble_eq_true rfl) rfl (Nat.le_of_ble_eq_true rfl) dX12_number_36 (fun r_442 L_443 f_444 h_445 => ?_)
        obtain ⟨rfl, rfl, b_446, x_447⟩ := h_445
        try simp only [Int32.reduceToInt, Int64.reduceToInt] at x_447
        refine v_if_ne hC dX12_number_39 (tgt := 47) (by decide) (fun h_450 => ?_) (fun h_450 => ?_)
        · simp only [Int32.lt_iff_toInt_lt, Int32.le_iff_toInt_le, Int32.reduceToInt, ← Int32.toInt_inj] at h_450
          refine v_aload_n hC dX12_number_47 rfl ?_
          refine v_vi hC (rest := []) m_1 e_22 rfl mi_X12_good ms_X12_good (p_X12_good hW k_0) mx_X12_good ml_X12_139 (by decide) rfl (cells1 := 0) (slots1 := 0) (by decide) (by decide) (Nat.le_of_ble_eq_true rfl) (Nat.le_of_ble_eq_true rfl) rfl (Nat.le_of_ble_eq_true rfl) dX12_number_48 (fun r_451 L_452 f_453 h_454 => ?_)
          obtain ⟨rfl, rfl, b_455, x_456⟩ := h_454
          have fe_459 : fld (f a_0) 12 = (v_35 : Int32).toInt := by rw [e_22]; rfl
          rw [fe_459] at x_456
          clear fe_459
          try simp only [Int32.reduceToInt, Int64.reduceToInt] at x_456
          refine v_if_ne hC dX12_number_51 (tgt := 56) (by decide) (fun h_460 => ?_) (fun h_460 => ?_)
          · simp only [Int32.lt_iff_toInt_lt, Int32.le_iff_toInt_le, Int32.reduceToInt, ← Int32.toInt_inj] at h_460
            refine v_aload_n hC dX12_number_56 rfl ?_
            refine v_get hC fl_X12_131 m_1 e_22 rfl dX12_number_57 ?_
            refine v_istore_n hC dX12_number_60 (by decide) (lv' := [(3, .int v_34), (0, .ref a_0), (1, .int a_1), (2, .int a_2)]) rfl ?_
            refine v_aload_n hC dX12_number_61 rfl ?_
            refine v_vv hC (rest := []) m_1 e_22 rfl mi_X12_advance ms_X12_advance (p_X12_advance hW k_0) mx_X12_advance ml_X12_156 (by decide) rfl (cells1 := 0) (slots1 := 0) (by decide) (by decide) (Nat.le_of_ble_eq_true rfl) (Nat.le_of_ble_eq_true rfl) rfl (Nat.le_of_ble_eq_true rfl) dX12_number_62 (fun L_462 f_463 h_464 => ?_)
            obtain ⟨rfl, hW_469, hF_470, x_465, x_466, x_467, x_468⟩ := h_464
            have fe_471 : fld (f a_0) 8 = (v_28 : Int32).toInt := by rw [e_22]; rfl
            have fe_472 : fld (f a_0) 12 = (v_35 : Int32).toInt := by rw [e_22]; rfl
            have fe_473 : fld (f a_0) 20 = (v_39 : Int32).toInt := by rw [e_22]; rfl
            obtain ⟨v_475, v_476, v_478, v_480, v_482, v_484, v_486, v_487, v_488, v_489, v_491, e_474, b_477, b_479, b_481, b_483, b_485, b_490, b_492⟩ := hW_469.at m_1 t_2
            have fe_493 : fld (f_463 a_0) 8 = (v_480 : Int32).toInt := by rw [e_474]; rfl
            have fe_494 : fld (f_463 a_0) 9 = (v_482 : Int32).toInt := by rw [e_474]; rfl
            have fe_495 : fld (f_463 a_0) 10 = (v_484 : Int32).toInt := by rw [e_474]; rfl
            have fe_496 : fld (f_463 a_0) 12 = (v_487 : Int32).toInt := by rw [e_474]; rfl
            have fe_497 : fld (f_463 a_0) 20 = (v_491 : Int32).toInt := by rw [e_474]; rfl
            rw [fe_471, fe_494, fe_493] at x_465
            rw [fe_495, fe_494, fe_493] at x_466
            rw [fe_496, fe_472] at x_467
            rw [fe_497, fe_473] at x_468
            clear fe_471 fe_472 fe_473 fe_493 fe_494 fe_495 fe_496 fe_497
            refine v_iload_n hC dX12_number_65 rfl ?_
            have fe_498 : fld (f_463 a_0) 12 = (v_487 : Int32).toInt := by rw [e_474]; rfl
            have fe_499 : fld (f_463 a_0) 8 = (v_480 : Int32).toInt := by rw [e_474]; rfl
            have fe_500 : fld (f_463 a_0) 9 = (v_482 : Int32).toInt := by rw [e_474]; rfl
            have fe_501 : fld (f_463 a_0) 12 = (v_487 : Int32).toInt := by rw [e_474]; rfl
            have fe_502 : fld (f_463 a_0) 8 = (v_480 : Int32).toInt := by rw [e_474]; rfl
            have fe_503 : fld (f_463 a_0) 9 = (v_482 : Int32).toInt := by rw [e_474]; rfl
            have fe_504 : fld (f_463 a_0) 10 = (v_484 : Int32).toInt := by rw [e_474]; rfl
            have fe_505 : fld (f_463 a_0) 12 = (v_487 : Int32).toInt := by rw [e_474]; rfl
            have fe_506 : fld (f_463 a_0) 12 = (v_487 : Int32).toInt := by rw [e_474]; rfl
            have fe_507 : fld (f_463 a_0) 20 = (v_491 : Int32).toInt := by rw [e_474]; rfl
            have fe_508 : fld (f_463 a_0) 8 = (v_480 : Int32).toInt := by rw [e_474]; rfl
            have fe_509 : fld (f_463 a_0) 9 = (v_482 : Int32).toInt := by rw [e_474]; rfl
            have fe_510 : fld (f_463 a_0) 10 = (v_484 : Int32).toInt := by rw [e_474]; rfl
            have fe_511 : fld (f_463 a_0) 12 = (v_487 : Int32).toInt := by rw [e_474]; rfl
            exact hR _ _ _ _ _ _ _ dX12_number_66 rfl (Nat.le_of_ble_eq_true rfl) (Nat.le_of_ble_eq_true rfl) ⟨rfl, hW_469, (hF_470.mono rfl), (by simp only [fe_498, mz_43, true_and, and_true, or_true, true_or, false_or, or_false, false_and, and_false, not_true_eq_false, not_false_eq_true] <;> first | omega | (simp only [Int32.lt_iff_toInt_lt, Int32.le_iff_toInt_le, Int32.reduceToInt, ← Int32.toInt_inj, true_and, and_true, or_true, true_or, false_or, or_false, false_and, and_false, not_true_eq_false, not_false_eq_true] <;> omega)), (by simp only [fe_499, fe_500, fe_501, mz_41, mz_42, true_and, and_true, or_true, true_or, false_or, or_false, false_and, and_false, not_true_eq_false, not_false_eq_true] <;> first | omega | (simp only [Int32.lt_iff_toInt_lt, Int32.le_iff_toInt_le, Int32.reduceToInt, ← Int32.toInt_inj, true_and, and_true, or_true, true_or, false_or, or_false, false_and, and_false, not_true_eq_false, not_false_eq_true] <;> omega)), (by simp only [fe_502, fe_503, fe_504, fe_505, true_and, and_true, or_true, true_or, false_or, or_false, false_and, and_false, not_true_eq_false, not_false_eq_true] <;> first | omega | (simp only [Int32.lt_iff_toInt_lt, Int32.le_iff_toInt_le, Int32.reduceToInt, ← Int32.toInt_inj, true_and, and_true, or_true, true_or, false_or, or_false, false_and, and_false, not_true_eq_false, not_false_eq_true] <;> omega)), (by simp only [fe_506, true_and, and_true, or_true, true_or, false_or, or_false, false_and, and_false, not_true_eq_false, not_false_eq_true] <;> first | omega | (simp only [Int32.lt_iff_toInt_lt, Int32.le_iff_toInt_le, Int32.reduceToInt, ← Int32.toInt_inj, true_and, and_true, or_true, true_or, false_or, or_false, false_and, and_false, not_true_eq_false, not_false_eq_true] <;> omega)), (by simp only [fe_507, mz_44, true_and, and_true, or_true, true_or, false_or, or_false, false_and, and_false, not_true_eq_false, not_false_eq_true] <;> first | omega | (simp only [Int32.lt_iff_toInt_lt, Int32.le_iff_toInt_le, Int32.reduceToInt, ← Int32.toInt_inj, true_and, and_true, or_true, true_or, false_or, or_false, false_and, and_false, not_true_eq_false, not_false_eq_true] <;> omega)), (by simp only [fe_508, fe_509, fe_510, fe_511, mz_41, mz_42, mz_43, true_and, and_true, or_true, true_or, false_or, or_false, false_and, and_false, not_true_eq_false, not_false_eq_true] <;> first | omega | (simp only [Int32.lt_iff_toInt_lt, Int32.le_iff_toInt_le, Int32.reduceToInt, ← Int32.toInt_inj, true_and, and_true, or_true, true_or, false_or, or_false, false_and, and_false, not_true_eq_false, not_false_eq_true] <;> omega))⟩
          · simp only [Int32.lt_iff_toInt_lt, Int32.le_iff_toInt_le, Int32.reduceToInt, ← Int32.toInt_inj] at h_460
            refine v_iconst hC dX12_number_54 (v := 0) (by decide) ?_
            have fe_512 : fld (f a_0) 12 = (v_35 : Int32).toInt := by rw [e_22]; rfl
            have fe_513 : fld (f a_0) 8 = (v_28 : Int32).toInt := by rw [e_22]; rfl
            have fe_514 : fld (f a_0) 9 = (v_30 : Int32).toInt := by rw [e_22]; rfl
            have fe_515 : fld (f a_0) 12 = (v_35 : Int32).toInt := by rw [e_22]; rfl
            have fe_516 : fld (f a_0) 8 = (v_28 : Int32).toInt := by rw [e_22]; rfl
            have fe_517 : fld (f a_0) 9 = (v_30 : Int32).toInt := by rw [e_22]; rfl
            have fe_518 : fld (f a_0) 10 = (v_32 : Int32).toInt := by rw [e_22]; rfl
            have fe_519 : fld (f a_0) 12 = (v_35 : Int32).toInt := by rw [e_22]; rfl
            have fe_520 : fld (f a_0) 12 = (v_35 : Int32).toInt := by rw [e_22]; rfl
            have fe_521 : fld (f a_0) 20 = (v_39 : Int32).toInt := by rw [e_22]; rfl
            have fe_522 : fld (f a_0) 8 = (v_28 : Int32).toInt := by rw [e_22]; rfl
            have fe_523 : fld (f a_0) 9 = (v_30 : Int32).toInt := by rw [e_22]; rfl
            have fe_524 : fld (f a_0) 10 = (v_32 : Int32).toInt := by rw [e_22]; rfl
            have fe_525 : fld (f a_0) 12 = (v_35 : Int32).toInt := by rw [e_22]; rfl
            exact hR _ _ _ _ _ _ _ dX12_number_55 rfl (Nat.le_of_ble_eq_true rfl) (Nat.le_of_ble_eq_true rfl) ⟨rfl, hW, FR.rf, (by simp only [fe_512, mz_43, true_and, and_true, or_true, true_or, false_or, or_false, false_and, and_false, not_true_eq_false, not_false_eq_true] <;> first | omega | (simp only [Int32.lt_iff_toInt_lt, Int32.le_iff_toInt_le, Int32.reduceToInt, ← Int32.toInt_inj, true_and, and_true, or_true, true_or, false_or, or_false, false_and, and_false, not_true_eq_false, not_false_eq_true] <;> omega)), (by simp only [fe_513, fe_514, fe_515, mz_41, mz_42, true_and, and_true, or_true, true_or, false_or, or_false, false_and, and_false, not_true_eq_false, not_false_eq_true] <;> first | omega | (simp only [Int32.lt_iff_toInt_lt, Int32.le_iff_toInt_le, Int32.reduceToInt, ← Int32.toInt_inj, true_and, and_true, or_true, true_or, false_or, or_false, false_and, and_false, not_true_eq_false, not_false_eq_true] <;> omega)), (by simp only [fe_516, fe_517, fe_518, fe_519, true_and, and_true, or_true, true_or, false_or, or_false, false_and, and_false, not_true_eq_false, not_false_eq_true] <;> first | omega | (simp only [Int32.lt_iff_toInt_lt, Int32.le_iff_toInt_le, Int32.reduceToInt, ← Int32.toInt_inj, true_and, and_true, or_true, true_or, false_or, or_false, false_and, and_false, not_true_eq_false, not_false_eq_true] <;> omega)), (by simp only [fe_520, true_and, and_true, or_true, true_or, false_or, or_false, false_and, and_false, not_true_eq_false, not_false_eq_true] <;> first | omega | (simp only [Int32.lt_iff_toInt_lt, Int32.le_iff_toInt_le, Int32.reduceToInt, ← Int32.toInt_inj, true_and, and_true, or_true, true_or, false_or, or_false, false_and, and_false, not_true_eq_false, not_false_eq_true] <;> omega)), (by simp only [fe_521, mz_44, true_and, and_true, or_true, true_or, false_or, or_false, false_and, and_false, not_true_eq_false, not_false_eq_true] <;> first | omega | (simp only [Int32.lt_iff_toInt_lt, Int32.le_iff_toInt_le, Int32.reduceToInt, ← Int32.toInt_inj, true_and, and_true, or_true, true_or, false_or, or_false, false_and, and_false, not_true_eq_false, not_false_eq_true] <;> omega)), (by simp only [fe_522, fe_523, fe_524, fe_525, mz_41, mz_42, mz_43, true_and, and_true, or_true, true_or, false_or, or_false, false_and, and_false, not_true_eq_false, not_false_eq_true] <;> first | omega | (simp only [Int32.lt_iff_toInt_lt, Int32.le_iff_toInt_le, Int32.reduceToInt, ← Int32.toInt_inj, true_and, and_true, or_true, true_or, false_or, or_false, false_and, and_false, not_true_eq_false, not_false_eq_true] <;> omega))⟩
        · simp only [Int32.lt_iff_toInt_lt, Int32.le_iff_toInt_le, Int32.reduceToInt, ← Int32.toInt_inj] at h_450
          refine v_aload_n hC dX12_number_42 rfl ?_
          refine v_iconst hC dX12_number_43 (v := 2) (by decide) ?_
          refine v_vv hC (rest := []) m_1 e_22 rfl mi_X12_errs ms_X12_errs (p_X12_errs hW k_0 (by decide)) mx_X12_errs ml_X12_162 (by decide) rfl (cells1 := 0) (slots1 := 0) (by decide) (by decide) (Nat.le_of_ble_eq_true rfl) (Nat.le_of_ble_eq_true rfl) rfl (Nat.le_of_ble_eq_true rfl) dX12_number_44 (fun L_527 f_528 h_529 => ?_)
          obtain ⟨rfl, hW_535, hF_536, x_530, x_531, x_532, x_533, x_534⟩ := h_529
          have fe_537 : fld (f a_0) 8 = (v_28 : Int32).toInt := by rw [e_22]; rfl
          have fe_538 : fld (f a_0) 9 = (v_30 : Int32).toInt := by rw [e_22]; rfl
          have fe_539 : fld (f a_0) 10 = (v_32 : Int32).toInt := by rw [e_22]; rfl
          have fe_540 : fld (f a_0) 20 = (v_39 : Int32).toInt := by rw [e_22]; rfl
          obtain ⟨v_542, v_543, v_545, v_547, v_549, v_551, v_553, v_554, v_555, v_556, v_558, e_541, b_544, b_546, b_548, b_550, b_552, b_557, b_559⟩ := hW_535.at m_1 t_2
          have fe_560 : fld (f_528 a_0) 8 = (v_547 : Int32).toInt := by rw [e_541]; rfl
          have fe_561 : fld (f_528 a_0) 9 = (v_549 : Int32).toInt := by rw [e_541]; rfl
          have fe_562 : fld (f_528 a_0) 10 = (v_551 : Int32).toInt := by rw [e_541]; rfl
          have fe_563 : fld (f_528 a_0) 12 = (v_554 : Int32).toInt := by rw [e_541]; rfl
          have fe_564 : fld (f_528 a_0) 20 = (v_558 : Int32).toInt := by rw [e_541]; rfl
          rw [fe_563] at x_530
          rw [fe_560, fe_537] at x_531
          rw [fe_561, fe_538] at x_532
          rw [fe_562, fe_539] at x_533
          rw [fe_564, fe_540] at x_534
          clear fe_537 fe_538 fe_539 fe_540 fe_560 fe_561 fe_562 fe_563 fe_564
          refine v_aload_n hC dX12_number_47 rfl ?_
          refine v_vi hC (rest := []) m_1 e_541 rfl mi_X12_good ms_X12_good (p_X12_good hW_535 k_0) mx_X12_good ml_X12_139 (by decide) rfl (cells1 := 0) (slots1 := 0) (by decide) (by decide) (Nat.le_of_ble_eq_true rfl) (Nat.le_of_ble_eq_true rfl) rfl (Nat.le_of_ble_eq_true rfl) dX12_number_48 (fun r_565 L_566 f_567 h_568 => ?_)
          obtain ⟨rfl, rfl, b_569, x_570⟩ := h_568
          have fe_573 : fld (f_528 a_0) 12 = (v_554 : Int32).toInt := by rw [e_541]; rfl
          rw [fe_573] at x_570
          clear fe_573
          try simp only [Int32.reduceToInt, Int64.reduceToInt] at x_570
          refine v_if_ne hC dX12_number_51 (tgt := 56) (by decide) (fun h_574 => ?_) (fun h_574 => ?_)
          · simp only [Int32.lt_iff_toInt_lt, Int32.le_iff_toInt_le, Int32.reduceToInt, ← Int32.toInt_inj] at h_574
            refine v_aload_n hC dX12_number_56 rfl ?_
            refine v_get hC fl_X12_131 m_1 e_541 rfl dX12_number_57 ?_
            refine v_istore_n hC dX12_number_60 (by decide) (lv' := [(3, .int v_553), (0, .ref a_0), (1, .int a_1), (2, .int a_2)]) rfl ?_
            refine v_aload_n hC dX12_number_61 rfl ?_
            refine v_vv hC (rest := []) m_1 e_541 rfl mi_X12_advance ms_X12_advance (p_X12_advance hW_535 k_0) mx_X12_advance ml_X12_156 (by decide) rfl (cells1 := 0) (slots1 := 0) (by decide) (by decide) (Nat.le_of_ble_eq_true rfl) (Nat.le_of_ble_eq_true rfl) rfl (Nat.le_of_ble_eq_true rfl) dX12_number_62 (fun L_576 f_577 h_578 => ?_)
            obtain ⟨rfl, hW_583, hF_584, x_579, x_580, x_581, x_582⟩ := h_578
            have fe_585 : fld (f_528 a_0) 8 = (v_547 : Int32).toInt := by rw [e_541]; rfl
            have fe_586 : fld (f_528 a_0) 12 = (v_554 : Int32).toInt := by rw [e_541]; rfl
            have fe_587 : fld (f_528 a_0) 20 = (v_558 : Int32).toInt := by rw [e_541]; rfl
            obtain ⟨v_589, v_590, v_592, v_594, v_596, v_598, v_600, v_601, v_602, v_603, v_605, e_588, b_591, b_593, b_595, b_597, b_599, b_604, b_606⟩ := hW_583.at m_1 t_2
            have fe_607 : fld (f_577 a_0) 8 = (v_594 : Int32).toInt := by rw [e_588]; rfl
            have fe_608 : fld (f_577 a_0) 9 = (v_596 : Int32).toInt := by rw [e_588]; rfl
            have fe_609 : fld (f_577 a_0) 10 = (v_598 : Int32).toInt := by rw [e_588]; rfl
            have fe_610 : fld (f_577 a_0) 12 = (v_601 : Int32).toInt := by rw [e_588]; rfl
            have fe_611 : fld (f_577 a_0) 20 = (v_605 : Int32).toInt := by rw [e_588]; rfl
            rw [fe_585, fe_608, fe_607] at x_579
            rw [fe_609, fe_608, fe_607] at x_580
            rw [fe_610, fe_586] at x_581
            rw [fe_611, fe_587] at x_582
            clear fe_585 fe_586 fe_587 fe_607 fe_608 fe_609 fe_610 fe_611
            refine v_iload_n hC dX12_number_65 rfl ?_
            have fe_612 : fld (f_577 a_0) 12 = (v_601 : Int32).toInt := by rw [e_588]; rfl
            have fe_613 : fld (f_577 a_0) 8 = (v_594 : Int32).toInt := by rw [e_588]; rfl
            have fe_614 : fld (f_577 a_0) 9 = (v_596 : Int32).toInt := by rw [e_588]; rfl
            have fe_615 : fld (f_577 a_0) 12 = (v_601 : Int32).toInt := by rw [e_588]; rfl
            have fe_616 : fld (f_577 a_0) 8 = (v_594 : Int32).toInt := by rw [e_588]; rfl
            have fe_617 : fld (f_577 a_0) 9 = (v_596 : Int32).toInt := by rw [e_588]; rfl
            have fe_618 : fld (f_577 a_0) 10 = (v_598 : Int32).toInt := by rw [e_588]; rfl
            have fe_619 : fld (f_577 a_0) 12 = (v_601 : Int32).toInt := by rw [e_588]; rfl
            have fe_620 : fld (f_577 a_0) 12 = (v_601 : Int32).toInt := by rw [e_588]; rfl
            have fe_621 : fld (f_577 a_0) 20 = (v_605 : Int32).toInt := by rw [e_588]; rfl
            have fe_622 : fld (f_577 a_0) 8 = (v_594 : Int32).toInt := by rw [e_588]; rfl
            have fe_623 : fld (f_577 a_0) 9 = (v_596 : Int32).toInt := by rw [e_588]; rfl
            have fe_624 : fld (f_577 a_0) 10 = (v_598 : Int32).toInt := by rw [e_588]; rfl
            have fe_625 : fld (f_577 a_0) 12 = (v_601 : Int32).toInt := by rw [e_588]; rfl
            exact hR _ _ _ _ _ _ _ dX12_number_66 rfl (Nat.le_of_ble_eq_true rfl) (Nat.le_of_ble_eq_true rfl) ⟨rfl, hW_583, ((hF_536.tr hF_584).mono rfl), (by simp only [fe_612, mz_43, true_and, and_true, or_true, true_or, false_or, or_false, false_and, and_false, not_true_eq_false, not_false_eq_true] <;> first | omega | (simp only [Int32.lt_iff_toInt_lt, Int32.le_iff_toInt_le, Int32.reduceToInt, ← Int32.toInt_inj, true_and, and_true, or_true, true_or, false_or, or_false, false_and, and_false, not_true_eq_false, not_false_eq_true] <;> omega)), (by simp only [fe_613, fe_614, fe_615, mz_41, mz_42, true_and, and_true, or_true, true_or, false_or, or_false, false_and, and_false, not_true_eq_false, not_false_eq_true] <;> first | omega | (simp only [Int32.lt_iff_toInt_lt, Int32.le_iff_toInt_le, Int32.reduceToInt, ← Int32.toInt_inj, true_and, and_true, or_true, true_or, false_or, or_false, false_and, and_false, not_true_eq_false, not_false_eq_true] <;> omega)), (by simp only [fe_616, fe_617, fe_618, fe_619, true_and, and_true, or_true, true_or, false_or, or_false, false_and, and_false, not_true_eq_false, not_false_eq_true] <;> first | omega | (simp only [Int32.lt_iff_toInt_lt, Int32.le_iff_toInt_le, Int32.reduceToInt, ← Int32.toInt_inj, true_and, and_true, or_true, true_or, false_or, or_false, false_and, and_false, not_true_eq_false, not_false_eq_true] <;> omega)), (by simp only [fe_620, true_and, and_true, or_true, true_or, false_or, or_false, false_and, and_false, not_true_eq_false, not_false_eq_true] <;> first | omega | (simp only [Int32.lt_iff_toInt_lt, Int32.le_iff_toInt_le, Int32.reduceToInt, ← Int32.toInt_inj, true_and, and_true, or_true, true_or, false_or, or_false, false_and, and_false, not_true_eq_false, not_false_eq_true] <;> omega)), (by simp only [fe_621, mz_44, true_and, and_true, or_true, true_or, false_or, or_false, false_and, and_false, not_true_eq_false, not_false_eq_true] <;> first | omega | (simp only [Int32.lt_iff_toInt_lt, Int32.le_iff_toInt_le, Int32.reduceToInt, ← Int32.toInt_inj, true_and, and_true, or_true, true_or, false_or, or_false, false_and, and_false, not_true_eq_false, not_false_eq_true] <;> omega)), (by simp only [fe_622, fe_623, fe_624, fe_625, mz_41, mz_42, mz_43, true_and, and_true, or_true, true_or, false_or, or_false, false_and, and_false, not_true_eq_false, not_false_eq_true] <;> first | omega | (simp only [Int32.lt_iff_toInt_lt, Int32.le_iff_toInt_le, Int32.reduceToInt, ← Int32.toInt_inj, true_and, and_true, or_true, true_or, false_or, or_false, false_and, and_false, not_true_eq_false, not_false_eq_true] <;> omega))⟩
          · simp only [Int32.lt_iff_toInt_lt, Int32.le_iff_toInt_le, Int32.reduceToInt, ← Int32.toInt_inj] at h_574
            refine v_iconst hC dX12_number_54 (v := 0) (by decide) ?_
            have fe_626 : fld (f_528 a_0) 12 = (v_554 : Int32).toInt := by rw [e_541]; rfl
            have fe_627 : fld (f_528 a_0) 8 = (v_547 : Int32).toInt := by rw [e_541]; rfl
            have fe_628 : fld (f_528 a_0) 9 = (v_549 : Int32).toInt := by rw [e_541]; rfl
            have fe_629 : fld (f_528 a_0) 12 = (v_554 : Int32).toInt := by rw [e_541]; rfl
            have fe_630 : fld (f_528 a_0) 8 = (v_547 : Int32).toInt := by rw [e_541]; rfl
            have fe_631 : fld (f_528 a_0) 9 = (v_549 : Int32).toInt := by rw [e_541]; rfl
            have fe_632 : fld (f_528 a_0) 10 = (v_551 : Int32).toInt := by rw [e_541]; rfl
            have fe_633 : fld (f_528 a_0) 12 = (v_554 : Int32).toInt := by rw [e_541]; rfl
            have fe_634 : fld (f_528 a_0) 12 = (v_554 : Int32).toInt := by rw [e_541]; rfl
            have fe_635 : fld (f_528 a_0) 20 = (v_558 : Int32).toInt := by rw [e_541]; rfl
            have fe_636 : fld (f_528 a_0) 8 = (v_547 : Int32).toInt := by rw [e_541]; rfl
            have fe_637 : fld (f_528 a_0) 9 = (v_549 : Int32).toInt := by rw [e_541]; rfl
            have fe_638 : fld (f_528 a_0) 10 = (v_551 : Int32).toInt := by rw [e_541]; rfl
            have fe_639 : fld (f_528 a_0) 12 = (v_554 : Int32).toInt := by rw [e_541]; rfl
            exact hR _ _ _ _ _ _ _ dX12_number_55 rfl (Nat.le_of_ble_eq_true rfl) (Nat.le_of_ble_eq_true rfl) ⟨rfl, hW_535, (hF_536.mono rfl), (by simp only [fe_626, mz_43, true_and, and_true, or_true, true_or, false_or, or_false, false_and, and_false, not_true_eq_false, not_false_eq_true] <;> first | omega | (simp only [Int32.lt_iff_toInt_lt, Int32.le_iff_toInt_le, Int32.reduceToInt, ← Int32.toInt_inj, true_and, and_true, or_true, true_or, false_or, or_false, false_and, and_false, not_true_eq_false, not_false_eq_true] <;> omega)), (by simp only [fe_627, fe_628, fe_629, mz_41, mz_42, true_and, and_true, or_true, true_or, false_or, or_false, false_and, and_false, not_true_eq_false, not_false_eq_true] <;> first | omega | (simp only [Int32.lt_iff_toInt_lt, Int32.le_iff_toInt_le, Int32.reduceToInt, ← Int32.toInt_inj, true_and, and_true, or_true, true_or, false_or, or_false, false_and, and_false, not_true_eq_false, not_false_eq_true] <;> omega)), (by simp only [fe_630, fe_631, fe_632, fe_633, true_and, and_true, or_true, true_or, false_or, or_false, false_and, and_false, not_true_eq_false, not_false_eq_true] <;> first | omega | (simp only [Int32.lt_iff_toInt_lt, Int32.le_iff_toInt_le, Int32.reduceToInt, ← Int32.toInt_inj, true_and, and_true, or_true, true_or, false_or, or_false, false_and, and_false, not_true_eq_false, not_false_eq_true] <;> omega)), (by simp only [fe_634, true_and, and_true, or_true, true_or, false_or, or_false, false_and, and_false, not_true_eq_false, not_false_eq_true] <;> first | omega | (simp only [Int32.lt_iff_toInt_lt, Int32.le_iff_toInt_le, Int32.reduceToInt, ← Int32.toInt_inj, true_and, and_true, or_true, true_or, false_or, or_false, false_and, and_false, not_true_eq_false, not_false_eq_true] <;> omega)), (by simp only [fe_635, mz_44, true_and, and_true, or_true, true_or, false_or, or_false, false_and, and_false, not_true_eq_false, not_false_eq_true] <;> first | omega | (simp only [Int32.lt_iff_toInt_lt, Int32.le_iff_toInt_le, Int32.reduceToInt, ← Int32.toInt_inj, true_and, and_true, or_true, true_or, false_or, or_false, false_and, and_false, not_true_eq_false, not_false_eq_true] <;> omega)), (by simp only [fe_636, fe_637, fe_638, fe_639, mz_41, mz_42, mz_43, true_and, and_true, or_true, true_or, false_or, or_false, false_and, and_false, not_true_eq_false, not_false_eq_true] <;> first | omega | (simp only [Int32.lt_iff_toInt_lt, Int32.le_iff_toInt_le, Int32.reduceToInt, ← Int32.toInt_inj, true_and, and_true, or_true, true_or, false_or, or_false, false_and, and_false, not_true_eq_false, not_false_eq_true] <;> omega))⟩
    · simp only [Int32.lt_iff_toInt_lt, Int32.le_iff_toInt_le, Int32.reduceToInt, ← Int32.toInt_inj] at h_347
      refine v_aload_n hC dX12_number_15 rfl ?_
      refine v_iconst hC dX12_number_16 (v := 1) (by decide) ?_
      refine v_vv hC (rest := []) m_1 e_22 rfl mi_X12_errs ms_X12_errs (p_X12_errs hW k_0 (by decide)) mx_X12_errs ml_X12_162 (by decide) rfl (cells1 := 0) (slots1 := 0) (by decide) (by decide) (Nat.le_of_ble_eq_true rfl) (Nat.le_of_ble_eq_true rfl) rfl (Nat.le_of_ble_eq_true rfl) dX12_number_17 (fun L_641 f_642 h_643 => ?_)
      obtain ⟨rfl, hW_649, hF_650, x_644, x_645, x_646, x_647, x_648⟩ := h_643
      have fe_651 : fld (f a_0) 8 = (v_28 : Int32).toInt := by rw [e_22]; rfl
      have fe_652 : fld (f a_0) 9 = (v_30 : Int32).toInt := by rw [e_22]; rfl
      have fe_653 : fld (f a_0) 10 = (v_32 : Int32).toInt := by rw [e_22]; rfl
      have fe_654 : fld (f a_0) 20 = (v_39 : Int32).toInt := by rw [e_22]; rfl
      obtain ⟨v_656, v_657, v_659, v_661, v_663, v_665, v_667, v_668, v_669, v_670, v_672, e_655, b_658, b_660, b_662, b_664, b_666, b_671, b_673⟩ := hW_649.at m_1 t_2
      have fe_674 : fld (f_642 a_0) 8 = (v_661 : Int32).toInt := by rw [e_655]; rfl
      have fe_675 : fld (f_642 a_0) 9 = (v_663 : Int32).toInt := by rw [e_655]; rfl
      have fe_676 : fld (f_642 a_0) 10 = (v_665 : Int32).toInt := by rw [e_655]; rfl
      have fe_677 : fld (f_642 a_0) 12 = (v_668 : Int32).toInt := by rw [e_655]; rfl
      have fe_678 : fld (f_642 a_0) 20 = (v_672 : Int32).toInt := by rw [e_655]; rfl
      rw [fe_677] at x_644
      rw [fe_674, fe_651] at x_645
      rw [fe_675, fe_652] at x_646
      rw [fe_676, fe_653] at x_647
      rw [fe_678, fe_654] at x_648
      clear fe_651 fe_652 fe_653 fe_654 fe_674 fe_675 fe_676 fe_677 fe_678
      refine v_aload_n hC dX12_number_20 rfl ?_
      refine v_vi hC (rest := []) m_1 e_655 rfl mi_X12_good ms_X12_good (p_X12_good hW_649 k_0) mx_X12_good ml_X12_139 (by decide) rfl (cells1 := 0) (slots1 := 0) (by decide) (by decide) (Nat.le_of_ble_eq_true rfl) (Nat.le_of_ble_eq_true rfl) rfl (Nat.le_of_ble_eq_true rfl) dX12_number_21 (fun r_679 L_680 f_681 h_682 => ?_)
      obtain ⟨rfl, rfl, b_683, x_684⟩ := h_682
      have fe_687 : fld (f_642 a_0) 12 = (v_668 : Int32).toInt := by rw [e_655]; rfl
      rw [fe_687] at x_684
      clear fe_687
      try simp only [Int32.reduceToInt, Int64.reduceToInt] at x_684
      refine v_if_eq hC dX12_number_24 (tgt := 47) (by decide) (fun h_688 => ?_) (fun h_688 => ?_)
      · simp only [Int32.lt_iff_toInt_lt, Int32.le_iff_toInt_le, Int32.reduceToInt, ← Int32.toInt_inj] at h_688
        refine v_aload_n hC dX12_number_47 rfl ?_
        refine v_vi hC (rest := []) m_1 e_655 rfl mi_X12_good ms_X12_good (p_X12_good hW_649 k_0) mx_X12_good ml_X12_139 (by decide) rfl (cells1 := 0) (slots1 := 0) (by decide) (by decide) (Nat.le_of_ble_eq_true rfl) (Nat.le_of_ble_eq_true rfl) rfl (Nat.le_of_ble_eq_true rfl) dX12_number_48 (fun r_689 L_690 f_691 h_692 => ?_)
        obtain ⟨rfl, rfl, b_693, x_694⟩ := h_692
        have fe_697 : fld (f_642 a_0) 12 = (v_668 : Int32).toInt := by rw [e_655]; rfl
        rw [fe_697] at x_694
        clear fe_697
        try simp only [Int32.reduceToInt, Int64.reduceToInt] at x_694
        refine v_if_ne hC dX12_number_51 (tgt := 56) (by decide) (fun h_698 => ?_) (fun h_698 => ?_)
        · simp only [Int32.lt_iff_toInt_lt, Int32.le_iff_toInt_le, Int32.reduceToInt, ← Int32.toInt_inj] at h_698
          refine v_aload_n hC dX12_number_56 rfl ?_
          refine v_get hC fl_X12_131 m_1 e_655 rfl dX12_number_57 ?_
          refine v_istore_n hC dX12_number_60 (by decide) (lv' := [(3, .int v_667), (0, .ref a_0), (1, .int a_1), (2, .int a_2)]) rfl ?_
          refine v_aload_n hC dX12_number_61 rfl ?_
          refine v_vv hC (rest := []) m_1 e_655 rfl mi_X12_advance ms_X12_advance (p_X12_advance hW_649 k_0) mx_X12_advance ml_X12_156 (by decide) rfl (cells1 := 0) (slots1 := 0) (by decide) (by decide) (Nat.le_of_ble_eq_true rfl) (Nat.le_of_ble_eq_true rfl) rfl (Nat.le_of_ble_eq_true rfl) dX12_number_62 (fun L_700 f_701 h_702 => ?_)
          obtain ⟨rfl, hW_707, hF_708, x_703, x_704, x_705, x_706⟩ := h_702
          have fe_709 : fld (f_642 a_0) 8 = (v_661 : Int32).toInt := by rw [e_655]; rfl
          have fe_710 : fld (f_642 a_0) 12 = (v_668 : Int32).toInt := by rw [e_655]; rfl
          have fe_711 : fld (f_642 a_0) 20 = (v_672 : Int32).toInt := by rw [e_655]; rfl
          obtain ⟨v_713, v_714, v_716, v_718, v_720, v_722, v_724, v_725, v_726, v_727, v_729, e_712, b_715, b_717, b_719, b_721, b_723, b_728, b_730⟩ := hW_707.at m_1 t_2
          have fe_731 : fld (f_701 a_0) 8 = (v_718 : Int32).toInt := by rw [e_712]; rfl
          have fe_732 : fld (f_701 a_0) 9 = (v_720 : Int32).toInt := by rw [e_712]; rfl
          have fe_733 : fld (f_701 a_0) 10 = (v_722 : Int32).toInt := by rw [e_712]; rfl
          have fe_734 : fld (f_701 a_0) 12 = (v_725 : Int32).toInt := by rw [e_712]; rfl
          have fe_735 : fld (f_701 a_0) 20 = (v_729 : Int32).toInt := by rw [e_712]; rfl
          rw [fe_709, fe_732, fe_731] at x_703
          rw [fe_733, fe_732, fe_731] at x_704
          rw [fe_734, fe_710] at x_705
          rw [fe_735, fe_711] at x_706
          clear fe_709 fe_710 fe_711 fe_731 fe_732 fe_733 fe_734 fe_735
          refine v_iload_n hC dX12_number_65 rfl ?_
          have fe_736 : fld (f_701 a_0) 12 = (v_725 : Int32).toInt := by rw [e_712]; rfl
          have fe_737 : fld (f_701 a_0) 8 = (v_718 : Int32).toInt := by rw [e_712]; rfl
          have fe_738 : fld (f_701 a_0) 9 = (v_720 : Int32).toInt := by rw [e_712]; rfl
          have fe_739 : fld (f_701 a_0) 12 = (v_725 : Int32).toInt := by rw [e_712]; rfl
          have fe_740 : fld (f_701 a_0) 8 = (v_718 : Int32).toInt := by rw [e_712]; rfl
          have fe_741 : fld (f_701 a_0) 9 = (v_720 : Int32).toInt := by rw [e_712]; rfl
          have fe_742 : fld (f_701 a_0) 10 = (v_722 : Int32).toInt := by rw [e_712]; rfl
          have fe_743 : fld (f_701 a_0) 12 = (v_725 : Int32).toInt := by rw [e_712]; rfl
          have fe_744 : fld (f_701 a_0) 12 = (v_725 : Int32).toInt := by rw [e_712]; rfl
          have fe_745 : fld (f_701 a_0) 20 = (v_729 : Int32).toInt := by rw [e_712]; rfl
          have fe_746 : fld (f_701 a_0) 8 = (v_718 : Int32).toInt := by rw [e_712]; rfl
          have fe_747 : fld (f_701 a_0) 9 = (v_720 : Int32).toInt := by rw [e_712]; rfl
          have fe_748 : fld (f_701 a_0) 10 = (v_722 : Int32).toInt := by rw [e_712]; rfl
          have fe_749 : fld (f_701 a_0) 12 = (v_725 : Int32).toInt := by rw [e_712]; rfl
          exact hR _ _ _ _ _ _ _ dX12_number_66 rfl (Nat.le_of_ble_eq_true rfl) (Nat.le_of_ble_eq_true rfl) ⟨rfl, hW_707, ((hF_650.tr hF_708).mono rfl), (by simp only [fe_736, mz_43, true_and, and_true, or_true, true_or, false_or, or_false, false_and, and_false, not_true_eq_false, not_false_eq_true] <;> first | omega | (simp only [Int32.lt_iff_toInt_lt, Int32.le_iff_toInt_le, Int32.reduceToInt, ← Int32.toInt_inj, true_and, and_true, or_true, true_or, false_or, or_false, false_and, and_false, not_true_eq_false, not_false_eq_true] <;> omega)), (by simp only [fe_737, fe_738, fe_739, mz_41, mz_42, true_and, and_true, or_true, true_or, false_or, or_false, false_and, and_false, not_true_eq_false, not_false_eq_true] <;> first | omega | (simp only [Int32.lt_iff_toInt_lt, Int32.le_iff_toInt_le, Int32.reduceToInt, ← Int32.toInt_inj, true_and, and_true, or_true, true_or, false_or, or_false, false_and, and_false, not_true_eq_false, not_false_eq_true] <;> omega)), (by simp only [fe_740, fe_741, fe_742, fe_743, true_and, and_true, or_true, true_or, false_or, or_false, false_and, and_false, not_true_eq_false, not_false_eq_true] <;> first | omega | (simp only [Int32.lt_iff_toInt_lt, Int32.le_iff_toInt_le, Int32.reduceToInt, ← Int32.toInt_inj, true_and, and_true, or_true, true_or, false_or, or_false, false_and, and_false, not_true_eq_false, not_false_eq_true] <;> omega)), (by simp only [fe_744, true_and, and_true, or_true, true_or, false_or, or_false, false_and, and_false, not_true_eq_false, not_false_eq_true] <;> first | omega | (simp only [Int32.lt_iff_toInt_lt, Int32.le_iff_toInt_le, Int32.reduceToInt, ← Int32.toInt_inj, true_and, and_true, or_true, true_or, false_or, or_false, false_and, and_false, not_true_eq_false, not_false_eq_true] <;> omega)), (by simp only [fe_745, mz_44, true_and, and_true, or_true, true_or, false_or, or_false, false_and, and_false, not_true_eq_false, not_false_eq_true] <;> first | omega | (simp only [Int32.lt_iff_toInt_lt, Int32.le_iff_toInt_le, Int32.reduceToInt, ← Int32.toInt_inj, true_and, and_true, or_true, true_or, false_or, or_false, false_and, and_false, not_true_eq_false, not_false_eq_true] <;> omega)), (by simp only [fe_746, fe_747, fe_748, fe_749, mz_41, mz_42, mz_43, true_and, and_true, or_true, true_or, false_or, or_false, false_and, and_false, not_true_eq_false, not_false_eq_true] <;> first | omega | (simp only [Int32.lt_iff_toInt_lt, Int32.le_iff_toInt_le, Int32.reduceToInt, ← Int32.toInt_inj, true_and, and_true, or_true, true_or, false_or, or_false, false_and, and_false, not_true_eq_false, not_false_eq_true] <;> omega))⟩
        · simp only [Int32.lt_iff_toInt_lt, Int32.le_iff_toInt_le, Int32.reduceToInt, ← Int32.toInt_inj] at h_698
          refine v_iconst hC dX12_number_54 (v := 0) (by decide) ?_
          have fe_750 : fld (f_642 a_0) 12 = (v_668 : Int32).toInt := by rw [e_655]; rfl
          have fe_751 : fld (f_642 a_0) 8 = (v_661 : Int32).toInt := by rw [e_655]; rfl
          have fe_752 : fld (f_642 a_0) 9 = (v_663 : Int32).toInt := by rw [e_655]; rfl
          have fe_753 : fld (f_642 a_0) 12 = (v_668 : Int32).toInt := by rw [e_655]; rfl
          have fe_754 : fld (f_642 a_0) 8 = (v_661 : Int32).toInt := by rw [e_655]; rfl
          have fe_755 : fld (f_642 a_0) 9 = (v_663 : Int32).toInt := by rw [e_655]; rfl
          have fe_756 : fld (f_642 a_0) 10 = (v_665 : Int32).toInt := by rw [e_655]; rfl
          have fe_757 : fld (f_642 a_0) 12 = (v_668 : Int32).toInt := by rw [e_655]; rfl
          have fe_758 : fld (f_642 a_0) 12 = (v_668 : Int32).toInt := by rw [e_655]; rfl
          have fe_759 : fld (f_642 a_0) 20 = (v_672 : Int32).toInt := by rw [e_655]; rfl
          have fe_760 : fld (f_642 a_0) 8 = (v_661 : Int32).toInt := by rw [e_655]; rfl
          have fe_761 : fld (f_642 a_0) 9 = (v_663 : Int32).toInt := by rw [e_655]; rfl
          have fe_762 : fld (f_642 a_0) 10 = (v_665 : Int32).toInt := by rw [e_655]; rfl
          have fe_763 : fld (f_642 a_0) 12 = (v_668 : Int32).toInt := by rw [e_655]; rfl
          exact hR _ _ _ _ _ _ _ dX12_number_55 rfl (Nat.le_of_ble_eq_true rfl) (Nat.le_of_ble_eq_true rfl) ⟨rfl, hW_649, (hF_650.mono rfl), (by simp only [fe_750, mz_43, true_and, and_true, or_true, true_or, false_or, or_false, false_and, and_false, not_true_eq_false, not_false_eq_true] <;> first | omega | (simp only [Int32.lt_iff_toInt_lt, Int32.le_iff_toInt_le, Int32.reduceToInt, ← Int32.toInt_inj, true_and, and_true, or_true, true_or, false_or, or_false, false_and, and_false, not_true_eq_false, not_false_eq_true] <;> omega)), (by simp only [fe_751, fe_752, fe_753, mz_41, mz_42, true_and, and_true, or_true, true_or, false_or, or_false, false_and, and_false, not_true_eq_false, not_false_eq_true] <;> first | omega | (simp only [Int32.lt_iff_toInt_lt, Int32.le_iff_toInt_le, Int32.reduceToInt, ← Int32.toInt_inj, true_and, and_true, or_true, true_or, false_or, or_false, false_and, and_false, not_true_eq_false, not_false_eq_true] <;> omega)), (by simp only [fe_754, fe_755, fe_756, fe_757, true_and, and_true, or_true, true_or, false_or, or_false, false_and, and_false, not_true_eq_false, not_false_eq_true] <;> first | omega | (simp only [Int32.lt_iff_toInt_lt, Int32.le_iff_toInt_le, Int32.reduceToInt, ← Int32.toInt_inj, true_and, and_true, or_true, true_or, false_or, or_false, false_and, and_false, not_true_eq_false, not_false_eq_true] <;> omega)), (by simp only [fe_758, true_and, and_true, or_true, true_or, false_or, or_false, false_and, and_false, not_true_eq_false, not_false_eq_true] <;> first | omega | (simp only [Int32.lt_iff_toInt_lt, Int32.le_iff_toInt_le, Int32.reduceToInt, ← Int32.toInt_inj, true_and, and_true, or_true, true_or, false_or, or_false, false_and, and_false, not_true_eq_false, not_false_eq_true] <;> omega)), (by simp only [fe_759, mz_44, true_and, and_true, or_true, true_or, false_or, or_false, false_and, and_false, not_true_eq_false, not_false_eq_true] <;> first | omega | (simp only [Int32.lt_iff_toInt_lt, Int32.le_iff_toInt_le, Int32.reduceToInt, ← Int32.toInt_inj, true_and, and_true, or_true, true_or, false_or, or_false, false_and, and_false, not_true_eq_false, not_false_eq_true] <;> omega)), (by simp only [fe_760, fe_761, fe_762, fe_763, mz_41, mz_42, mz_43, true_and, and_true, or_true, true_or, false_or, or_false, false_and, and_false, not_true_eq_false, not_false_eq_true] <;> first | omega | (simp only [Int32.lt_iff_toInt_lt, Int32.le_iff_toInt_le, Int32.reduceToInt, ← Int32.toInt_inj, true_and, and_true, or_true, true_or, false_or, or_false, false_and, and_false, not_true_eq_false, not_false_eq_true] <;> omega))⟩
      · simp only [Int32.lt_iff_toInt_lt, Int32.le_iff_toInt_le, Int32.reduceToInt, ← Int32.toInt_inj] at h_688
        refine v_aload_n hC dX12_number_27 rfl ?_
        refine v_get hC fl_X12_131 m_1 e_655 rfl dX12_number_28 ?_
        obtain ⟨v_764, h_765⟩ : ∃ v9 : Int64, v_667.toInt64 = v9 := ⟨_, rfl⟩
        refine v_i2l hC dX12_number_31 h_765 ?_
        have h_766 : v_764.toInt = v_667.toInt := by rw [← h_765]; exact Int32.toInt_toInt64 _
        refine v_iload_n hC dX12_number_32 rfl ?_
        obtain ⟨v_767, h_768⟩ : ∃ v9 : Int64, a_1.toInt64 = v9 := ⟨_, rfl⟩
        refine v_i2l hC dX12_number_33 h_768 ?_
        have h_769 : v_767.toInt = a_1.toInt := by rw [← h_768]; exact Int32.toInt_toInt64 _
        refine v_iload_n hC dX12_number_34 rfl ?_
        obtain ⟨v_770, h_771⟩ : ∃ v9 : Int64, a_2.toInt64 = v9 := ⟨_, rfl⟩
        refine v_i2l hC dX12_number_35 h_771 ?_
        have h_772 : v_770.toInt = a_2.toInt := by rw [← h_771]; exact Int32.toInt_toInt64 _
        refine v_si hC (rest := []) mt_X12_in (p_X12_in hW_649) mx_X12_in ml_X12_79 (by decide) rfl (cells1 := 0) (slots1 := 0) (by decide) (by decide) (Nat.le_of_ble_eq_true rfl) (Nat.le_of_ble_eq_true rfl) rfl (Nat.le_of_ble_eq_true rfl) dX12_number_36 (fun r_773 L_774 f_775 h_776 => ?_)
        obtain ⟨rfl, rfl, b_777, x_778⟩ := h_776
        try simp only [Int32.reduceToInt, Int64.reduceToInt] at x_778
        refine v_if_ne hC dX12_number_39 (tgt := 47) (by decide) (fun h_781 => ?_) (fun h_781 => ?_)
        · simp only [Int32.lt_iff_toInt_lt, Int32.le_iff_toInt_le, Int32.reduceToInt, ← Int32.toInt_inj] at h_781
          refine v_aload_n hC dX12_number_47 rfl ?_
          refine v_vi hC (rest := []) m_1 e_655 rfl mi_X12_good ms_X12_good (p_X12_good hW_649 k_0) mx_X12_good ml_X12_139 (by decide) rfl (cells1 := 0) (slots1 := 0) (by decide) (by decide) (Nat.le_of_ble_eq_true rfl) (Nat.le_of_ble_eq_true rfl) rfl (Nat.le_of_ble_eq_true rfl) dX12_number_48 (fun r_782 L_783 f_784 h_785 => ?_)
          obtain ⟨rfl, rfl, b_786, x_787⟩ := h_785
          have fe_790 : fld (f_642 a_0) 12 = (v_668 : Int32).toInt := by rw [e_655]; rfl
          rw [fe_790] at x_787
          clear fe_790
          try simp only [Int32.reduceToInt, Int64.reduceToInt] at x_787
          refine v_if_ne hC dX12_number_51 (tgt := 56) (by decide) (fun h_791 => ?_) (fun h_791 => ?_)
          · simp only [Int32.lt_iff_toInt_lt, Int32.le_iff_toInt_le, Int32.reduceToInt, ← Int32.toInt_inj] at h_791
            refine v_aload_n hC dX12_number_56 rfl ?_
            refine v_get hC fl_X12_131 m_1 e_655 rfl dX12_number_57 ?_
            refine v_istore_n hC dX12_number_60 (by decide) (lv' := [(3, .int v_667), (0, .ref a_0), (1, .int a_1), (2, .int a_2)]) rfl ?_
            refine v_aload_n hC dX12_number_61 rfl ?_
            refine v_vv hC (rest := []) m_1 e_655 rfl mi_X12_advance ms_X12_advance (p_X12_advance hW_649 k_0) mx_X12_advance ml_X12_156 (by decide) rfl (cells1 := 0) (slots1 := 0) (by decide) (by decide) (Nat.le_of_ble_eq_true rfl) (Nat.le_of_ble_eq_true rfl) rfl (Nat.le_of_ble_eq_true rfl) dX12_number_62 (fun L_793 f_794 h_795 => ?_)
            obtain ⟨rfl, hW_800, hF_801, x_796, x_797, x_798, x_799⟩ := h_795
            have fe_802 : fld (f_642 a_0) 8 = (v_661 : Int32).toInt := by rw [e_655]; rfl
            have fe_803 : fld (f_642 a_0) 12 = (v_668 : Int32).toInt := by rw [e_655]; rfl
            have fe_804 : fld (f_642 a_0) 20 = (v_672 : Int32).toInt := by rw [e_655]; rfl
            obtain ⟨v_806, v_807, v_809, v_811, v_813, v_815, v_817, v_818, v_819, v_820, v_822, e_805, b_808, b_810, b_812, b_814, b_816, b_821, b_823⟩ := hW_800.at m_1 t_2
            have fe_824 : fld (f_794 a_0) 8 = (v_811 : Int32).toInt := by rw [e_805]; rfl
            have fe_825 : fld (f_794 a_0) 9 = (v_813 : Int32).toInt := by rw [e_805]; rfl
            have fe_826 : fld (f_794 a_0) 10 = (v_815 : Int32).toInt := by rw [e_805]; rfl
            have fe_827 : fld (f_794 a_0) 12 = (v_818 : Int32).toInt := by rw [e_805]; rfl
            have fe_828 : fld (f_794 a_0) 20 = (v_822 : Int32).toInt := by rw [e_805]; rfl
            rw [fe_802, fe_825, fe_824] at x_796
            rw [fe_826, fe_825, fe_824] at x_797
            rw [fe_827, fe_803] at x_798
            rw [fe_828, fe_804] at x_799
            clear fe_802 fe_803 fe_804 fe_824 fe_825 fe_826 fe_827 fe_828
            refine v_iload_n hC dX12_number_65 rfl ?_
            have fe_829 : fld (f_794 a_0) 12 = (v_818 : Int32).toInt := by rw [e_805]; rfl
            have fe_830 : fld (f_794 a_0) 8 = (v_811 : Int32).toInt := by rw [e_805]; rfl
            have fe_831 : fld (f_794 a_0) 9 = (v_813 : Int32).toInt := by rw [e_805]; rfl
            have fe_832 : fld (f_794 a_0) 12 = (v_818 : Int32).toInt := by rw [e_805]; rfl
            have fe_833 : fld (f_794 a_0) 8 = (v_811 : Int32).toInt := by rw [e_805]; rfl
            have fe_834 : fld (f_794 a_0) 9 = (v_813 : Int32).toInt := by rw [e_805]; rfl
            have fe_835 : fld (f_794 a_0) 10 = (v_815 : Int32).toInt := by rw [e_805]; rfl
            have fe_836 : fld (f_794 a_0) 12 = (v_818 : Int32).toInt := by rw [e_805]; rfl
            have fe_837 : fld (f_794 a_0) 12 = (v_818 : Int32).toInt := by rw [e_805]; rfl
            have fe_838 : fld (f_794 a_0) 20 = (v_822 : Int32).toInt := by rw [e_805]; rfl
            have fe_839 : fld (f_794 a_0) 8 = (v_811 : Int32).toInt := by rw [e_805]; rfl
            have fe_840 : fld (f_794 a_0) 9 = (v_813 : Int32).toInt := by rw [e_805]; rfl
            have fe_841 : fld (f_794 a_0) 10 = (v_815 : Int32).toInt := by rw [e_805]; rfl
            have fe_842 : fld (f_794 a_0) 12 = (v_818 : Int32).toInt := by rw [e_805]; rfl
            exact hR _ _ _ _ _ _ _ dX12_number_66 rfl (Nat.le_of_ble_eq_true rfl) (Nat.le_of_ble_eq_true rfl) ⟨rfl, hW_800, ((hF_650.tr hF_801).mono rfl), (by simp only [fe_829, mz_43, true_and, and_true, or_true, true_or, false_or, or_false, false_and, and_false, not_true_eq_false, not_false_eq_true] <;> first | omega | (simp only [Int32.lt_iff_toInt_lt, Int32.le_iff_toInt_le, Int32.reduceToInt, ← Int32.toInt_inj, true_and, and_true, or_true, true_or, false_or, or_false, false_and, and_false, not_true_eq_false, not_false_eq_true] <;> omega)), (by simp only [fe_830, fe_831, fe_832, mz_41, mz_42, true_and, and_true, or_true, true_or, false_or, or_false, false_and, and_false, not_true_eq_false, not_false_eq_true] <;> first | omega | (simp only [Int32.lt_iff_toInt_lt, Int32.le_iff_toInt_le, Int32.reduceToInt, ← Int32.toInt_inj, true_and, and_true, or_true, true_or, false_or, or_false, false_and, and_false, not_true_eq_false, not_false_eq_true] <;> omega)), (by simp only [fe_833, fe_834, fe_835, fe_836, true_and, and_true, or_true, true_or, false_or, or_false, false_and, and_false, not_true_eq_false, not_false_eq_true] <;> first | omega | (simp only [Int32.lt_iff_toInt_lt, Int32.le_iff_toInt_le, Int32.reduceToInt, ← Int32.toInt_inj, true_and, and_true, or_true, true_or, false_or, or_false, false_and, and_false, not_true_eq_false, not_false_eq_true] <;> omega)), (by simp only [fe_837, true_and, and_true, or_true, true_or, false_or, or_false, false_and, and_false, not_true_eq_false, not_false_eq_true] <;> first | omega | (simp only [Int32.lt_iff_toInt_lt, Int32.le_iff_toInt_le, Int32.reduceToInt, ← Int32.toInt_inj, true_and, and_true, or_true, true_or, false_or, or_false, false_and, and_false, not_true_eq_false, not_false_eq_true] <;> omega)), (by simp only [fe_838, mz_44, true_and, and_true, or_true, true_or, false_or, or_false, false_and, and_false, not_true_eq_false, not_false_eq_true] <;> first | omega | (simp only [Int32.lt_iff_toInt_lt, Int32.le_iff_toInt_le, Int32.reduceToInt, ← Int32.toInt_inj, true_and, and_true, or_true, true_or, false_or, or_false, false_and, and_false, not_true_eq_false, not_false_eq_true] <;> omega)), (by simp only [fe_839, fe_840, fe_841, fe_842, mz_41, mz_42, mz_43, true_and, and_true, or_true, true_or, false_or, or_false, false_and, and_false, not_true_eq_false, not_false_eq_true] <;> first | omega | (simp only [Int32.lt_iff_toInt_lt, Int32.le_iff_toInt_le, Int32.reduceToInt, ← Int32.toInt_inj, true_and, and_true, or_true, true_or, false_or, or_false, false_and, and_false, not_true_eq_false, not_false_eq_true] <;> omega))⟩
          · simp only [Int32.lt_iff_toInt_lt, Int32.le_iff_toInt_le, Int32.reduceToInt, ← Int32.toInt_inj] at h_791
            refine v_iconst hC dX12_number_54 (v := 0) (by decide) ?_
            have fe_843 : fld (f_642 a_0) 12 = (v_668 : Int32).toInt := by rw [e_655]; rfl
            have fe_844 : fld (f_642 a_0) 8 = (v_661 : Int32).toInt := by rw [e_655]; rfl
            have fe_845 : fld (f_642 a_0) 9 = (v_663 : Int32).toInt := by rw [e_655]; rfl
            have fe_846 : fld (f_642 a_0) 12 = (v_668 : Int32).toInt := by rw [e_655]; rfl
            have fe_847 : fld (f_642 a_0) 8 = (v_661 : Int32).toInt := by rw [e_655]; rfl
            have fe_848 : fld (f_642 a_0) 9 = (v_663 : Int32).toInt := by rw [e_655]; rfl
            have fe_849 : fld (f_642 a_0) 10 = (v_665 : Int32).toInt := by rw [e_655]; rfl
            have fe_850 : fld (f_642 a_0) 12 = (v_668 : Int32).toInt := by rw [e_655]; rfl
            have fe_851 : fld (f_642 a_0) 12 = (v_668 : Int32).toInt := by rw [e_655]; rfl
            have fe_852 : fld (f_642 a_0) 20 = (v_672 : Int32).toInt := by rw [e_655]; rfl
            have fe_853 : fld (f_642 a_0) 8 = (v_661 : Int32).toInt := by rw [e_655]; rfl
            have fe_854 : fld (f_642 a_0) 9 = (v_663 : Int32).toInt := by rw [e_655]; rfl
            have fe_855 : fld (f_642 a_0) 10 = (v_665 : Int32).toInt := by rw [e_655]; rfl
            have fe_856 : fld (f_642 a_0) 12 = (v_668 : Int32).toInt := by rw [e_655]; rfl
            exact hR _ _ _ _ _ _ _ dX12_number_55 rfl (Nat.le_of_ble_eq_true rfl) (Nat.le_of_ble_eq_true rfl) ⟨rfl, hW_649, (hF_650.mono rfl), (by simp only [fe_843, mz_43, true_and, and_true, or_true, true_or, false_or, or_false, false_and, and_false, not_true_eq_false, not_false_eq_true] <;> first | omega | (simp only [Int32.lt_iff_toInt_lt, Int32.le_iff_toInt_le, Int32.reduceToInt, ← Int32.toInt_inj, true_and, and_true, or_true, true_or, false_or, or_false, false_and, and_false, not_true_eq_false, not_false_eq_true] <;> omega)), (by simp only [fe_844, fe_845, fe_846, mz_41, mz_42, true_and, and_true, or_true, true_or, false_or, or_false, false_and, and_false, not_true_eq_false, not_false_eq_true] <;> first | omega | (simp only [Int32.lt_iff_toInt_lt, Int32.le_iff_toInt_le, Int32.reduceToInt, ← Int32.toInt_inj, true_and, and_true, or_true, true_or, false_or, or_false, false_and, and_false, not_true_eq_false, not_false_eq_true] <;> omega)), (by simp only [fe_847, fe_848, fe_849, fe_850, true_and, and_true, or_true, true_or, false_or, or_false, false_and, and_false, not_true_eq_false, not_false_eq_true] <;> first | omega | (simp only [Int32.lt_iff_toInt_lt, Int32.le_iff_toInt_le, Int32.reduceToInt, ← Int32.toInt_inj, true_and, and_true, or_true, true_or, false_or, or_false, false_and, and_false, not_true_eq_false, not_false_eq_true] <;> omega)), (by simp only [fe_851, true_and, and_true, or_true, true_or, false_or, or_false, false_and, and_false, not_true_eq_false, not_false_eq_true] <;> first | omega | (simp only [Int32.lt_iff_toInt_lt, Int32.le_iff_toInt_le, Int32.reduceToInt, ← Int32.toInt_inj, true_and, and_true, or_true, true_or, false_or, or_false, false_and, and_false, not_true_eq_false, not_false_eq_true] <;> omega)), (by simp only [fe_852, mz_44, true_and, and_true, or_true, true_or, false_or, or_false, false_and, and_false, not_true_eq_false, not_false_eq_true] <;> first | omega | (simp only [Int32.lt_iff_toInt_lt, Int32.le_iff_toInt_le, Int32.reduceToInt, ← Int32.toInt_inj, true_and, and_true, or_true, true_or, false_or, or_false, false_and, and_false, not_true_eq_false, not_false_eq_true] <;> omega)), (by simp only [fe_853, fe_854, fe_855, fe_856, mz_41, mz_42, mz_43, true_and, and_true, or_true, true_or, false_or, or_false, false_and, and_false, not_true_eq_false, not_false_eq_true] <;> first | omega | (simp only [Int32.lt_iff_toInt_lt, Int32.le_iff_toInt_le, Int32.reduceToInt, ← Int32.toInt_inj, true_and, and_true, or_true, true_or, false_or, or_false, false_and, and_false, not_true_eq_false, not_false_eq_true] <;> omega))⟩
        · simp only [Int32.lt_iff_toInt_lt, Int32.le_iff_toInt_le, Int32.reduceToInt, ← Int32.toInt_inj] at h_781
          refine v_aload_n hC dX12_number_42 rfl ?_
          refine v_iconst hC dX12_number_43 (v := 2) (by decide) ?_
          refine v_vv hC (rest := []) m_1 e_655 rfl mi_X12_errs ms_X12_errs (p_X12_errs hW_649 k_0 (by decide)) mx_X12_errs ml_X12_162 (by decide) rfl (cells1 := 0) (slots1 := 0) (by decide) (by decide) (Nat.le_of_ble_eq_true rfl) (Nat.le_of_ble_eq_true rfl) rfl (Nat.le_of_ble_eq_true rfl) dX12_number_44 (fun L_858 f_859 h_860 => ?_)
          obtain ⟨rfl, hW_866, hF_867, x_861, x_862, x_863, x_864, x_865⟩ := h_860
          have fe_868 : fld (f_642 a_0) 8 = (v_661 : Int32).toInt := by rw [e_655]; rfl
          have fe_869 : fld (f_642 a_0) 9 = (v_663 : Int32).toInt := by rw [e_655]; rfl
          have fe_870 : fld (f_642 a_0) 10 = (v_665 : Int32).toInt := by rw [e_655]; rfl
          have fe_871 : fld (f_642 a_0) 20 = (v_672 : Int32).toInt := by rw [e_655]; rfl
          obtain ⟨v_873, v_874, v_876, v_878, v_880, v_882, v_884, v_885, v_886, v_887, v_889, e_872, b_875, b_877, b_879, b_881, b_883, b_888, b_890⟩ := hW_866.at m_1 t_2
          have fe_891 : fld (f_859 a_0) 8 = (v_878 : Int32).toInt := by rw [e_872]; rfl
          have fe_892 : fld (f_859 a_0) 9 = (v_880 : Int32).toInt := by rw [e_872]; rfl
          have fe_893 : fld (f_859 a_0) 10 = (v_882 : Int32).toInt := by rw [e_872]; rfl
          have fe_894 : fld (f_859 a_0) 12 = (v_885 : Int32).toInt := by rw [e_872]; rfl
          have fe_895 : fld (f_859 a_0) 20 = (v_889 : Int32).toInt := by rw [e_872]; rfl
          rw [fe_894] at x_861
          rw [fe_891, fe_868] at x_862
          rw [fe_892, fe_869] at x_863
          rw [fe_893, fe_870] at x_864
          rw [fe_895, fe_871] at x_865
          clear fe_868 fe_869 fe_870 fe_871 fe_891 fe_892 fe_893 fe_894 fe_895
          refine v_aload_n hC dX12_number_47 rfl ?_
          refine v_vi hC (rest := []) m_1 e_872 rfl mi_X12_good ms_X12_good (p_X12_good hW_866 k_0) mx_X12_good ml_X12_139 (by decide) rfl (cells1 := 0) (slots1 := 0) (by decide) (by decide) (Nat.le_of_ble_eq_true rfl) (Nat.le_of_ble_eq_true rfl) rfl (Nat.le_of_ble_eq_true rfl) dX12_number_48 (fun r_896 L_897 f_898 h_899 => ?_)
          obtain ⟨rfl, rfl, b_900, x_901⟩ := h_899
          have fe_904 : fld (f_859 a_0) 12 = (v_885 : Int32).toInt := by rw [e_872]; rfl
          rw [fe_904] at x_901
          clear fe_904
          try simp only [Int32.reduceToInt, Int64.reduceToInt] at x_901
          refine v_if_ne hC dX12_number_51 (tgt := 56) (by decide) (fun h_905 => ?_) (fun h_905 => ?_)
          · simp only [Int32.lt_iff_toInt_lt, Int32.le_iff_toInt_le, Int32.reduceToInt, ← Int32.toInt_inj] at h_905
            refine v_aload_n hC dX12_number_56 rfl ?_
            refine v_get hC fl_X12_131 m_1 e_872 rfl dX12_number_57 ?_
            refine v_istore_n hC dX12_number_60 (by decide) (lv' := [(3, .int v_884), (0, .ref a_0), (1, .int a_1), (2, .int a_2)]) rfl ?_
            refine v_aload_n hC dX12_number_61 rfl ?_
            refine v_vv hC (rest := []) m_1 e_872 rfl mi_X12_advance ms_X12_advance (p_X12_advance hW_866 k_0) mx_X12_advance ml_X12_156 (by decide) rfl (cells1 := 0) (slots1 := 0) (by decide) (by decide) (Nat.le_of_ble_eq_true rfl) (Nat.le_of_ble_eq_true rfl) rfl (Nat.le_of_ble_eq_true rfl) dX12_number_62 (fun L_907 f_908 h_909 => ?_)
            obtain ⟨rfl, hW_914, hF_915, x_910, x_911, x_912, x_913⟩ := h_909
            have fe_916 : fld (f_859 a_0) 8 = (v_878 : Int32).toInt := by rw [e_872]; rfl
            have fe_917 : fld (f_859 a_0) 12 = (v_885 : Int32).toInt := by rw [e_872]; rfl
            have fe_918 : fld (f_859 a_0) 20 = (v_889 : Int32).toInt := by rw [e_872]; rfl
            obtain ⟨v_920, v_921, v_923, v_925, v_927, v_929, v_931, v_932, v_933, v_934, v_936, e_919, b_922, b_924, b_926, b_928, b_930, b_935, b_937⟩ := hW_914.at m_1 t_2
            have fe_938 : fld (f_908 a_0) 8 = (v_925 : Int32).toInt := by rw [e_919]; rfl
            have fe_939 : fld (f_908 a_0) 9 = (v_927 : Int32).toInt := by rw [e_919]; rfl
            have fe_940 : fld (f_908 a_0) 10 = (v_929 : Int32).toInt := by rw [e_919]; rfl
            have fe_941 : fld (f_908 a_0) 12 = (v_932 : Int32).toInt := by rw [e_919]; rfl
            have fe_942 : fld (f_908 a_0) 20 = (v_936 : Int32).toInt := by rw [e_919]; rfl
            rw [fe_916, fe_939, fe_938] at x_910
            rw [fe_940, fe_939, fe_938] at x_911
            rw [fe_941, fe_917] at x_912
            rw [fe_942, fe_918] at x_913
            clear fe_916 fe_917 fe_918 fe_938 fe_939 fe_940 fe_941 fe_942
            refine v_iload_n hC dX12_number_65 rfl ?_
            have fe_943 : fld (f_908 a_0) 12 = (v_932 : Int32).toInt := by rw [e_919]; rfl
            have fe_944 : fld (f_908 a_0) 8 = (v_925 : Int32).toInt := by rw [e_919]; rfl
            have fe_945 : fld (f_908 a_0) 9 = (v_927 : Int32).toInt := by rw [e_919]; rfl
            have fe_946 : fld (f_908 a_0) 12 = (v_932 : Int32).toInt := by rw [e_919]; rfl
            have fe_947 : fld (f_908 a_0) 8 = (v_925 : Int32).toInt := by rw [e_919]; rfl
            have fe_948 : fld (f_908 a_0) 9 = (v_927 : Int32).toInt := by rw [e_919]; rfl
            have fe_949 : fld (f_908 a_0) 10 = (v_929 : Int32).toInt := by rw [e_919]; rfl
            have fe_950 : fld (f_908 a_0) 12 = (v_932 : Int32).toInt := by rw [e_919]; rfl
            have fe_951 : fld (f_908 a_0) 12 = (v_932 : Int32).toInt := by rw [e_919]; rfl
            have fe_952 : fld (f_908 a_0) 20 = (v_936 : Int32).toInt := by rw [e_919]; rfl
            have fe_953 : fld (f_908 a_0) 8 = (v_925 : Int32).toInt := by rw [e_919]; rfl
            have fe_954 : fld (f_908 a_0) 9 = (v_927 : Int32).toInt := by rw [e_919]; rfl
            have fe_955 : fld (f_908 a_0) 10 = (v_929 : Int32).toInt := by rw [e_919]; rfl
            have fe_956 : fld (f_908 a_0) 12 = (v_932 : Int32).toInt := by rw [e_919]; rfl
            exact hR _ _ _ _ _ _ _ dX12_number_66 rfl (Nat.le_of_ble_eq_true rfl) (Nat.le_of_ble_eq_true rfl) ⟨rfl, hW_914, (((hF_650.tr hF_867).tr hF_915).mono rfl), (by simp only [fe_943, mz_43, true_and, and_true, or_true, true_or, false_or, or_false, false_and, and_false, not_true_eq_false, not_false_eq_true] <;> first | omega | (simp only [Int32.lt_iff_toInt_lt, Int32.le_iff_toInt_le, Int32.reduceToInt, ← Int32.toInt_inj, true_and, and_true, or_true, true_or, false_or, or_false, false_and, and_false, not_true_eq_false, not_false_eq_true] <;> omega)), (by simp only [fe_944, fe_945, fe_946, mz_41, mz_42, true_and, and_true, or_true, true_or, false_or, or_false, false_and, and_false, not_true_eq_false, not_false_eq_true] <;> first | omega | (simp only [Int32.lt_iff_toInt_lt, Int32.le_iff_toInt_le, Int32.reduceToInt, ← Int32.toInt_inj, true_and, and_true, or_true, true_or, false_or, or_false, false_and, and_false, not_true_eq_false, not_false_eq_true] <;> omega)), (by simp only [fe_947, fe_948, fe_949, fe_950, true_and, and_true, or_true, true_or, false_or, or_false, false_and, and_false, not_true_eq_false, not_false_eq_true] <;> first | omega | (simp only [Int32.lt_iff_toInt_lt, Int32.le_iff_toInt_le, Int32.reduceToInt, ← Int32.toInt_inj, true_and, and_true, or_true, true_or, false_or, or_false, false_and, and_false, not_true_eq_false, not_false_eq_true] <;> omega)), (by simp only [fe_951, true_and, and_true, or_true, true_or, false_or, or_false, false_and, and_false, not_true_eq_false, not_false_eq_true] <;> first | omega | (simp only [Int32.lt_iff_toInt_lt, Int32.le_iff_toInt_le, Int32.reduceToInt, ← Int32.toInt_inj, true_and, and_true, or_true, true_or, false_or, or_false, false_and, and_false, not_true_eq_false, not_false_eq_true] <;> omega)), (by simp only [fe_952, mz_44, true_and, and_true, or_true, true_or, false_or, or_false, false_and, and_false, not_true_eq_false, not_false_eq_true] <;> first | omega | (simp only [Int32.lt_iff_toInt_lt, Int32.le_iff_toInt_le, Int32.reduceToInt, ← Int32.toInt_inj, true_and, and_true, or_true, true_or, false_or, or_false, false_and, and_false, not_true_eq_false, not_false_eq_true] <;> omega)), (by simp only [fe_953, fe_954, fe_955, fe_956, mz_41, mz_42, mz_43, true_and, and_true, or_true, true_or, false_or, or_false, false_and, and_false, not_true_eq_false, not_false_eq_true] <;> first | omega | (simp only [Int32.lt_iff_toInt_lt, Int32.le_iff_toInt_le, Int32.reduceToInt, ← Int32.toInt_inj, true_and, and_true, or_true, true_or, false_or, or_false, false_and, and_false, not_true_eq_false, not_false_eq_true] <;> omega))⟩
          · simp only [Int32.lt_iff_toInt_lt, Int32.le_iff_toInt_le, Int32.reduceToInt, ← Int32.toInt_inj] at h_905
            refine v_iconst hC dX12_number_54 (v := 0) (by decide) ?_
            have fe_957 : fld (f_859 a_0) 12 = (v_885 : Int32).toInt := by rw [e_872]; rfl
            have fe_958 : fld (f_859 a_0) 8 = (v_878 : Int32).toInt := by rw [e_872]; rfl
            have fe_959 : fld (f_859 a_0) 9 = (v_880 : Int32).toInt := by rw [e_872]; rfl
            have fe_960 : fld (f_859 a_0) 12 = (v_885 : Int32).toInt := by rw [e_872]; rfl
            have fe_961 : fld (f_859 a_0) 8 = (v_878 : Int32).toInt := by rw [e_872]; rfl
            have fe_962 : fld (f_859 a_0) 9 = (v_880 : Int32).toInt := by rw [e_872]; rfl
            have fe_963 : fld (f_859 a_0) 10 = (v_882 : Int32).toInt := by rw [e_872]; rfl
            have fe_964 : fld (f_859 a_0) 12 = (v_885 : Int32).toInt := by rw [e_872]; rfl
            have fe_965 : fld (f_859 a_0) 12 = (v_885 : Int32).toInt := by rw [e_872]; rfl
            have fe_966 : fld (f_859 a_0) 20 = (v_889 : Int32).toInt := by rw [e_872]; rfl
            have fe_967 : fld (f_859 a_0) 8 = (v_878 : Int32).toInt := by rw [e_872]; rfl
            have fe_968 : fld (f_859 a_0) 9 = (v_880 : Int32).toInt := by rw [e_872]; rfl
            have fe_969 : fld (f_859 a_0) 10 = (v_882 : Int32).toInt := by rw [e_872]; rfl
            have fe_970 : fld (f_859 a_0) 12 = (v_885 : Int32).toInt := by rw [e_872]; rfl
            exact hR _ _ _ _ _ _ _ dX12_number_55 rfl (Nat.le_of_ble_eq_true rfl) (Nat.le_of_ble_eq_true rfl) ⟨rfl, hW_866, ((hF_650.tr hF_867).mono rfl), (by simp only [fe_957, mz_43, true_and, and_true, or_true, true_or, false_or, or_false, false_and, and_false, not_true_eq_false, not_false_eq_true] <;> first | omega | (simp only [Int32.lt_iff_toInt_lt, Int32.le_iff_toInt_le, Int32.reduceToInt, ← Int32.toInt_inj, true_and, and_true, or_true, true_or, false_or, or_false, false_and, and_false, not_true_eq_false, not_false_eq_true] <;> omega)), (by simp only [fe_958, fe_959, fe_960, mz_41, mz_42, true_and, and_true, or_true, true_or, false_or, or_false, false_and, and_false, not_true_eq_false, not_false_eq_true] <;> first | omega | (simp only [Int32.lt_iff_toInt_lt, Int32.le_iff_toInt_le, Int32.reduceToInt, ← Int32.toInt_inj, true_and, and_true, or_true, true_or, false_or, or_false, false_and, and_false, not_true_eq_false, not_false_eq_true] <;> omega)), (by simp only [fe_961, fe_962, fe_963, fe_964, true_and, and_true, or_true, true_or, false_or, or_false, false_and, and_false, not_true_eq_false, not_false_eq_true] <;> first | omega | (simp only [Int32.lt_iff_toInt_lt, Int32.le_iff_toInt_le, Int32.reduceToInt, ← Int32.toInt_inj, true_and, and_true, or_true, true_or, false_or, or_false, false_and, and_false, not_true_eq_false, not_false_eq_true] <;> omega)), (by simp only [fe_965, true_and, and_true, or_true, true_or, false_or, or_false, false_and, and_false, not_true_eq_false, not_false_eq_true] <;> first | omega | (simp only [Int32.lt_iff_toInt_lt, Int32.le_iff_toInt_le, Int32.reduceToInt, ← Int32.toInt_inj, true_and, and_true, or_true, true_or, false_or, or_false, false_and, and_false, not_true_eq_false, not_false_eq_true] <;> omega)), (by simp only [fe_966, mz_44, true_and, and_true, or_true, true_or, false_or, or_false, false_and, and_false, not_true_eq_false, not_false_eq_true] <;> first | omega | (simp only [Int32.lt_iff_toInt_lt, Int32.le_iff_toInt_le, Int32.reduceToInt, ← Int32.toInt_inj, true_and, and_true, or_true, true_or, false_or, or_false, false_and, and_false, not_true_eq_false, not_false_eq_true] <;> omega)), (by simp only [fe_967, fe_968, fe_969, fe_970, mz_41, mz_42, mz_43, true_and, and_true, or_true, true_or, false_or, or_false, false_and, and_false, not_true_eq_false, not_false_eq_true] <;> first | omega | (simp only [Int32.lt_iff_toInt_lt, Int32.le_iff_toInt_le, Int32.reduceToInt, ← Int32.toInt_inj, true_and, and_true, or_true, true_or, false_or, or_false, false_and, and_false, not_true_eq_false, not_false_eq_true] <;> omega))⟩
set_option maxRecDepth 100000 in
set_option maxHeartbeats 8000000 in
theorem p_X12_needs {l : Launch} {E : Ez} {L : List Nat} {f : Nat → va_E} {T : Nat → va_E → Prop} {a_0 : Nat} {a_1 : Nat} {q : Nat → Nat} (hW : WT T L f) (k_0 : isM T L E a_0 q) (ha_1 : a_1 < 77) : CV l yX12_needs cX12_needs 2 6 0 0 E [.ref a_0, .ref (eK E a_1)] L f (fun L1 f1 => L = L1 ∧ WT T L f1 ∧ FR [12] f f1 ∧ (¬ fld (f1 a_0) 12 = 0 ∨ ((iw (f a_0) (f (q 4)) a_1).toInt = 1 ∧ fld (f a_0) 8 ≤ fld (f1 a_0) 9 ∧ fld (f1 a_0) 9 ≤ fld (f1 a_0) 8)) ∧ (¬ fld (f1 a_0) 12 = 0 ∨ fld (f1 a_0) 10 = 0 ∨ fld (f1 a_0) 9 < fld (f1 a_0) 8) ∧ (¬ fld (f1 a_0) 12 = 0 ∨ fld (f a_0) 12 = 0) ∧ fld (f1 a_0) 20 = fld (f a_0) 20 ∧ (¬ fld (f1 a_0) 12 = 0 ∨ (fld (f a_0) 12 = 0 ∧ (iw (f a_0) (f (q 4)) a_1).toInt = 1 ∧ fld (f a_0) 8 ≤ fld (f1 a_0) 9 ∧ fld (f1 a_0) 9 ≤ fld (f1 a_0) 8 ∧ (fld (f1 a_0) 10 = 0 ∨ fld (f1 a_0) 9 < fld (f1 a_0) 8)))) := by
  refine cv_of (by decide) (Nat.le_of_ble_eq_true rfl) (fun z hz hnm hC hR => ?_)
  have hC : Cx z E cX12_needs RX12 2 6 0 0 := hC
  subst hz
  show V z E 2 0 0 L f 0 [(0, .ref a_0), (1, .ref (eK E a_1))] []
  obtain ⟨m_1, t_2, nq_21, k_3, k_4, k_5, k_6, k_7, k_8, k_9, k_10, k_11, k_12, k_13, k_14, k_15, k_16, k_17, k_18, k_19, k_20⟩ := id k_0
  obtain ⟨v_23, v_24, v_26, v_28, v_30, v_32, v_34, v_35, v_36, v_37, v_39, e_22, b_25, b_27, b_29, b_31, b_33, b_38, b_40⟩ := hW.at m_1 t_2
  have mz_41 : fld (f a_0) 8 = v_28.toInt := by rw [e_22]; rfl
  have mz_42 : fld (f a_0) 12 = v_35.toInt := by rw [e_22]; rfl
  have mz_43 : fld (f a_0) 20 = v_39.toInt := by rw [e_22]; rfl
  refine v_aload_n hC dX12_needs_0 rfl ?_
  refine v_aload_n hC dX12_needs_1 rfl ?_
  refine v_vi hC (rest := []) m_1 e_22 rfl mi_X12_takes ms_X12_takes (p_X12_takes hW k_0 ha_1) mx_X12_takes ml_X12_159 (by decide) rfl (cells1 := 0) (slots1 := 0) (by decide) (by decide) (Nat.le_of_ble_eq_true rfl) (Nat.le_of_ble_eq_true rfl) rfl (Nat.le_of_ble_eq_true rfl) dX12_needs_2 (fun r_44 L_45 f_46 h_47 => ?_)
  obtain ⟨rfl, hW_52, hF_53, rfl, x_48, x_49, x_50, x_51⟩ := h_47
  have fe_54 : fld (f a_0) 8 = (v_28 : Int32).toInt := by rw [e_22]; rfl
  have fe_55 : fld (f a_0) 9 = (v_30 : Int32).toInt := by rw [e_22]; rfl
  have fe_56 : fld (f a_0) 10 = (v_32 : Int32).toInt := by rw [e_22]; rfl
  have fe_57 : fld (f a_0) 12 = (v_35 : Int32).toInt := by rw [e_22]; rfl
  have fe_58 : fld (f a_0) 20 = (v_39 : Int32).toInt := by rw [e_22]; rfl
  have ib_59 := iw_b (f a_0) (f (q 4)) a_1
  rw [fe_57, fe_56, fe_54, fe_55] at ib_59
  obtain ⟨v_61, v_62, v_64, v_66, v_68, v_70, v_72, v_73, v_74, v_75, v_77, e_60, b_63, b_65, b_67, b_69, b_71, b_76, b_78⟩ := hW_52.at m_1 t_2
  have fe_79 : fld (f_46 a_0) 8 = (v_66 : Int32).toInt := by rw [e_60]; rfl
  have fe_80 : fld (f_46 a_0) 9 = (v_68 : Int32).toInt := by rw [e_60]; rfl
  have fe_81 : fld (f_46 a_0) 10 = (v_70 : Int32).toInt := by rw [e_60]; rfl
  have fe_82 : fld (f_46 a_0) 12 = (v_73 : Int32).toInt := by rw [e_60]; rfl
  have fe_83 : fld (f_46 a_0) 20 = (v_77 : Int32).toInt := by rw [e_60]; rfl
  rw [fe_54, fe_80, fe_79, fe_81] at x_48
  rw [fe_79, fe_54, fe_80, fe_55, fe_81, fe_56] at x_49
  rw [fe_82, fe_57] at x_50
  rw [fe_83, fe_58] at x_51
  clear fe_54 fe_55 fe_56 fe_57 fe_58 fe_79 fe_80 fe_81 fe_82 fe_83
  try simp only [Int32.reduceToInt, Int64.reduceToInt] at x_48
  try simp only [Int32.reduceToInt, Int64.reduceToInt] at x_49
  try simp only [Int32.reduceToInt, Int64.reduceToInt] at x_50
  try simp only [Int32.reduceToInt, Int64.reduceToInt] at x_51
  refine v_if_ne hC dX12_needs_5 (tgt := 13) (by decide) (fun h_84 => ?_) (fun h_84 => ?_)
  · simp only [Int32.lt_iff_toInt_lt, Int32.le_iff_toInt_le, Int32.reduceToInt, ← Int32.toInt_inj] at h_84
    have fe_85 : fld (f_46 a_0) 8 = (v_66 : Int32).toInt := by rw [e_60]; rfl
    have fe_86 : fld (f_46 a_0) 9 = (v_68 : Int32).toInt := by rw [e_60]; rfl
    have fe_87 : fld (f_46 a_0) 12 = (v_73 : Int32).toInt := by rw [e_60]; rfl
    have fe_88 : fld (f_46 a_0) 8 = (v_66 : Int32).toInt := by rw [e_60]; rfl
    have fe_89 : fld (f_46 a_0) 9 = (v_68 : Int32).toInt := by rw [e_60]; rfl
    have fe_90 : fld (f_46 a_0) 10 = (v_70 : Int32).toInt := by rw [e_60]; rfl
    have fe_91 : fld (f_46 a_0) 12 = (v_73 : Int32).toInt := by rw [e_60]; rfl
    have fe_92 : fld (f_46 a_0) 12 = (v_73 : Int32).toInt := by rw [e_60]; rfl
    have fe_93 : fld (f_46 a_0) 20 = (v_77 : Int32).toInt := by rw [e_60]; rfl
    have fe_94 : fld (f_46 a_0) 8 = (v_66 : Int32).toInt := by rw [e_60]; rfl
    have fe_95 : fld (f_46 a_0) 9 = (v_68 : Int32).toInt := by rw [e_60]; rfl
    have fe_96 : fld (f_46 a_0) 10 = (v_70 : Int32).toInt := by rw [e_60]; rfl
    have fe_97 : fld (f_46 a_0) 12 = (v_73 : Int32).toInt := by rw [e_60]; rfl
    exact hR _ _ _ _ _ _ dX12_needs_13 (Nat.le_of_ble_eq_true rfl) (Nat.le_of_ble_eq_true rfl) ⟨rfl, hW_52, (hF_53.mono rfl), (by simp only [fe_85, fe_86, fe_87, mz_41, true_and, and_true, or_true, true_or, false_or, or_false, false_and, and_false, not_true_eq_false, not_false_eq_true] <;> first | omega | (simp only [Int32.lt_iff_toInt_lt, Int32.le_iff_toInt_le, Int32.reduceToInt, ← Int32.toInt_inj, true_and, and_true, or_true, true_or, false_or, or_false, false_and, and_false, not_true_eq_false, not_false_eq_true] <;> omega)), (by simp only [fe_88, fe_89, fe_90, fe_91, true_and, and_true, or_true, true_or, false_or, or_false, false_and, and_false, not_true_eq_false, not_false_eq_true] <;> first | omega | (simp only [Int32.lt_iff_toInt_lt, Int32.le_iff_toInt_le, Int32.reduceToInt, ← Int32.toInt_inj, true_and, and_true, or_true, true_or, false_or, or_false, false_and, and_false, not_true_eq_false, not_false_eq_true] <;> omega)), (by simp only [fe_92, mz_42, true_and, and_true, or_true, true_or, false_or, or_false, false_and, and_false, not_true_eq_false, not_false_eq_true] <;> first | omega | (simp only [Int32.lt_iff_toInt_lt, Int32.le_iff_toInt_le, Int32.reduceToInt, ← Int32.toInt_inj, true_and, and_true, or_true, true_or, false_or, or_false, false_and, and_false, not_true_eq_false, not_false_eq_true] <;> omega)), (by simp only [fe_93, mz_43, true_and, and_true, or_true, true_or, false_or, or_false, false_and, and_false, not_true_eq_false, not_false_eq_true] <;> first | omega | (simp only [Int32.lt_iff_toInt_lt, Int32.le_iff_toInt_le, Int32.reduceToInt, ← Int32.toInt_inj, true_and, and_true, or_true, true_or, false_or, or_false, false_and, and_false, not_true_eq_false, not_false_eq_true] <;> omega)), (by simp only [fe_94, fe_95, fe_96, fe_97, mz_41, mz_42, true_and, and_true, or_true, true_or, false_or, or_false, false_and, and_false, not_true_eq_false, not_false_eq_true] <;> first | omega | (simp only [Int32.lt_iff_toInt_lt, Int32.le_iff_toInt_le, Int32.reduceToInt, ← Int32.toInt_inj, true_and, and_true, or_true, true_or, false_or, or_false, false_and, and_false, not_true_eq_false, not_false_eq_true] <;> omega))⟩
  · simp only [Int32.lt_iff_toInt_lt, Int32.le_iff_toInt_le, Int32.reduceToInt, ← Int32.toInt_inj] at h_84
    refine v_aload_n hC dX12_needs_8 rfl ?_
    refine v_iconst hC dX12_needs_9 (v := 1) (by decide) ?_
    refine v_vv hC (rest := []) m_1 e_60 rfl mi_X12_errs ms_X12_errs (p_X12_errs hW_52 k_0 (by decide)) mx_X12_errs ml_X12_162 (by decide) rfl (cells1 := 0) (slots1 := 0) (by decide) (by decide) (Nat.le_of_ble_eq_true rfl) (Nat.le_of_ble_eq_true rfl) rfl (Nat.le_of_ble_eq_true rfl) dX12_needs_10 (fun L_99 f_100 h_101 => ?_)
    obtain ⟨rfl, hW_107, hF_108, x_102, x_103, x_104, x_105, x_106⟩ := h_101
    have fe_109 : fld (f_46 a_0) 8 = (v_66 : Int32).toInt := by rw [e_60]; rfl
    have fe_110 : fld (f_46 a_0) 9 = (v_68 : Int32).toInt := by rw [e_60]; rfl
    have fe_111 : fld (f_46 a_0) 10 = (v_70 : Int32).toInt := by rw [e_60]; rfl
    have fe_112 : fld (f_46 a_0) 20 = (v_77 : Int32).toInt := by rw [e_60]; rfl
    obtain ⟨v_114, v_115, v_117, v_119, v_121, v_123, v_125, v_126, v_127, v_128, v_130, e_113, b_116, b_118, b_120, b_122, b_124, b_129, b_131⟩ := hW_107.at m_1 t_2
    have fe_132 : fld (f_100 a_0) 8 = (v_119 : Int32).toInt := by rw [e_113]; rfl
    have fe_133 : fld (f_100 a_0) 9 = (v_121 : Int32).toInt := by rw [e_113]; rfl
    have fe_134 : fld (f_100 a_0) 10 = (v_123 : Int32).toInt := by rw [e_113]; rfl
    have fe_135 : fld (f_100 a_0) 12 = (v_126 : Int32).toInt := by rw [e_113]; rfl
    have fe_136 : fld (f_100 a_0) 20 = (v_130 : Int32).toInt := by rw [e_113]; rfl
    rw [fe_135] at x_102
    rw [fe_132, fe_109] at x_103
    rw [fe_133, fe_110] at x_104
    rw [fe_134, fe_111] at x_105
    rw [fe_136, fe_112] at x_106
    clear fe_109 fe_110 fe_111 fe_112 fe_132 fe_133 fe_134 fe_135 fe_136
    have fe_137 : fld (f_100 a_0) 8 = (v_119 : Int32).toInt := by rw [e_113]; rfl
    have fe_138 : fld (f_100 a_0) 9 = (v_121 : Int32).toInt := by rw [e_113]; rfl
    have fe_139 : fld (f_100 a_0) 12 = (v_126 : Int32).toInt := by rw [e_113]; rfl
    have fe_140 : fld (f_100 a_0) 8 = (v_119 : Int32).toInt := by rw [e_113]; rfl
    have fe_141 : fld (f_100 a_0) 9 = (v_121 : Int32).toInt := by rw [e_113]; rfl
    have fe_142 : fld (f_100 a_0) 10 = (v_123 : Int32).toInt := by rw [e_113]; rfl
    have fe_143 : fld (f_100 a_0) 12 = (v_126 : Int32).toInt := by rw [e_113]; rfl
    have fe_144 : fld (f_100 a_0) 12 = (v_126 : Int32).toInt := by rw [e_113]; rfl
    have fe_145 : fld (f_100 a_0) 20 = (v_130 : Int32).toInt := by rw [e_113]; rfl
    have fe_146 : fld (f_100 a_0) 8 = (v_119 : Int32).toInt := by rw [e_113]; rfl
    have fe_147 : fld (f_100 a_0) 9 = (v_121 : Int32).toInt := by rw [e_113]; rfl
    have fe_148 : fld (f_100 a_0) 10 = (v_123 : Int32).toInt := by rw [e_113]; rfl
    have fe_149 : fld (f_100 a_0) 12 = (v_126 : Int32).toInt := by rw [e_113]; rfl
    exact hR _ _ _ _ _ _ dX12_needs_13 (Nat.le_of_ble_eq_true rfl) (Nat.le_of_ble_eq_true rfl) ⟨rfl, hW_107, ((hF_53.tr hF_108).mono rfl), (by simp only [fe_137, fe_138, fe_139, mz_41, true_and, and_true, or_true, true_or, false_or, or_false, false_and, and_false, not_true_eq_false, not_false_eq_true] <;> first | omega | (simp only [Int32.lt_iff_toInt_lt, Int32.le_iff_toInt_le, Int32.reduceToInt, ← Int32.toInt_inj, true_and, and_true, or_true, true_or, false_or, or_false, false_and, and_false, not_true_eq_false, not_false_eq_true] <;> omega)), (by simp only [fe_140, fe_141, fe_142, fe_143, true_and, and_true, or_true, true_or, false_or, or_false, false_and, and_false, not_true_eq_false, not_false_eq_true] <;> first | omega | (simp only [Int32.lt_iff_toInt_lt, Int32.le_iff_toInt_le, Int32.reduceToInt, ← Int32.toInt_inj, true_and, and_true, or_true, true_or, false_or, or_false, false_and, and_false, not_true_eq_false, not_false_eq_true] <;> omega)), (by simp only [fe_144, mz_42, true_and, and_true, or_true, true_or, false_or, or_false, false_and, and_false, not_true_eq_false, not_false_eq_true] <;> first | omega | (simp only [Int32.lt_iff_toInt_lt, Int32.le_iff_toInt_le, Int32.reduceToInt, ← Int32.toInt_inj, true_and, and_true, or_true, true_or, false_or, or_false, false_and, and_false, not_true_eq_false, not_false_eq_true] <;> omega)), (by simp only [fe_145, mz_43, true_and, and_true, or_true, true_or, false_or, or_false, false_and, and_false, not_true_eq_false, not_false_eq_true] <;> first | omega | (simp only [Int32.lt_iff_toInt_lt, Int32.le_iff_toInt_le, Int32.reduceToInt, ← Int32.toInt_inj, true_and, and_true, or_true, true_or, false_or, or_false, false_and, and_false, not_true_eq_false, not_false_eq_true] <;> omega)), (by simp only [fe_146, fe_147, fe_148, fe_149, mz_41, mz_42, true_and, and_true, or_true, true_or, false_or, or_false, false_and, and_false, not_true_eq_false, not_false_eq_true] <;> first | omega | (simp only [Int32.lt_iff_toInt_lt, Int32.le_iff_toInt_le, Int32.reduceToInt, ← Int32.toInt_inj, true_and, and_true, or_true, true_or, false_or, or_false, false_and, and_false, not_true_eq_false, not_false_eq_true] <;> omega))⟩
set_option maxRecDepth 100000 in
set_option maxHeartbeats 8000000 in
theorem p_X12_told {l : Launch} {E : Ez} {L : List Nat} {f : Nat → va_E} {T : Nat → va_E → Prop} {a_0 : Nat} {a_1 : Nat} {a_2 : Int32} {a_3 : Int32} {q : Nat → Nat} (hW : WT T L f) (k_0 : isM T L E a_0 q) (ha_1 : a_1 < 77) : CI l yX12_told cX12_told 4 .int 7 0 0 E [.ref a_0, .ref (eK E a_1), .int a_2, .int a_3] L f (fun r L1 f1 => L = L1 ∧ WT T L f1 ∧ FR [12] f f1 ∧ (¬ fld (f1 a_0) 12 = 0 ∨ (fld (f a_0) 12 = 0 ∧ a_2.toInt ≤ r.toInt ∧ r.toInt ≤ a_3.toInt)) ∧ (¬ fld (f1 a_0) 12 = 0 ∨ (fld (f a_0) 8 ≤ fld (f1 a_0) 9 ∧ fld (f1 a_0) 9 ≤ fld (f1 a_0) 8)) ∧ (¬ fld (f1 a_0) 12 = 0 ∨ fld (f1 a_0) 10 = 0 ∨ fld (f1 a_0) 9 < fld (f1 a_0) 8) ∧ (fld (f1 a_0) 12 = 0 ∨ r.toInt = 0) ∧ fld (f1 a_0) 20 = fld (f a_0) 20 ∧ (¬ fld (f1 a_0) 12 = 0 ∨ (fld (f a_0) 12 = 0 ∧ a_2.toInt ≤ r.toInt ∧ r.toInt ≤ a_3.toInt ∧ fld (f a_0) 8 ≤ fld (f1 a_0) 9 ∧ fld (f1 a_0) 9 ≤ fld (f1 a_0) 8 ∧ (fld (f1 a_0) 10 = 0 ∨ fld (f1 a_0) 9 < fld (f1 a_0) 8)))) := by
  refine ci_of (by decide) (Nat.le_of_ble_eq_true rfl) (fun z hz hnm hC hR => ?_)
  have hC : Cx z E cX12_told RX12 4 7 0 0 := hC
  subst hz
  show V z E 4 0 0 L f 0 [(0, .ref a_0), (1, .ref (eK E a_1)), (2, .int a_2), (3, .int a_3)] []
  obtain ⟨m_1, t_2, nq_21, k_3, k_4, k_5, k_6, k_7, k_8, k_9, k_10, k_11, k_12, k_13, k_14, k_15, k_16, k_17, k_18, k_19, k_20⟩ := id k_0
  obtain ⟨v_23, v_24, v_26, v_28, v_30, v_32, v_34, v_35, v_36, v_37, v_39, e_22, b_25, b_27, b_29, b_31, b_33, b_38, b_40⟩ := hW.at m_1 t_2
  have mz_41 : fld (f a_0) 8 = v_28.toInt := by rw [e_22]; rfl
  have mz_42 : fld (f a_0) 12 = v_35.toInt := by rw [e_22]; rfl
  have mz_43 : fld (f a_0) 20 = v_39.toInt := by rw [e_22]; rfl
  refine v_aload_n hC dX12_told_0 rfl ?_
  refine v_aload_n hC dX12_told_1 rfl ?_
  refine v_vv hC (rest := []) m_1 e_22 rfl mi_X12_needs ms_X12_needs (p_X12_needs hW k_0 ha_1) mx_X12_needs ml_X12_166 (by decide) rfl (cells1 := 0) (slots1 := 0) (by decide) (by decide) (Nat.le_of_ble_eq_true rfl) (Nat.le_of_ble_eq_true rfl) rfl (Nat.le_of_ble_eq_true rfl) dX12_told_2 (fun L_45 f_46 h_47 => ?_)
  obtain ⟨rfl, hW_52, hF_53, x_48, x_49, x_50, x_51, -⟩ := h_47
  have fe_54 : fld (f a_0) 8 = (v_28 : Int32).toInt := by rw [e_22]; rfl
  have fe_55 : fld (f a_0) 9 = (v_30 : Int32).toInt := by rw [e_22]; rfl
  have fe_56 : fld (f a_0) 10 = (v_32 : Int32).toInt := by rw [e_22]; rfl
  have fe_57 : fld (f a_0) 12 = (v_35 : Int32).toInt := by rw [e_22]; rfl
  have fe_58 : fld (f a_0) 20 = (v_39 : Int32).toInt := by rw [e_22]; rfl
  have ib_59 := iw_b (f a_0) (f (q 4)) a_1
  rw [fe_57, fe_56, fe_54, fe_55] at ib_59
  obtain ⟨v_61, v_62, v_64, v_66, v_68, v_70, v_72, v_73, v_74, v_75, v_77, e_60, b_63, b_65, b_67, b_69, b_71, b_76, b_78⟩ := hW_52.at m_1 t_2
  have fe_79 : fld (f_46 a_0) 8 = (v_66 : Int32).toInt := by rw [e_60]; rfl
  have fe_80 : fld (f_46 a_0) 9 = (v_68 : Int32).toInt := by rw [e_60]; rfl
  have fe_81 : fld (f_46 a_0) 10 = (v_70 : Int32).toInt := by rw [e_60]; rfl
  have fe_82 : fld (f_46 a_0) 12 = (v_73 : Int32).toInt := by rw [e_60]; rfl
  have fe_83 : fld (f_46 a_0) 20 = (v_77 : Int32).toInt := by rw [e_60]; rfl
  rw [fe_82, fe_54, fe_80, fe_79] at x_48
  rw [fe_82, fe_81, fe_80, fe_79] at x_49
  rw [fe_82, fe_57] at x_50
  rw [fe_83, fe_58] at x_51
  clear fe_54 fe_55 fe_56 fe_57 fe_58 fe_79 fe_80 fe_81 fe_82 fe_83
  refine v_aload_n hC dX12_told_5 rfl ?_
  refine v_iload_n hC dX12_told_6 rfl ?_
  refine v_iload_n hC dX12_told_7 rfl ?_
  refine v_vi hC (rest := []) m_1 e_60 rfl mi_X12_number ms_X12_number (p_X12_number hW_52 k_0) mx_X12_number ml_X12_170 (by decide) rfl (cells1 := 0) (slots1 := 0) (by decide) (by decide) (Nat.le_of_ble_eq_true rfl) (Nat.le_of_ble_eq_true rfl) rfl (Nat.le_of_ble_eq_true rfl) dX12_told_8 (fun r_84 L_85 f_86 h_87 => ?_)
  obtain ⟨rfl, hW_93, hF_94, x_88, x_89, x_90, x_91, x_92, -⟩ := h_87
  have fe_95 : fld (f_46 a_0) 8 = (v_66 : Int32).toInt := by rw [e_60]; rfl
  have fe_96 : fld (f_46 a_0) 10 = (v_70 : Int32).toInt := by rw [e_60]; rfl
  have fe_97 : fld (f_46 a_0) 12 = (v_73 : Int32).toInt := by rw [e_60]; rfl
  have fe_98 : fld (f_46 a_0) 20 = (v_77 : Int32).toInt := by rw [e_60]; rfl
  obtain ⟨v_100, v_101, v_103, v_105, v_107, v_109, v_111, v_112, v_113, v_114, v_116, e_99, b_102, b_104, b_106, b_108, b_110, b_115, b_117⟩ := hW_93.at m_1 t_2
  have fe_118 : fld (f_86 a_0) 8 = (v_105 : Int32).toInt := by rw [e_99]; rfl
  have fe_119 : fld (f_86 a_0) 9 = (v_107 : Int32).toInt := by rw [e_99]; rfl
  have fe_120 : fld (f_86 a_0) 10 = (v_109 : Int32).toInt := by rw [e_99]; rfl
  have fe_121 : fld (f_86 a_0) 12 = (v_112 : Int32).toInt := by rw [e_99]; rfl
  have fe_122 : fld (f_86 a_0) 20 = (v_116 : Int32).toInt := by rw [e_99]; rfl
  rw [fe_121, fe_97] at x_88
  rw [fe_121, fe_96, fe_95, fe_119, fe_118] at x_89
  rw [fe_121, fe_120, fe_119, fe_118] at x_90
  rw [fe_121] at x_91
  rw [fe_122, fe_98] at x_92
  clear fe_95 fe_96 fe_97 fe_98 fe_118 fe_119 fe_120 fe_121 fe_122
  try simp only [Int32.reduceToInt, Int64.reduceToInt] at x_88
  try simp only [Int32.reduceToInt, Int64.reduceToInt] at x_89
  try simp only [Int32.reduceToInt, Int64.reduceToInt] at x_90
  try simp only [Int32.reduceToInt, Int64.reduceToInt] at x_91
  try simp only [Int32.reduceToInt, Int64.reduceToInt] at x_92
  have fe_123 : fld (f_86 a_0) 12 = (v_112 : Int32).toInt := by rw [e_99]; rfl
  have fe_124 : fld (f_86 a_0) 8 = (v_105 : Int32).toInt := by rw [e_99]; rfl
  have fe_125 : fld (f_86 a_0) 9 = (v_107 : Int32).toInt := by rw [e_99]; rfl
  have fe_126 : fld (f_86 a_0) 12 = (v_112 : Int32).toInt := by rw [e_99]; rfl
  have fe_127 : fld (f_86 a_0) 8 = (v_105 : Int32).toInt := by rw [e_99]; rfl
  have fe_128 : fld (f_86 a_0) 9 = (v_107 : Int32).toInt := by rw [e_99]; rfl
  have fe_129 : fld (f_86 a_0) 10 = (v_109 : Int32).toInt := by rw [e_99]; rfl
  have fe_130 : fld (f_86 a_0) 12 = (v_112 : Int32).toInt := by rw [e_99]; rfl
  have fe_131 : fld (f_86 a_0) 12 = (v_112 : Int32).toInt := by rw [e_99]; rfl
  have fe_132 : fld (f_86 a_0) 20 = (v_116 : Int32).toInt := by rw [e_99]; rfl
  have fe_133 : fld (f_86 a_0) 8 = (v_105 : Int32).toInt := by rw [e_99]; rfl
  have fe_134 : fld (f_86 a_0) 9 = (v_107 : Int32).toInt := by rw [e_99]; rfl
  have fe_135 : fld (f_86 a_0) 10 = (v_109 : Int32).toInt := by rw [e_99]; rfl
  have fe_136 : fld (f_86 a_0) 12 = (v_112 : Int32).toInt := by rw [e_99]; rfl
  exact hR _ _ _ _ _ _ _ dX12_told_11 rfl (Nat.le_of_ble_eq_true rfl) (Nat.le_of_ble_eq_true rfl) ⟨rfl, hW_93, ((hF_53.tr hF_94).mono rfl), (by simp only [fe_123, mz_42, true_and, and_true, or_true, true_or, false_or, or_false, false_and, and_false, not_true_eq_false, not_false_eq_true] <;> first | omega | (simp only [Int32.lt_iff_toInt_lt, Int32.le_iff_toInt_le, Int32.reduceToInt, ← Int32.toInt_inj, true_and, and_true, or_true, true_or, false_or, or_false, false_and, and_false, not_true_eq_false, not_false_eq_true] <;> omega)), (by simp only [fe_124, fe_125, fe_126, mz_41, true_and, and_true, or_true, true_or, false_or, or_false, false_and, and_false, not_true_eq_false, not_false_eq_true] <;> first | omega | (simp only [Int32.lt_iff_toInt_lt, Int32.le_iff_toInt_le, Int32.reduceToInt, ← Int32.toInt_inj, true_and, and_true, or_true, true_or, false_or, or_false, false_and, and_false, not_true_eq_false, not_false_eq_true] <;> omega)), (by simp only [fe_127, fe_128, fe_129, fe_130, true_and, and_true, or_true, true_or, false_or, or_false, false_and, and_false, not_true_eq_false, not_false_eq_true] <;> first | omega | (simp only [Int32.lt_iff_toInt_lt, Int32.le_iff_toInt_le, Int32.reduceToInt, ← Int32.toInt_inj, true_and, and_true, or_true, true_or, false_or, or_false, false_and, and_false, not_true_eq_false, not_false_eq_true] <;> omega)), (by simp only [fe_131, true_and, and_true, or_true, true_or, false_or, or_false, false_and, and_false, not_true_eq_false, not_false_eq_true] <;> first | omega | (simp only [Int32.lt_iff_toInt_lt, Int32.le_iff_toInt_le, Int32.reduceToInt, ← Int32.toInt_inj, true_and, and_true, or_true, true_or, false_or, or_false, false_and, and_false, not_true_eq_false, not_false_eq_true] <;> omega)), (by simp only [fe_132, mz_43, true_and, and_true, or_true, true_or, false_or, or_false, false_and, and_false, not_true_eq_false, not_false_eq_true] <;> first | omega | (simp only [Int32.lt_iff_toInt_lt, Int32.le_iff_toInt_le, Int32.reduceToInt, ← Int32.toInt_inj, true_and, and_true, or_true, true_or, false_or, or_false, false_and, and_false, not_true_eq_false, not_false_eq_true] <;> omega)), (by simp only [fe_133, fe_134, fe_135, fe_136, mz_41, mz_42, true_and, and_true, or_true, true_or, false_or, or_false, false_and, and_false, not_true_eq_false, not_false_eq_true] <;> first | omega | (simp only [Int32.lt_iff_toInt_lt, Int32.le_iff_toInt_le, Int32.reduceToInt, ← Int32.toInt_inj, true_and, and_true, or_true, true_or, false_or, or_false, false_and, and_false, not_true_eq_false, not_false_eq_true] <;> omega))⟩
set_option maxRecDepth 100000 in
set_option maxHeartbeats 8000000 in
theorem p_X12_readLoss {l : Launch} {E : Ez} {L : List Nat} {f : Nat → va_E} {T : Nat → va_E → Prop} {a_0 : Nat} {q : Nat → Nat} {g_f : Nat → Int32} (hW : WT T L f) (k_0 : isM T L E a_0 q) (e_f : f (q 14) = aI E 2076 g_f) (o_f : FOK g_f) (hLB : 0 ≤ (g_f 6).toInt ∧ (g_f 6).toInt ≤ 12) (hLO : LO g_f) : CV l yX12_readLoss cX12_readLoss 4 8 0 0 E [.ref a_0] L f (fun L1 f1 => L = L1 ∧ WT T L f1 ∧ FR [12, 2176] f f1 ∧ (∃ g9 : Nat → Int32, f1 (q 14) = aI E 2076 g9 ∧ FOK g9 ∧ (0 ≤ (g9 6).toInt ∧ (g9 6).toInt ≤ 12) ∧ (¬ fld (f1 a_0) 12 = 0 ∨ LO g9)) ∧ (¬ fld (f1 a_0) 12 = 0 ∨ (fld (f a_0) 12 = 0 ∧ fld (f a_0) 8 < fld (f1 a_0) 8))) := by
  refine cv_of (by decide) (Nat.le_of_ble_eq_true rfl) (fun z hz hnm hC hR => ?_)
  have hC : Cx z E cX12_readLoss RX12 4 8 0 0 := hC
  subst hz
  show V z E 4 0 0 L f 0 [(0, .ref a_0)] []
  obtain ⟨m_1, t_2, nq_21, k_3, k_4, k_5, k_6, k_7, k_8, k_9, k_10, k_11, k_12, k_13, k_14, k_15, k_16, k_17, k_18, k_19, k_20⟩ := id k_0
  obtain ⟨m_22, t_23⟩ := id k_8
  obtain ⟨v_25, v_26, v_27, v_28, v_29, v_30, v_31, v_32, v_33, v_34, v_35, e_24, -, -, -, -, -, -, -⟩ := hW.at m_1 t_2
  have mz_36 : fld (f a_0) 8 = v_28.toInt := by rw [e_24]; rfl
  have mz_37 : fld (f a_0) 12 = v_32.toInt := by rw [e_24]; rfl
  refine v_sipush hC dX12_readLoss_0 (v := 1012) (by decide) ?_
  refine v_iconst hC dX12_readLoss_3 (v := 3) (by decide) ?_
  refine v_aload_n hC dX12_readLoss_4 rfl ?_
  refine v_get hC fl_X12_34 m_1 e_24 rfl dX12_readLoss_5 ?_
  refine v_bipush hC dX12_readLoss_8 (v := 6) (by decide) ?_
  refine v_iald hC m_22 e_f (vp_in_iff.mpr (by decide)) (v := g_f 6) rfl dX12_readLoss_10 ?_
  obtain ⟨v_38, h_39⟩ : ∃ v9 : Int32, (3 : Int32) * (g_f 6) = v9 := ⟨_, rfl⟩
  refine v_imul hC dX12_readLoss_11 h_39 ?_
  have h_40 := mul_v 3 12 36 h_39 (by decide) (by first | omega | (simp only [Int32.lt_iff_toInt_lt, Int32.le_iff_toInt_le, Int32.reduceToInt, ← Int32.toInt_inj, true_and, and_true, or_true, true_or, false_or, or_false, false_and, and_false, not_true_eq_false, not_false_eq_true] <;> omega)) (by decide) (by decide)
  try simp only [Int32.reduceToInt] at h_40
  obtain ⟨v_41, h_42⟩ : ∃ v9 : Int32, (1012 : Int32) + v_38 = v9 := ⟨_, rfl⟩
  refine v_iadd hC dX12_readLoss_12 h_42 ?_
  have h_43 := add_v h_42 (by first | omega | (simp only [Int32.lt_iff_toInt_lt, Int32.le_iff_toInt_le, Int32.reduceToInt, ← Int32.toInt_inj, true_and, and_true, or_true, true_or, false_or, or_false, false_and, and_false, not_true_eq_false, not_false_eq_true] <;> omega)) (by first | omega | (simp only [Int32.lt_iff_toInt_lt, Int32.le_iff_toInt_le, Int32.reduceToInt, ← Int32.toInt_inj, true_and, and_true, or_true, true_or, false_or, or_false, false_and, and_false, not_true_eq_false, not_false_eq_true] <;> omega))
  try simp only [Int32.reduceToInt] at h_43
  refine v_istore_n hC dX12_readLoss_13 (by decide) (lv' := [(1, .int v_41), (0, .ref a_0)]) rfl ?_
  refine v_aload_n hC dX12_readLoss_14 rfl ?_
  refine v_ldcwS hC sr_X12_287 dX12_readLoss_15 ?_
  refine v_vi hC (rest := []) m_1 e_24 rfl mi_X12_is ms_X12_is (p_X12_is hW k_0 (by decide)) mx_X12_is ml_X12_152 (by decide) rfl (cells1 := 0) (slots1 := 0) (by decide) (by decide) (Nat.le_of_ble_eq_true rfl) (Nat.le_of_ble_eq_true rfl) rfl (Nat.le_of_ble_eq_true rfl) dX12_readLoss_18 (fun r_44 L_45 f_46 h_47 => ?_)
  obtain ⟨rfl, rfl, rfl⟩ := h_47
  have jn_65 : ∀ (v_66 : Int32) (b_67 : (0 ≤ v_66.toInt ∧ v_66.toInt ≤ 1)), V z E 4 0 0 L f 49 [(1, .int v_41), (0, .ref a_0)] [.int v_66] := by
    intro v_66 b_67
    refine v_istore_n hC dX12_readLoss_49 (by decide) (lv' := [(2, .int v_66), (1, .int v_41), (0, .ref a_0)]) rfl ?_
    refine v_iload_n hC dX12_readLoss_50 rfl ?_
    refine v_if_ne hC dX12_readLoss_51 (tgt := 59) (by decide) (fun h_68 => ?_) (fun h_68 => ?_)
    · simp only [Int32.lt_iff_toInt_lt, Int32.le_iff_toInt_le, Int32.reduceToInt, ← Int32.toInt_inj] at h_68
      have nb_69 : (1 ≤ v_66.toInt ∧ v_66.toInt ≤ 1) := by omega
      refine v_iload_n hC dX12_readLoss_59 rfl ?_
      refine v_if_eq_f hC dX12_readLoss_60 (tgt := 80) (by decide) (by first | omega | (simp only [Int32.lt_iff_toInt_lt, Int32.le_iff_toInt_le, Int32.reduceToInt, ← Int32.toInt_inj, true_and, and_true, or_true, true_or, false_or, or_false, false_and, and_false, not_true_eq_false, not_false_eq_true] <;> omega)) ?_
      refine v_aload_n hC dX12_readLoss_63 rfl ?_
      refine v_get hC fl_X12_34 m_1 e_24 rfl dX12_readLoss_64 ?_
      refine v_bipush hC dX12_readLoss_67 (v := 6) (by decide) ?_
      refine v_iald hC m_22 e_f (vp_in_iff.mpr (by decide)) (v := g_f 6) rfl dX12_readLoss_69 ?_
      refine v_bipush hC dX12_readLoss_70 (v := 12) (by decide) ?_
      refine v_icmp_ne hC dX12_readLoss_72 (tgt := 80) (by decide) (fun h_70 => ?_) (fun h_70 => ?_)
      · simp only [Int32.lt_iff_toInt_lt, Int32.le_iff_toInt_le, Int32.reduceToInt, ← Int32.toInt_inj] at h_70
        have nb_71 : (0 ≤ (g_f 6).toInt ∧ (g_f 6).toInt ≤ 11) := by omega
        refine v_aload_n hC dX12_readLoss_80 rfl ?_
        refine v_vi hC (rest := []) m_1 e_24 rfl mi_X12_good ms_X12_good (p_X12_good hW k_0) mx_X12_good ml_X12_139 (by decide) rfl (cells1 := 0) (slots1 := 0) (by decide) (by decide) (Nat.le_of_ble_eq_true rfl) (Nat.le_of_ble_eq_true rfl) rfl (Nat.le_of_ble_eq_true rfl) dX12_readLoss_81 (fun r_72 L_73 f_74 h_75 => ?_)
        obtain ⟨rfl, rfl, b_76, x_77⟩ := h_75
        have fe_80 : fld (f a_0) 12 = (v_32 : Int32).toInt := by rw [e_24]; rfl
        rw [fe_80] at x_77
        clear fe_80
        try simp only [Int32.reduceToInt, Int64.reduceToInt] at x_77
        refine v_if_ne hC dX12_readLoss_84 (tgt := 88) (by decide) (fun h_81 => ?_) (fun h_81 => ?_)
        · simp only [Int32.lt_iff_toInt_lt, Int32.le_iff_toInt_le, Int32.reduceToInt, ← Int32.toInt_inj] at h_81
          have nb_82 : (1 ≤ r_72.toInt ∧ r_72.toInt ≤ 1) := by omega
          have g0_83 := gd_t x_77 h_81
          clear x_77
          refine v_aload_n hC dX12_readLoss_88 rfl ?_
          refine v_ldcwS hC sr_X12_287 dX12_readLoss_89 ?_
          refine v_vi hC (rest := []) m_1 e_24 rfl mi_X12_takes ms_X12_takes (p_X12_takes hW k_0 (by decide)) mx_X12_takes ml_X12_159 (by decide) rfl (cells1 := 0) (slots1 := 0) (by decide) (by decide) (Nat.le_of_ble_eq_true rfl) (Nat.le_of_ble_eq_true rfl) rfl (Nat.le_of_ble_eq_true rfl) dX12_readLoss_92 (fun r_85 L_86 f_87 h_88 => ?_)
          obtain ⟨rfl, hW_92, hF_93, rfl, x_89, x_90, x_91, -⟩ := h_88
          have fe_94 : fld (f a_0) 8 = (v_28 : Int32).toInt := by rw [e_24]; rfl
          have fe_95 : fld (f a_0) 9 = (v_29 : Int32).toInt := by rw [e_24]; rfl
          have fe_96 : fld (f a_0) 10 = (v_30 : Int32).toInt := by rw [e_24]; rfl
          have fe_97 : fld (f a_0) 12 = (v_32 : Int32).toInt := by rw [e_24]; rfl
          have hf_98 := hF_93.at e_f rfl
          obtain ⟨v_100, v_101, v_102, v_103, v_104, v_105, v_106, v_107, v_108, v_109, v_110, e_99, -, -, -, -, -, -, -⟩ := hW_92.at m_1 t_2
          have fe_111 : fld (f_87 a_0) 8 = (v_103 : Int32).toInt := by rw [e_99]; rfl
          have fe_112 : fld (f_87 a_0) 9 = (v_104 : Int32).toInt := by rw [e_99]; rfl
          have fe_113 : fld (f_87 a_0) 10 = (v_105 : Int32).toInt := by rw [e_99]; rfl
          have fe_114 : fld (f_87 a_0) 12 = (v_107 : Int32).toInt := by rw [e_99]; rfl
          rw [fe_94, fe_112, fe_111, fe_113] at x_89
          rw [fe_111, fe_94, fe_112, fe_95, fe_113, fe_96] at x_90
          rw [fe_114, fe_97] at x_91
          have g0_115 := x_91.trans g0_83
          clear fe_94 fe_95 fe_96 fe_97 fe_111 fe_112 fe_113 fe_114
          try simp only [Int32.reduceToInt, Int64.reduceToInt] at x_89
          try simp only [Int32.reduceToInt, Int64.reduceToInt] at x_90
          try simp only [Int32.reduceToInt, Int64.reduceToInt] at x_91
          refine v_if_eq hC dX12_readLoss_95 (tgt := 193) (by decide) (fun h_116 => ?_) (fun h_116 => ?_)
          · simp only [Int32.lt_iff_toInt_lt, Int32.le_iff_toInt_le, Int32.reduceToInt, ← Int32.toInt_inj] at h_116
            refine v_aload_n hC dX12_readLoss_193 rfl ?_
            refine v_ldcwS hC sr_X12_289 dX12_readLoss_194 ?_
            refine v_vi hC (rest := []) m_1 e_99 rfl mi_X12_takes ms_X12_takes (p_X12_takes hW_92 k_0 (by decide)) mx_X12_takes ml_X12_159 (by decide) rfl (cells1 := 0) (slots1 := 0) (by decide) (by decide) (Nat.le_of_ble_eq_true rfl) (Nat.le_of_ble_eq_true rfl) rfl (Nat.le_of_ble_eq_true rfl) dX12_readLoss_197 (fun r_117 L_118 f_119 h_120 => ?_)
            obtain ⟨rfl, hW_124, hF_125, rfl, x_121, x_122, x_123, -⟩ := h_120
            have fe_126 : fld (f_87 a_0) 8 = (v_103 : Int32).toInt := by rw [e_99]; rfl
            have fe_127 : fld (f_87 a_0) 9 = (v_104 : Int32).toInt := by rw [e_99]; rfl
            have fe_128 : fld (f_87 a_0) 10 = (v_105 : Int32).toInt := by rw [e_99]; rfl
            have fe_129 : fld (f_87 a_0) 12 = (v_107 : Int32).toInt := by rw [e_99]; rfl
            have hf_130 := hF_125.at hf_98 rfl
            obtain ⟨v_132, v_133, v_134, v_135, v_136, v_137, v_138, v_139, v_140, v_141, v_142, e_131, -, -, -, -, -, -, -⟩ := hW_124.at m_1 t_2
            have fe_143 : fld (f_119 a_0) 8 = (v_135 : Int32).toInt := by rw [e_131]; rfl
            have fe_144 : fld (f_119 a_0) 9 = (v_136 : Int32).toInt := by rw [e_131]; rfl
            have fe_145 : fld (f_119 a_0) 10 = (v_137 : Int32).toInt := by rw [e_131]; rfl
            have fe_146 : fld (f_119 a_0) 12 = (v_139 : Int32).toInt := by rw [e_131]; rfl
            rw [fe_126, fe_144, fe_143, fe_145] at x_121
            rw [fe_143, fe_126, fe_144, fe_127, fe_145, fe_128] at x_122
            rw [fe_146, fe_129] at x_123
            have g0_147 := x_123.trans g0_115
            clear fe_126 fe_127 fe_128 fe_129 fe_143 fe_144 fe_145 fe_146
            try simp only [Int32.reduceToInt, Int64.reduceToInt] at x_121
            try simp only [Int32.reduceToInt, Int64.reduceToInt] at x_122
            try simp only [Int32.reduceToInt, Int64.reduceToInt] at x_123
            refine v_if_eq hC dX12_readLoss_200 (tgt := 247) (by decide) (fun h_148 => ?_) (fun h_148 => ?_)
            · simp only [Int32.lt_iff_toInt_lt, Int32.le_iff_toInt_le, Int32.reduceToInt, ← Int32.toInt_inj] at h_148
              refine v_aload_n hC dX12_readLoss_247 rfl ?_
              refine v_vv hC (rest := []) m_1 e_131 rfl mi_X12_advance ms_X12_advance (p_X12_advance hW_124 k_0) mx_X12_advance ml_X12_156 (by decide) rfl (cells1 := 0) (slots1 := 0) (by decide) (by decide) (Nat.le_of_ble_eq_true rfl) (Nat.le_of_ble_eq_true rfl) rfl (Nat.le_of_ble_eq_true rfl) dX12_readLoss_248 (fun L_150 f_151 h_152 => ?_)
              obtain ⟨rfl, hW_156, hF_157, x_153, x_154, x_155, -⟩ := h_152
              have fe_158 : fld (f_119 a_0) 8 = (v_135 : Int32).toInt := by rw [e_131]; rfl
              have fe_159 : fld (f_119 a_0) 12 = (v_139 : Int32).toInt := by rw [e_131]; rfl
              have hf_160 := hF_157.at hf_130 rfl
              obtain ⟨v_162, v_163, v_164, v_165, v_166, v_167, v_168, v_169, v_170, v_171, v_172, e_161, -, -, -, -, -, -, -⟩ := hW_156.at m_1 t_2
              have fe_173 : fld (f_151 a_0) 8 = (v_165 : Int32).toInt := by rw [e_161]; rfl
              have fe_174 : fld (f_151 a_0) 9 = (v_166 : Int32).toInt := by rw [e_161]; rfl
              have fe_175 : fld (f_151 a_0) 10 = (v_167 : Int32).toInt := by rw [e_161]; rfl
              have fe_176 : fld (f_151 a_0) 12 = (v_169 : Int32).toInt := by rw [e_161]; rfl
              rw [fe_158, fe_174, fe_173] at x_153
              rw [fe_175, fe_174, fe_173] at x_154
              rw [fe_176, fe_159] at x_155
              have g0_177 := x_155.trans g0_147
              clear fe_158 fe_159 fe_173 fe_174 fe_175 fe_176
              refine v_aload_n hC dX12_readLoss_251 rfl ?_
              refine v_get hC fl_X12_34 m_1 e_161 rfl dX12_readLoss_252 ?_
              refine v_iload_n hC dX12_readLoss_255 rfl ?_
              refine v_iconst hC dX12_readLoss_256 (v := 3) (by decide) ?_
              refine v_iast hC m_22 hf_160 (vp_in_iff.mpr (by first | omega | (simp only [Int32.lt_iff_toInt_lt, Int32.le_iff_toInt_le, Int32.reduceToInt, ← Int32.toInt_inj, true_and, and_true, or_true, true_or, false_or, or_false, false_and, and_false, not_true_eq_false, not_false_eq_true] <;> omega))) dX12_readLoss_257 (fun f_178 hf_179 hk_180 => ?_)
              have hW_182 := hW_156.up hf_179 hk_180 t_23 ⟨_, rfl, (o_f.up (by first | omega | (simp only [Int32.lt_iff_toInt_lt, Int32.le_iff_toInt_le, Int32.reduceToInt, ← Int32.toInt_inj, true_and, and_true, or_true, true_or, false_or, or_false, false_and, and_false, not_true_eq_false, not_false_eq_true] <;> omega)) (fun q1 q2 => (by first | omega | (simp only [Int32.lt_iff_toInt_lt, Int32.le_iff_toInt_le, Int32.reduceToInt, ← Int32.toInt_inj] at *; omega))) (fun k9 q1 q2 q3 => (by first | omega | (simp only [Int32.lt_iff_toInt_lt, Int32.le_iff_toInt_le, Int32.reduceToInt, ← Int32.toInt_inj] at *; omega))))⟩
              obtain ⟨g_181, hf_179, ok_183, eg_184⟩ : ∃ g9, f_178 (q 14) = aI E 2076 g9 ∧ FOK g9 ∧ g9 = upd g_f (v_41 : Int32).toNatClampNeg 3 := ⟨_, hf_179, (o_f.up (by first | omega | (simp only [Int32.lt_iff_toInt_lt, Int32.le_iff_toInt_le, Int32.reduceToInt, ← Int32.toInt_inj, true_and, and_true, or_true, true_or, false_or, or_false, false_and, and_false, not_true_eq_false, not_false_eq_true] <;> omega)) (fun q1 q2 => (by first | omega | (simp only [Int32.lt_iff_toInt_lt, Int32.le_iff_toInt_le, Int32.reduceToInt, ← Int32.toInt_inj] at *; omega))) (fun k9 q1 q2 q3 => (by first | omega | (simp only [Int32.lt_iff_toInt_lt, Int32.le_iff_toInt_le, Int32.reduceToInt, ← Int32.toInt_inj] at *; omega)))), rfl⟩
              have hf_185 := (hk_180 a_0 (ne_kd e_161 hf_160 rfl)).trans e_161
              have fr_186 := FR.w hk_180 hf_160 (k := 2176) rfl
              have lk_187 := lk_at (g0 := g_f) eg_184 (by omega) (by omega)
              have ag_188 := (AG.rf o_f).st eg_184 (by omega) (by omega)
              try simp only [Int32.reduceToInt] at lk_187
              refine v_aload_n hC dX12_readLoss_258 rfl ?_
              refine v_vv hC (rest := []) m_1 hf_185 rfl mi_X12_ends ms_X12_ends (p_X12_ends hW_182 k_0) mx_X12_ends ml_X12_178 (by decide) rfl (cells1 := 0) (slots1 := 0) (by decide) (by decide) (Nat.le_of_ble_eq_true rfl) (Nat.le_of_ble_eq_true rfl) rfl (Nat.le_of_ble_eq_true rfl) dX12_readLoss_259 (fun L_190 f_191 h_192 => ?_)
              obtain ⟨rfl, hW_194, hF_195, -, -, -, -, x_193⟩ := h_192
              have fe_196 : fld (f_178 a_0) 8 = (v_165 : Int32).toInt := by rw [hf_185]; rfl
              have fe_197 : fld (f_178 a_0) 10 = (v_167 : Int32).toInt := by rw [hf_185]; rfl
              have fe_198 : fld (f_178 a_0) 12 = (v_169 : Int32).toInt := by rw [hf_185]; rfl
              have hf_199 := hF_195.at hf_179 rfl
              obtain ⟨v_201, v_202, v_203, v_204, v_205, v_206, v_207, v_208, v_209, v_210, v_211, e_200, -, -, -, -, -, -, -⟩ := hW_194.at m_1 t_2
              have fe_212 : fld (f_191 a_0) 8 = (v_204 : Int32).toInt := by rw [e_200]; rfl
              have fe_213 : fld (f_191 a_0) 9 = (v_205 : Int32).toInt := by rw [e_200]; rfl
              have fe_214 : fld (f_191 a_0) 10 = (v_206 : Int32).toInt := by rw [e_200]; rfl
              have fe_215 : fld (f_191 a_0) 12 = (v_208 : Int32).toInt := by rw [e_200]; rfl
              rw [fe_215, fe_198, fe_197, fe_196, fe_213, fe_212, fe_214] at x_193
              clear fe_196 fe_197 fe_198 fe_212 fe_213 fe_214 fe_215
              refine v_aload_n hC dX12_readLoss_262 rfl ?_
              refine v_get hC fl_X12_34 m_1 e_200 rfl dX12_readLoss_263 ?_
              refine v_bipush hC dX12_readLoss_266 (v := 6) (by decide) ?_
              refine v_dup2 hC dX12_readLoss_268 rfl rfl ?_
              have l6_216 : (g_181 6).toInt = (g_f 6).toInt := congrArg Int32.toInt ag_188.2.1
              refine v_iald hC m_22 hf_199 (vp_in_iff.mpr (by decide)) (v := g_181 6) rfl dX12_readLoss_269 ?_
              refine v_iconst hC dX12_readLoss_270 (v := 1) (by decide) ?_
              obtain ⟨v_217, h_218⟩ : ∃ v9 : Int32, (g_181 6) + 1 = v9 := ⟨_, rfl⟩
              refine v_iadd hC dX12_readLoss_271 h_218 ?_
              have h_219 := add_v h_218 (by first | omega | (simp only [Int32.lt_iff_toInt_lt, Int32.le_iff_toInt_le, Int32.reduceToInt, ← Int32.toInt_inj, true_and, and_true, or_true, true_or, false_or, or_false, false_and, and_false, not_true_eq_false, not_false_eq_true] <;> omega)) (by first | omega | (simp only [Int32.lt_iff_toInt_lt, Int32.le_iff_toInt_le, Int32.reduceToInt, ← Int32.toInt_inj, true_and, and_true, or_true, true_or, false_or, or_false, false_and, and_false, not_true_eq_false, not_false_eq_true] <;> omega))
              try simp only [Int32.reduceToInt] at h_219
              refine v_iast hC m_22 hf_199 (vp_in_iff.mpr (by decide)) dX12_readLoss_272 (fun f_220 hf_221 hk_222 => ?_)
              have hW_224 := hW_194.up hf_221 hk_222 t_23 ⟨_, rfl, (ok_183.up (i := 6) (by decide) (fun q1 q2 => absurd (And.intro q1 q2) (by decide)) (fun k9 q1 q2 q3 => by simp only [Int32.reduceToInt] at q3; omega))⟩
              obtain ⟨g_223, hf_221, ok_225, eg_226⟩ : ∃ g9, f_220 (q 14) = aI E 2076 g9 ∧ FOK g9 ∧ g9 = upd g_181 (6 : Int32).toNatClampNeg v_217 := ⟨_, hf_221, (ok_183.up (i := 6) (by decide) (fun q1 q2 => absurd (And.intro q1 q2) (by decide)) (fun k9 q1 q2 q3 => by simp only [Int32.reduceToInt] at q3; omega)), rfl⟩
              have hf_227 := (hk_222 a_0 (ne_kd e_200 hf_199 rfl)).trans e_200
              have fr_228 := FR.w hk_222 hf_199 (k := 2176) rfl
              have ln6_229 := FOK.n6 ag_188.1 eg_226
              have ln6_229_t : (g_223 6).toInt = v_217.toInt := congrArg Int32.toInt ln6_229.2
              have fe_230 : fld (f_220 a_0) 12 = (v_208 : Int32).toInt := by rw [hf_227]; rfl
              have fe_232 : fld (f_220 a_0) 8 = (v_204 : Int32).toInt := by rw [hf_227]; rfl
              have fe_233 : fld (f_220 a_0) 12 = (v_208 : Int32).toInt := by rw [hf_227]; rfl
              exact hR _ _ _ _ _ _ dX12_readLoss_273 (Nat.le_of_ble_eq_true rfl) (Nat.le_of_ble_eq_true rfl) ⟨rfl, hW_224, ((((((hF_93.tr hF_125).tr hF_157).tr fr_186).tr hF_195).tr fr_228).mono rfl), ⟨_, hf_221, ln6_229.1, (by omega), (by rw [fe_230]; by_cases q9 : v_208.toInt = 0; have gp_231 := x_193.resolve_left (fun h9 => h9 q9); clear x_193; exact .inr (LO.fin hLO ag_188 eg_226 (by omega) (by omega) (fun q8 => by omega)); exact .inl q9)⟩, (by simp only [fe_232, fe_233, mz_36, mz_37]; by_cases q9 : (v_208 : Int32).toInt = 0; have gp_234 := x_193.resolve_left (fun h9 => h9 q9); clear x_193; (right; omega); exact .inl q9)⟩
            · simp only [Int32.lt_iff_toInt_lt, Int32.le_iff_toInt_le, Int32.reduceToInt, ← Int32.toInt_inj] at h_148
              refine v_aload_n hC dX12_readLoss_203 rfl ?_
              refine v_get hC fl_X12_34 m_1 e_131 rfl dX12_readLoss_204 ?_
              refine v_iload_n hC dX12_readLoss_207 rfl ?_
              refine v_iconst hC dX12_readLoss_208 (v := 2) (by decide) ?_
              refine v_iast hC m_22 hf_130 (vp_in_iff.mpr (by first | omega | (simp only [Int32.lt_iff_toInt_lt, Int32.le_iff_toInt_le, Int32.reduceToInt, ← Int32.toInt_inj, true_and, and_true, or_true, true_or, false_or, or_false, false_and, and_false, not_true_eq_false, not_false_eq_true] <;> omega))) dX12_readLoss_209 (fun f_235 hf_236 hk_237 => ?_)
              have hW_239 := hW_124.up hf_236 hk_237 t_23 ⟨_, rfl, (o_f.up (by first | omega | (simp only [Int32.lt_iff_toInt_lt, Int32.le_iff_toInt_le, Int32.reduceToInt, ← Int32.toInt_inj, true_and, and_true, or_true, true_or, false_or, or_false, false_and, and_false, not_true_eq_false, not_false_eq_true] <;> omega)) (fun q1 q2 => (by first | omega | (simp only [Int32.lt_iff_toInt_lt, Int32.le_iff_toInt_le, Int32.reduceToInt, ← Int32.toInt_inj] at *; omega))) (fun k9 q1 q2 q3 => (by first | omega | (simp only [Int32.lt_iff_toInt_lt, Int32.le_iff_toInt_le, Int32.reduceToInt, ← Int32.toInt_inj] at *; omega))))⟩
              obtain ⟨g_238, hf_236, ok_240, eg_241⟩ : ∃ g9, f_235 (q 14) = aI E 2076 g9 ∧ FOK g9 ∧ g9 = upd g_f (v_41 : Int32).toNatClampNeg 2 := ⟨_, hf_236, (o_f.up (by first | omega | (simp only [Int32.lt_iff_toInt_lt, Int32.le_iff_toInt_le, Int32.reduceToInt, ← Int32.toInt_inj, true_and, and_true, or_true, true_or, false_or, or_false, false_and, and_false, not_true_eq_false, not_false_eq_true] <;> omega)) (fun q1 q2 => (by first | omega | (simp only [Int32.lt_iff_toInt_lt, Int32.le_iff_toInt_le, Int32.reduceToInt, ← Int32.toInt_inj] at *; omega))) (fun k9 q1 q2 q3 => (by first | omega | (simp only [Int32.lt_iff_toInt_lt, Int32.le_iff_toInt_le, Int32.reduceToInt, ← Int32.toInt_inj] at *; omega)))), rfl⟩
              have hf_242 := (hk_237 a_0 (ne_kd e_131 hf_130 rfl)).trans e_131
              have fr_243 := FR.w hk_237 hf_130 (k := 2176) rfl
              have lk_244 := lk_at (g0 := g_f) eg_241 (by omega) (by omega)
              have ag_245 := (AG.rf o_f).st eg_241 (by omega) (by omega)
              try simp only [Int32.reduceToInt] at lk_244
              refine v_aload_n hC dX12_readLoss_210 rfl ?_
              refine v_get hC fl_X12_34 m_1 hf_242 rfl dX12_readLoss_211 ?_
              refine v_iload_n hC dX12_readLoss_214 rfl ?_
              refine v_iconst hC dX12_readLoss_215 (v := 1) (by decide) ?_
              obtain ⟨v_246, h_247⟩ : ∃ v9 : Int32, v_41 + 1 = v9 := ⟨_, rfl⟩
              refine v_iadd hC dX12_readLoss_216 h_247 ?_
              have h_248 := add_v h_247 (by first | omega | (simp only [Int32.lt_iff_toInt_lt, Int32.le_iff_toInt_le, Int32.reduceToInt, ← Int32.toInt_inj, true_and, and_true, or_true, true_or, false_or, or_false, false_and, and_false, not_true_eq_false, not_false_eq_true] <;> omega)) (by first | omega | (simp only [Int32.lt_iff_toInt_lt, Int32.le_iff_toInt_le, Int32.reduceToInt, ← Int32.toInt_inj, true_and, and_true, or_true, true_or, false_or, or_false, false_and, and_false, not_true_eq_false, not_false_eq_true] <;> omega))
              try simp only [Int32.reduceToInt] at h_248
              refine v_aload_n hC dX12_readLoss_217 rfl ?_
              refine v_iconst hC dX12_readLoss_218 (v := 1) (by decide) ?_
              refine v_bipush hC dX12_readLoss_219 (v := 99) (by decide) ?_
              refine v_vi hC (rest := [.int v_246, .ref (q 14)]) m_1 hf_242 rfl mi_X12_number ms_X12_number (p_X12_number hW_239 k_0) mx_X12_number ml_X12_170 (by decide) rfl (cells1 := 0) (slots1 := 0) (by decide) (by decide) (Nat.le_of_ble_eq_true rfl) (Nat.le_of_ble_eq_true rfl) rfl (Nat.le_of_ble_eq_true rfl) dX12_readLoss_221 (fun r_249 L_250 f_251 h_252 => ?_)
              obtain ⟨rfl, hW_254, hF_255, -, -, -, -, -, x_253⟩ := h_252
              have fe_256 : fld (f_235 a_0) 8 = (v_135 : Int32).toInt := by rw [hf_242]; rfl
              have fe_257 : fld (f_235 a_0) 10 = (v_137 : Int32).toInt := by rw [hf_242]; rfl
              have fe_258 : fld (f_235 a_0) 12 = (v_139 : Int32).toInt := by rw [hf_242]; rfl
              have hf_259 := hF_255.at hf_236 rfl
              obtain ⟨v_261, v_262, v_263, v_264, v_265, v_266, v_267, v_268, v_269, v_270, v_271, e_260, -, -, -, -, -, -, -⟩ := hW_254.at m_1 t_2
              have fe_272 : fld (f_251 a_0) 8 = (v_264 : Int32).toInt := by rw [e_260]; rfl
              have fe_273 : fld (f_251 a_0) 9 = (v_265 : Int32).toInt := by rw [e_260]; rfl
              have fe_274 : fld (f_251 a_0) 10 = (v_266 : Int32).toInt := by rw [e_260]; rfl
              have fe_275 : fld (f_251 a_0) 12 = (v_268 : Int32).toInt := by rw [e_260]; rfl
              rw [fe_275, fe_258, fe_257, fe_256, fe_273, fe_272, fe_274] at x_253
              clear fe_256 fe_257 fe_258 fe_272 fe_273 fe_274 fe_275
              try simp only [Int32.reduceToInt, Int64.reduceToInt] at x_253
              refine v_iast hC m_22 hf_259 (vp_in_iff.mpr (by first | omega | (simp only [Int32.lt_iff_toInt_lt, Int32.le_iff_toInt_le, Int32.reduceToInt, ← Int32.toInt_inj, true_and, and_true, or_true, true_or, false_or, or_false, false_and, and_false, not_true_eq_false, not_false_eq_true] <;> omega))) dX12_readLoss_224 (fun f_276 hf_277 hk_278 => ?_)
              have hW_280 := hW_254.up hf_277 hk_278 t_23 ⟨_, rfl, (ok_240.up (by first | omega | (simp only [Int32.lt_iff_toInt_lt, Int32.le_iff_toInt_le, Int32.reduceToInt, ← Int32.toInt_inj, true_and, and_true, or_true, true_or, false_or, or_false, false_and, and_false, not_true_eq_false, not_false_eq_true] <;> omega)) (fun q1 q2 => (by first | omega | (simp only [Int32.lt_iff_toInt_lt, Int32.le_iff_toInt_le, Int32.reduceToInt, ← Int32.toInt_inj] at *; omega))) (fun k9 q1 q2 q3 => (by first | omega | (simp only [Int32.lt_iff_toInt_lt, Int32.le_iff_toInt_le, Int32.reduceToInt, ← Int32.toInt_inj] at *; omega))))⟩
              obtain ⟨g_279, hf_277, ok_281, eg_282⟩ : ∃ g9, f_276 (q 14) = aI E 2076 g9 ∧ FOK g9 ∧ g9 = upd g_238 (v_246 : Int32).toNatClampNeg r_249 := ⟨_, hf_277, (ok_240.up (by first | omega | (simp only [Int32.lt_iff_toInt_lt, Int32.le_iff_toInt_le, Int32.reduceToInt, ← Int32.toInt_inj, true_and, and_true, or_true, true_or, false_or, or_false, false_and, and_false, not_true_eq_false, not_false_eq_true] <;> omega)) (fun q1 q2 => (by first | omega | (simp only [Int32.lt_iff_toInt_lt, Int32.le_iff_toInt_le, Int32.reduceToInt, ← Int32.toInt_inj] at *; omega))) (fun k9 q1 q2 q3 => (by first | omega | (simp only [Int32.lt_iff_toInt_lt, Int32.le_iff_toInt_le, Int32.reduceToInt, ← Int32.toInt_inj] at *; omega)))), rfl⟩
              have hf_283 := (hk_278 a_0 (ne_kd e_260 hf_259 rfl)).trans e_260
              have fr_284 := FR.w hk_278 hf_259 (k := 2176) rfl
              have lk_285 := lf_at (g0 := g_f) eg_282 (by omega) (by omega)
              have ag_286 := ag_245.st eg_282 (by omega) (by omega)
              try simp only [Int32.reduceToInt] at lk_285
              refine v_aload_n hC dX12_readLoss_225 rfl ?_
              refine v_get hC fl_X12_34 m_1 hf_283 rfl dX12_readLoss_226 ?_
              refine v_iload_n hC dX12_readLoss_229 rfl ?_
              refine v_iconst hC dX12_readLoss_230 (v := 2) (by decide) ?_
              obtain ⟨v_287, h_288⟩ : ∃ v9 : Int32, v_41 + 2 = v9 := ⟨_, rfl⟩
              refine v_iadd hC dX12_readLoss_231 h_288 ?_
              have h_289 := add_v h_288 (by first | omega | (simp only [Int32.lt_iff_toInt_lt, Int32.le_iff_toInt_le, Int32.reduceToInt, ← Int32.toInt_inj, true_and, and_true, or_true, true_or, false_or, or_false, false_and, and_false, not_true_eq_false, not_false_eq_true] <;> omega)) (by first | omega | (simp only [Int32.lt_iff_toInt_lt, Int32.le_iff_toInt_le, Int32.reduceToInt, ← Int32.toInt_inj, true_and, and_true, or_true, true_or, false_or, or_false, false_and, and_false, not_true_eq_false, not_false_eq_true] <;> omega))
              try simp only [Int32.reduceToInt] at h_289
              refine v_aload_n hC dX12_readLoss_232 rfl ?_
              refine v_ldcwS hC sr_X12_297 dX12_readLoss_233 ?_
              refine v_iconst hC dX12_readLoss_236 (v := 0) (by decide) ?_
              refine v_sipush hC dX12_readLoss_237 (v := 255) (by decide) ?_
              refine v_vi hC (rest := [.int v_287, .ref (q 14)]) m_1 hf_283 rfl mi_X12_told ms_X12_told (p_X12_told hW_280 k_0 (by decide)) mx_X12_told ml_X12_189 (by decide) rfl (cells1 := 0) (slots1 := 0) (by decide) (by decide) (Nat.le_of_ble_eq_true rfl) (Nat.le_of_ble_eq_true rfl) rfl (Nat.le_of_ble_eq_true rfl) dX12_readLoss_240 (fun r_290 L_291 f_292 h_293 => ?_)
              obtain ⟨rfl, hW_295, hF_296, -, -, -, -, -, x_294⟩ := h_293
              have fe_297 : fld (f_276 a_0) 8 = (v_264 : Int32).toInt := by rw [hf_283]; rfl
              have fe_298 : fld (f_276 a_0) 12 = (v_268 : Int32).toInt := by rw [hf_283]; rfl
              have hf_299 := hF_296.at hf_277 rfl
              obtain ⟨v_301, v_302, v_303, v_304, v_305, v_306, v_307, v_308, v_309, v_310, v_311, e_300, -, -, -, -, -, -, -⟩ := hW_295.at m_1 t_2
              have fe_312 : fld (f_292 a_0) 8 = (v_304 : Int32).toInt := by rw [e_300]; rfl
              have fe_313 : fld (f_292 a_0) 9 = (v_305 : Int32).toInt := by rw [e_300]; rfl
              have fe_314 : fld (f_292 a_0) 10 = (v_306 : Int32).toInt := by rw [e_300]; rfl
              have fe_315 : fld (f_292 a_0) 12 = (v_308 : Int32).toInt := by rw [e_300]; rfl
              rw [fe_315, fe_298, fe_297, fe_313, fe_312, fe_314] at x_294
              clear fe_297 fe_298 fe_312 fe_313 fe_314 fe_315
              try simp only [Int32.reduceToInt, Int64.reduceToInt] at x_294
              refine v_iast hC m_22 hf_299 (vp_in_iff.mpr (by first | omega | (simp only [Int32.lt_iff_toInt_lt, Int32.le_iff_toInt_le, Int32.reduceToInt, ← Int32.toInt_inj, true_and, and_true, or_true, true_or, false_or, or_false, false_and, and_false, not_true_eq_false, not_false_eq_true] <;> omega))) dX12_readLoss_243 (fun f_316 hf_317 hk_318 => ?_)
              have hW_320 := hW_295.up hf_317 hk_318 t_23 ⟨_, rfl, (ok_281.up (by first | omega | (simp only [Int32.lt_iff_toInt_lt, Int32.le_iff_toInt_le, Int32.reduceToInt, ← Int32.toInt_inj, true_and, and_true, or_true, true_or, false_or, or_false, false_and, and_false, not_true_eq_false, not_false_eq_true] <;> omega)) (fun q1 q2 => (by first | omega | (simp only [Int32.lt_iff_toInt_lt, Int32.le_iff_toInt_le, Int32.reduceToInt, ← Int32.toInt_inj] at *; omega))) (fun k9 q1 q2 q3 => (by first | omega | (simp only [Int32.lt_iff_toInt_lt, Int32.le_iff_toInt_le, Int32.reduceToInt, ← Int32.toInt_inj] at *; omega))))⟩
              obtain ⟨g_319, hf_317, ok_321, eg_322⟩ : ∃ g9, f_316 (q 14) = aI E 2076 g9 ∧ FOK g9 ∧ g9 = upd g_279 (v_287 : Int32).toNatClampNeg r_290 := ⟨_, hf_317, (ok_281.up (by first | omega | (simp only [Int32.lt_iff_toInt_lt, Int32.le_iff_toInt_le, Int32.reduceToInt, ← Int32.toInt_inj, true_and, and_true, or_true, true_or, false_or, or_false, false_and, and_false, not_true_eq_false, not_false_eq_true] <;> omega)) (fun q1 q2 => (by first | omega | (simp only [Int32.lt_iff_toInt_lt, Int32.le_iff_toInt_le, Int32.reduceToInt, ← Int32.toInt_inj] at *; omega))) (fun k9 q1 q2 q3 => (by first | omega | (simp only [Int32.lt_iff_toInt_lt, Int32.le_iff_toInt_le, Int32.reduceToInt, ← Int32.toInt_inj] at *; omega)))), rfl⟩
              have hf_323 := (hk_318 a_0 (ne_kd e_300 hf_299 rfl)).trans e_300
              have fr_324 := FR.w hk_318 hf_299 (k := 2176) rfl
              have lk_325 := l2_at (g0 := g_f) eg_322 (by omega) (by omega)
              have ag_326 := ag_286.st eg_322 (by omega) (by omega)
              try simp only [Int32.reduceToInt] at lk_325
              refine v_goto hC dX12_readLoss_244 (tgt := 258) (by decide) ?_
              refine v_aload_n hC dX12_readLoss_258 rfl ?_
              refine v_vv hC (rest := []) m_1 hf_323 rfl mi_X12_ends ms_X12_ends (p_X12_ends hW_320 k_0) mx_X12_ends ml_X12_178 (by decide) rfl (cells1 := 0) (slots1 := 0) (by decide) (by decide) (Nat.le_of_ble_eq_true rfl) (Nat.le_of_ble_eq_true rfl) rfl (Nat.le_of_ble_eq_true rfl) dX12_readLoss_259 (fun L_328 f_329 h_330 => ?_)
              obtain ⟨rfl, hW_332, hF_333, -, -, -, -, x_331⟩ := h_330
              have fe_334 : fld (f_316 a_0) 8 = (v_304 : Int32).toInt := by rw [hf_323]; rfl
              have fe_335 : fld (f_316 a_0) 10 = (v_306 : Int32).toInt := by rw [hf_323]; rfl
              have fe_336 : fld (f_316 a_0) 12 = (v_308 : Int32).toInt := by rw [hf_323]; rfl
              have hf_337 := hF_333.at hf_317 rfl
              obtain ⟨v_339, v_340, v_341, v_342, v_343, v_344, v_345, v_346, v_347, v_348, v_349, e_338, -, -, -, -, -, -, -⟩ := hW_332.at m_1 t_2
              have fe_350 : fld (f_329 a_0) 8 = (v_342 : Int32).toInt := by rw [e_338]; rfl
              have fe_351 : fld (f_329 a_0) 9 = (v_343 : Int32).toInt := by rw [e_338]; rfl
              have fe_352 : fld (f_329 a_0) 10 = (v_344 : Int32).toInt := by rw [e_338]; rfl
              have fe_353 : fld (f_329 a_0) 12 = (v_346 : Int32).toInt := by rw [e_338]; rfl
              rw [fe_353, fe_336, fe_335, fe_334, fe_351, fe_350, fe_352] at x_331
              clear fe_334 fe_335 fe_336 fe_350 fe_351 fe_352 fe_353
              refine v_aload_n hC dX12_readLoss_262 rfl ?_
              refine v_get hC fl_X12_34 m_1 e_338 rfl dX12_readLoss_263 ?_
              refine v_bipush hC dX12_readLoss_266 (v := 6) (by decide) ?_
              refine v_dup2 hC dX12_readLoss_268 rfl rfl ?_
              have l6_354 : (g_319 6).toInt = (g_f 6).toInt := congrArg Int32.toInt ag_326.2.1
              refine v_iald hC m_22 hf_337 (vp_in_iff.mpr (by decide)) (v := g_319 6) rfl dX12_readLoss_269 ?_
              refine v_iconst hC dX12_readLoss_270 (v := 1) (by decide) ?_
              obtain ⟨v_355, h_356⟩ : ∃ v9 : Int32, (g_319 6) + 1 = v9 := ⟨_, rfl⟩
              refine v_iadd hC dX12_readLoss_271 h_356 ?_
              have h_357 := add_v h_356 (by first | omega | (simp only [Int32.lt_iff_toInt_lt, Int32.le_iff_toInt_le, Int32.reduceToInt, ← Int32.toInt_inj, true_and, and_true, or_true, true_or, false_or, or_false, false_and, and_false, not_true_eq_false, not_false_eq_true] <;> omega)) (by first | omega | (simp only [Int32.lt_iff_toInt_lt, Int32.le_iff_toInt_le, Int32.reduceToInt, ← Int32.toInt_inj, true_and, and_true, or_true, true_or, false_or, or_false, false_and, and_false, not_true_eq_false, not_false_eq_true] <;> omega))
              try simp only [Int32.reduceToInt] at h_357
              refine v_iast hC m_22 hf_337 (vp_in_iff.mpr (by decide)) dX12_readLoss_272 (fun f_358 hf_359 hk_360 => ?_)
              have hW_362 := hW_332.up hf_359 hk_360 t_23 ⟨_, rfl, (ok_321.up (i := 6) (by decide) (fun q1 q2 => absurd (And.intro q1 q2) (by decide)) (fun k9 q1 q2 q3 => by simp only [Int32.reduceToInt] at q3; omega))⟩
              obtain ⟨g_361, hf_359, ok_363, eg_364⟩ : ∃ g9, f_358 (q 14) = aI E 2076 g9 ∧ FOK g9 ∧ g9 = upd g_319 (6 : Int32).toNatClampNeg v_355 := ⟨_, hf_359, (ok_321.up (i := 6) (by decide) (fun q1 q2 => absurd (And.intro q1 q2) (by decide)) (fun k9 q1 q2 q3 => by simp only [Int32.reduceToInt] at q3; omega)), rfl⟩
              have hf_365 := (hk_360 a_0 (ne_kd e_338 hf_337 rfl)).trans e_338
              have fr_366 := FR.w hk_360 hf_337 (k := 2176) rfl
              have ln6_367 := FOK.n6 ag_326.1 eg_364
              have ln6_367_t : (g_361 6).toInt = v_355.toInt := congrArg Int32.toInt ln6_367.2
              have fe_368 : fld (f_358 a_0) 12 = (v_346 : Int32).toInt := by rw [hf_365]; rfl
              have fe_372 : fld (f_358 a_0) 8 = (v_342 : Int32).toInt := by rw [hf_365]; rfl
              have fe_373 : fld (f_358 a_0) 12 = (v_346 : Int32).toInt := by rw [hf_365]; rfl
              exact hR _ _ _ _ _ _ dX12_readLoss_273 (Nat.le_of_ble_eq_true rfl) (Nat.le_of_ble_eq_true rfl) ⟨rfl, hW_362, (((((((((hF_93.tr hF_125).tr fr_243).tr hF_255).tr fr_284).tr hF_296).tr fr_324).tr hF_333).tr fr_366).mono rfl), ⟨_, hf_359, ln6_367.1, (by omega), (by rw [fe_368]; by_cases q9 : v_346.toInt = 0; have gp_369 := x_331.resolve_left (fun h9 => h9 q9); clear x_331; have gp_370 := x_294.resolve_left (fun h9 => h9 gp_369.1); clear x_294; have gp_371 := x_253.resolve_left (fun h9 => h9 gp_370.1); clear x_253; exact .inr (LO.fin hLO ag_326 eg_364 (by omega) (by omega) (fun q8 => by omega)); exact .inl q9)⟩, (by simp only [fe_372, fe_373, mz_36, mz_37]; by_cases q9 : (v_346 : Int32).toInt = 0; have gp_374 := x_331.resolve_left (fun h9 => h9 q9); clear x_331; have gp_375 := x_294.resolve_left (fun h9 => h9 gp_374.1); clear x_294; have gp_376 := x_253.resolve_left (fun h9 => h9 gp_375.1); clear x_253; (right; omega); exact .inl q9)⟩
          · simp only [Int32.lt_iff_toInt_lt, Int32.le_iff_toInt_le, Int32.reduceToInt, ← Int32.toInt_inj] at h_116
            refine v_aload_n hC dX12_readLoss_98 rfl ?_
            refine v_ldcwS hC sr_X12_293 dX12_readLoss_99 ?_
            refine v_vi hC (rest := []) m_1 e_99 rfl mi_X12_is ms_X12_is (p_X12_is hW_92 k_0 (by decide)) mx_X12_is ml_X12_152 (by decide) rfl (cells1 := 0) (slots1 := 0) (by decide) (by decide) (Nat.le_of_ble_eq_true rfl) (Nat.le_of_ble_eq_true rfl) rfl (Nat.le_of_ble_eq_true rfl) dX12_readLoss_102 (fun r_377 L_378 f_379 h_380 => ?_)
            obtain ⟨rfl, rfl, rfl⟩ := h_380
            refine v_istore_n hC dX12_readLoss_105 (by decide) (lv' := [(3, .int (iw (f_87 a_0) (f_87 (q 4)) 74)), (2, .int v_66), (1, .int v_41), (0, .ref a_0)]) rfl ?_
            refine v_iload_n hC dX12_readLoss_106 rfl ?_
            refine v_if_ne hC dX12_readLoss_107 (tgt := 124) (by decide) (fun h_383 => ?_) (fun h_383 => ?_)
            · simp only [Int32.lt_iff_toInt_lt, Int32.le_iff_toInt_le, Int32.reduceToInt, ← Int32.toInt_inj] at h_383
              refine v_aload_n hC dX12_readLoss_124 rfl ?_
              refine v_vi hC (rest := []) m_1 e_99 rfl mi_X12_good ms_X12_good (p_X12_good hW_92 k_0) mx_X12_good ml_X12_139 (by decide) rfl (cells1 := 0) (slots1 := 0) (by decide) (by decide) (Nat.le_of_ble_eq_true rfl) (Nat.le_of_ble_eq_true rfl) rfl (Nat.le_of_ble_eq_true rfl) dX12_readLoss_125 (fun r_384 L_385 f_386 h_387 => ?_)
              obtain ⟨rfl, rfl, b_388, x_389⟩ := h_387
              have fe_392 : fld (f_87 a_0) 12 = (v_107 : Int32).toInt := by rw [e_99]; rfl
              rw [fe_392] at x_389
              clear fe_392
              try simp only [Int32.reduceToInt, Int64.reduceToInt] at x_389
              refine v_if_eq_f hC dX12_readLoss_128 (tgt := 135) (by decide) (gdb_n x_389 g0_115) ?_
              refine v_aload_n hC dX12_readLoss_131 rfl ?_
              refine v_vv hC (rest := []) m_1 e_99 rfl mi_X12_advance ms_X12_advance (p_X12_advance hW_92 k_0) mx_X12_advance ml_X12_156 (by decide) rfl (cells1 := 0) (slots1 := 0) (by decide) (by decide) (Nat.le_of_ble_eq_true rfl) (Nat.le_of_ble_eq_true rfl) rfl (Nat.le_of_ble_eq_true rfl) dX12_readLoss_132 (fun L_394 f_395 h_396 => ?_)
              obtain ⟨rfl, hW_400, hF_401, x_397, x_398, x_399, -⟩ := h_396
              have fe_402 : fld (f_87 a_0) 8 = (v_103 : Int32).toInt := by rw [e_99]; rfl
              have fe_403 : fld (f_87 a_0) 12 = (v_107 : Int32).toInt := by rw [e_99]; rfl
              have hf_404 := hF_401.at hf_98 rfl
              obtain ⟨v_406, v_407, v_408, v_409, v_410, v_411, v_412, v_413, v_414, v_415, v_416, e_405, -, -, -, -, -, -, -⟩ := hW_400.at m_1 t_2
              have fe_417 : fld (f_395 a_0) 8 = (v_409 : Int32).toInt := by rw [e_405]; rfl
              have fe_418 : fld (f_395 a_0) 9 = (v_410 : Int32).toInt := by rw [e_405]; rfl
              have fe_419 : fld (f_395 a_0) 10 = (v_411 : Int32).toInt := by rw [e_405]; rfl
              have fe_420 : fld (f_395 a_0) 12 = (v_413 : Int32).toInt := by rw [e_405]; rfl
              rw [fe_402, fe_418, fe_417] at x_397
              rw [fe_419, fe_418, fe_417] at x_398
              rw [fe_420, fe_403] at x_399
              have g0_421 := x_399.trans g0_115
              clear fe_402 fe_403 fe_417 fe_418 fe_419 fe_420
              refine v_aload_n hC dX12_readLoss_135 rfl ?_
              refine v_get hC fl_X12_34 m_1 e_405 rfl dX12_readLoss_136 ?_
              refine v_iload_n hC dX12_readLoss_139 rfl ?_
              refine v_iload_n hC dX12_readLoss_140 rfl ?_
              refine v_if_eq_f hC dX12_readLoss_141 (tgt := 148) (by decide) (by first | omega | (simp only [Int32.lt_iff_toInt_lt, Int32.le_iff_toInt_le, Int32.reduceToInt, ← Int32.toInt_inj, true_and, and_true, or_true, true_or, false_or, or_false, false_and, and_false, not_true_eq_false, not_false_eq_true] <;> omega)) ?_
              refine v_iconst hC dX12_readLoss_144 (v := 1) (by decide) ?_
              refine v_goto hC dX12_readLoss_145 (tgt := 149) (by decide) ?_
              refine v_iast hC m_22 hf_404 (vp_in_iff.mpr (by first | omega | (simp only [Int32.lt_iff_toInt_lt, Int32.le_iff_toInt_le, Int32.reduceToInt, ← Int32.toInt_inj, true_and, and_true, or_true, true_or, false_or, or_false, false_and, and_false, not_true_eq_false, not_false_eq_true] <;> omega))) dX12_readLoss_149 (fun f_422 hf_423 hk_424 => ?_)
              have hW_426 := hW_400.up hf_423 hk_424 t_23 ⟨_, rfl, (o_f.up (by first | omega | (simp only [Int32.lt_iff_toInt_lt, Int32.le_iff_toInt_le, Int32.reduceToInt, ← Int32.toInt_inj, true_and, and_true, or_true, true_or, false_or, or_false, false_and, and_false, not_true_eq_false, not_false_eq_true] <;> omega)) (fun q1 q2 => (by first | omega | (simp only [Int32.lt_iff_toInt_lt, Int32.le_iff_toInt_le, Int32.reduceToInt, ← Int32.toInt_inj] at *; omega))) (fun k9 q1 q2 q3 => (by first | omega | (simp only [Int32.lt_iff_toInt_lt, Int32.le_iff_toInt_le, Int32.reduceToInt, ← Int32.toInt_inj] at *; omega))))⟩
              obtain ⟨g_425, hf_423, ok_427, eg_428⟩ : ∃ g9, f_422 (q 14) = aI E 2076 g9 ∧ FOK g9 ∧ g9 = upd g_f (v_41 : Int32).toNatClampNeg 1 := ⟨_, hf_423, (o_f.up (by first | omega | (simp only [Int32.lt_iff_toInt_lt, Int32.le_iff_toInt_le, Int32.reduceToInt, ← Int32.toInt_inj, true_and, and_true, or_true, true_or, false_or, or_false, false_and, and_false, not_true_eq_false, not_false_eq_true] <;> omega)) (fun q1 q2 => (by first | omega | (simp only [Int32.lt_iff_toInt_lt, Int32.le_iff_toInt_le, Int32.reduceToInt, ← Int32.toInt_inj] at *; omega))) (fun k9 q1 q2 q3 => (by first | omega | (simp only [Int32.lt_iff_toInt_lt, Int32.le_iff_toInt_le, Int32.reduceToInt, ← Int32.toInt_inj] at *; omega)))), rfl⟩
              have hf_429 := (hk_424 a_0 (ne_kd e_405 hf_404 rfl)).trans e_405
              have fr_430 := FR.w hk_424 hf_404 (k := 2176) rfl
              have lk_431 := lk_at (g0 := g_f) eg_428 (by omega) (by omega)
              have ag_432 := (AG.rf o_f).st eg_428 (by omega) (by omega)
              try simp only [Int32.reduceToInt] at lk_431
              refine v_aload_n hC dX12_readLoss_150 rfl ?_
              refine v_get hC fl_X12_34 m_1 hf_429 rfl dX12_readLoss_151 ?_
              refine v_iload_n hC dX12_readLoss_154 rfl ?_
              refine v_iconst hC dX12_readLoss_155 (v := 1) (by decide) ?_
              obtain ⟨v_433, h_434⟩ : ∃ v9 : Int32, v_41 + 1 = v9 := ⟨_, rfl⟩
              refine v_iadd hC dX12_readLoss_156 h_434 ?_
              have h_435 := add_v h_434 (by first | omega | (simp only [Int32.lt_iff_toInt_lt, Int32.le_iff_toInt_le, Int32.reduceToInt, ← Int32.toInt_inj, true_and, and_true, or_true, true_or, false_or, or_false, false_and, and_false, not_true_eq_false, not_false_eq_true] <;> omega)) (by first | omega | (simp only [Int32.lt_iff_toInt_lt, Int32.le_iff_toInt_le, Int32.reduceToInt, ← Int32.toInt_inj, true_and, and_true, or_true, true_or, false_or, or_false, false_and, and_false, not_true_eq_false, not_false_eq_true] <;> omega))
              try simp only [Int32.reduceToInt] at h_435
              refine v_aload_n hC dX12_readLoss_157 rfl ?_
              refine v_iconst hC dX12_readLoss_158 (v := 0) (by decide) ?_
              refine v_bipush hC dX12_readLoss_159 (v := 15) (by decide) ?_
              refine v_vi hC (rest := [.int v_433, .ref (q 14)]) m_1 hf_429 rfl mi_X12_number ms_X12_number (p_X12_number hW_426 k_0) mx_X12_number ml_X12_170 (by decide) rfl (cells1 := 0) (slots1 := 0) (by decide) (by decide) (Nat.le_of_ble_eq_true rfl) (Nat.le_of_ble_eq_true rfl) rfl (Nat.le_of_ble_eq_true rfl) dX12_readLoss_161 (fun r_436 L_437 f_438 h_439 => ?_)
              obtain ⟨rfl, hW_441, hF_442, -, -, -, -, -, x_440⟩ := h_439
              have fe_443 : fld (f_422 a_0) 8 = (v_409 : Int32).toInt := by rw [hf_429]; rfl
              have fe_444 : fld (f_422 a_0) 10 = (v_411 : Int32).toInt := by rw [hf_429]; rfl
              have fe_445 : fld (f_422 a_0) 12 = (v_413 : Int32).toInt := by rw [hf_429]; rfl
              have hf_446 := hF_442.at hf_423 rfl
              obtain ⟨v_448, v_449, v_450, v_451, v_452, v_453, v_454, v_455, v_456, v_457, v_458, e_447, -, -, -, -, -, -, -⟩ := hW_441.at m_1 t_2
              have fe_459 : fld (f_438 a_0) 8 = (v_451 : Int32).toInt := by rw [e_447]; rfl
              have fe_460 : fld (f_438 a_0) 9 = (v_452 : Int32).toInt := by rw [e_447]; rfl
              have fe_461 : fld (f_438 a_0) 10 = (v_453 : Int32).toInt := by rw [e_447]; rfl
              have fe_462 : fld (f_438 a_0) 12 = (v_455 : Int32).toInt := by rw [e_447]; rfl
              rw [fe_462, fe_445, fe_444, fe_443, fe_460, fe_459, fe_461] at x_440
              clear fe_443 fe_444 fe_445 fe_459 fe_460 fe_461 fe_462
              try simp only [Int32.reduceToInt, Int64.reduceToInt] at x_440
              refine v_iast hC m_22 hf_446 (vp_in_iff.mpr (by first | omega | (simp only [Int32.lt_iff_toInt_lt, Int32.le_iff_toInt_le, Int32.reduceToInt, ← Int32.toInt_inj, true_and, and_true, or_true, true_or, false_or, or_false, false_and, and_false, not_true_eq_false, not_false_eq_true] <;> omega))) dX12_readLoss_164 (fun f_463 hf_464 hk_465 => ?_)
              have hW_467 := hW_441.up hf_464 hk_465 t_23 ⟨_, rfl, (ok_427.up (by first | omega | (simp only [Int32.lt_iff_toInt_lt, Int32.le_iff_toInt_le, Int32.reduceToInt, ← Int32.toInt_inj, true_and, and_true, or_true, true_or, false_or, or_false, false_and, and_false, not_true_eq_false, not_false_eq_true] <;> omega)) (fun q1 q2 => (by first | omega | (simp only [Int32.lt_iff_toInt_lt, Int32.le_iff_toInt_le, Int32.reduceToInt, ← Int32.toInt_inj] at *; omega))) (fun k9 q1 q2 q3 => (by first | omega | (simp only [Int32.lt_iff_toInt_lt, Int32.le_iff_toInt_le, Int32.reduceToInt, ← Int32.toInt_inj] at *; omega))))⟩
              obtain ⟨g_466, hf_464, ok_468, eg_469⟩ : ∃ g9, f_463 (q 14) = aI E 2076 g9 ∧ FOK g9 ∧ g9 = upd g_425 (v_433 : Int32).toNatClampNeg r_436 := ⟨_, hf_464, (ok_427.up (by first | omega | (simp only [Int32.lt_iff_toInt_lt, Int32.le_iff_toInt_le, Int32.reduceToInt, ← Int32.toInt_inj, true_and, and_true, or_true, true_or, false_or, or_false, false_and, and_false, not_true_eq_false, not_false_eq_true] <;> omega)) (fun q1 q2 => (by first | omega | (simp only [Int32.lt_iff_toInt_lt, Int32.le_iff_toInt_le, Int32.reduceToInt, ← Int32.toInt_inj] at *; omega))) (fun k9 q1 q2 q3 => (by first | omega | (simp only [Int32.lt_iff_toInt_lt, Int32.le_iff_toInt_le, Int32.reduceToInt, ← Int32.toInt_inj] at *; omega)))), rfl⟩
              have hf_470 := (hk_465 a_0 (ne_kd e_447 hf_446 rfl)).trans e_447
              have fr_471 := FR.w hk_465 hf_446 (k := 2176) rfl
              have lk_472 := lf_at (g0 := g_f) eg_469 (by omega) (by omega)
              have ag_473 := ag_432.st eg_469 (by omega) (by omega)
              try simp only [Int32.reduceToInt] at lk_472
              refine v_aload_n hC dX12_readLoss_165 rfl ?_
              refine v_get hC fl_X12_34 m_1 hf_470 rfl dX12_readLoss_166 ?_
              refine v_iload_n hC dX12_readLoss_169 rfl ?_
              refine v_iconst hC dX12_readLoss_170 (v := 2) (by decide) ?_
              obtain ⟨v_474, h_475⟩ : ∃ v9 : Int32, v_41 + 2 = v9 := ⟨_, rfl⟩
              refine v_iadd hC dX12_readLoss_171 h_475 ?_
              have h_476 := add_v h_475 (by first | omega | (simp only [Int32.lt_iff_toInt_lt, Int32.le_iff_toInt_le, Int32.reduceToInt, ← Int32.toInt_inj, true_and, and_true, or_true, true_or, false_or, or_false, false_and, and_false, not_true_eq_false, not_false_eq_true] <;> omega)) (by first | omega | (simp only [Int32.lt_iff_toInt_lt, Int32.le_iff_toInt_le, Int32.reduceToInt, ← Int32.toInt_inj, true_and, and_true, or_true, true_or, false_or, or_false, false_and, and_false, not_true_eq_false, not_false_eq_true] <;> omega))
              try simp only [Int32.reduceToInt] at h_476
              refine v_aload_n hC dX12_readLoss_172 rfl ?_
              refine v_ldcwS hC sr_X12_295 dX12_readLoss_173 ?_
              refine v_aload_n hC dX12_readLoss_176 rfl ?_
              refine v_get hC fl_X12_34 m_1 hf_470 rfl dX12_readLoss_177 ?_
              refine v_iload_n hC dX12_readLoss_180 rfl ?_
              refine v_iconst hC dX12_readLoss_181 (v := 1) (by decide) ?_
              obtain ⟨v_477, h_478⟩ : ∃ v9 : Int32, v_41 + 1 = v9 := ⟨_, rfl⟩
              refine v_iadd hC dX12_readLoss_182 h_478 ?_
              have h_479 := add_v h_478 (by first | omega | (simp only [Int32.lt_iff_toInt_lt, Int32.le_iff_toInt_le, Int32.reduceToInt, ← Int32.toInt_inj, true_and, and_true, or_true, true_or, false_or, or_false, false_and, and_false, not_true_eq_false, not_false_eq_true] <;> omega)) (by first | omega | (simp only [Int32.lt_iff_toInt_lt, Int32.le_iff_toInt_le, Int32.reduceToInt, ← Int32.toInt_inj, true_and, and_true, or_true, true_or, false_or, or_false, false_and, and_false, not_true_eq_false, not_false_eq_true] <;> omega))
              try simp only [Int32.reduceToInt] at h_479
              obtain ⟨v_480, h_481⟩ : ∃ v9 : Int32, g_466 (v_477 : Int32).toNatClampNeg = v9 := ⟨_, rfl⟩
              refine v_iald hC m_22 hf_464 (vp_in_iff.mpr (by first | omega | (simp only [Int32.lt_iff_toInt_lt, Int32.le_iff_toInt_le, Int32.reduceToInt, ← Int32.toInt_inj, true_and, and_true, or_true, true_or, false_or, or_false, false_and, and_false, not_true_eq_false, not_false_eq_true] <;> omega))) h_481 dX12_readLoss_183 ?_
              refine v_bipush hC dX12_readLoss_184 (v := 15) (by decide) ?_
              refine v_vi hC (rest := [.int v_474, .ref (q 14)]) m_1 hf_470 rfl mi_X12_told ms_X12_told (p_X12_told hW_467 k_0 (by decide)) mx_X12_told ml_X12_189 (by decide) rfl (cells1 := 0) (slots1 := 0) (by decide) (by decide) (Nat.le_of_ble_eq_true rfl) (Nat.le_of_ble_eq_true rfl) rfl (Nat.le_of_ble_eq_true rfl) dX12_readLoss_186 (fun r_482 L_483 f_484 h_485 => ?_)
              obtain ⟨rfl, hW_487, hF_488, -, -, -, -, -, x_486⟩ := h_485
              have fe_489 : fld (f_463 a_0) 8 = (v_451 : Int32).toInt := by rw [hf_470]; rfl
              have fe_490 : fld (f_463 a_0) 12 = (v_455 : Int32).toInt := by rw [hf_470]; rfl
              have hf_491 := hF_488.at hf_464 rfl
              obtain ⟨v_493, v_494, v_495, v_496, v_497, v_498, v_499, v_500, v_501, v_502, v_503, e_492, -, -, -, -, -, -, -⟩ := hW_487.at m_1 t_2
              have fe_504 : fld (f_484 a_0) 8 = (v_496 : Int32).toInt := by rw [e_492]; rfl
              have fe_505 : fld (f_484 a_0) 9 = (v_497 : Int32).toInt := by rw [e_492]; rfl
              have fe_506 : fld (f_484 a_0) 10 = (v_498 : Int32).toInt := by rw [e_492]; rfl
              have fe_507 : fld (f_484 a_0) 12 = (v_500 : Int32).toInt := by rw [e_492]; rfl
              rw [fe_507, fe_490, fe_489, fe_505, fe_504, fe_506] at x_486
              clear fe_489 fe_490 fe_504 fe_505 fe_506 fe_507
              try simp only [Int32.reduceToInt, Int64.reduceToInt] at x_486
              refine v_iast hC m_22 hf_491 (vp_in_iff.mpr (by first | omega | (simp only [Int32.lt_iff_toInt_lt, Int32.le_iff_toInt_le, Int32.reduceToInt, ← Int32.toInt_inj, true_and, and_true, or_true, true_or, false_or, or_false, false_and, and_false, not_true_eq_false, not_false_eq_true] <;> omega))) dX12_readLoss_189 (fun f_508 hf_509 hk_510 => ?_)
              have hW_512 := hW_487.up hf_509 hk_510 t_23 ⟨_, rfl, (ok_468.up (by first | omega | (simp only [Int32.lt_iff_toInt_lt, Int32.le_iff_toInt_le, Int32.reduceToInt, ← Int32.toInt_inj, true_and, and_true, or_true, true_or, false_or, or_false, false_and, and_false, not_true_eq_false, not_false_eq_true] <;> omega)) (fun q1 q2 => (by first | omega | (simp only [Int32.lt_iff_toInt_lt, Int32.le_iff_toInt_le, Int32.reduceToInt, ← Int32.toInt_inj] at *; omega))) (fun k9 q1 q2 q3 => (by first | omega | (simp only [Int32.lt_iff_toInt_lt, Int32.le_iff_toInt_le, Int32.reduceToInt, ← Int32.toInt_inj] at *; omega))))⟩
              obtain ⟨g_511, hf_509, ok_513, eg_514⟩ : ∃ g9, f_508 (q 14) = aI E 2076 g9 ∧ FOK g9 ∧ g9 = upd g_466 (v_474 : Int32).toNatClampNeg r_482 := ⟨_, hf_509, (ok_468.up (by first | omega | (simp only [Int32.lt_iff_toInt_lt, Int32.le_iff_toInt_le, Int32.reduceToInt, ← Int32.toInt_inj, true_and, and_true, or_true, true_or, false_or, or_false, false_and, and_false, not_true_eq_false, not_false_eq_true] <;> omega)) (fun q1 q2 => (by first | omega | (simp only [Int32.lt_iff_toInt_lt, Int32.le_iff_toInt_le, Int32.reduceToInt, ← Int32.toInt_inj] at *; omega))) (fun k9 q1 q2 q3 => (by first | omega | (simp only [Int32.lt_iff_toInt_lt, Int32.le_iff_toInt_le, Int32.reduceToInt, ← Int32.toInt_inj] at *; omega)))), rfl⟩
              have hf_515 := (hk_510 a_0 (ne_kd e_492 hf_491 rfl)).trans e_492
              have fr_516 := FR.w hk_510 hf_491 (k := 2176) rfl
              have lk_517 := l2_at (g0 := g_f) eg_514 (by omega) (by omega)
              have ag_518 := ag_473.st eg_514 (by omega) (by omega)
              try simp only [Int32.reduceToInt] at lk_517
              refine v_goto hC dX12_readLoss_190 (tgt := 258) (by decide) ?_
              refine v_aload_n hC dX12_readLoss_258 rfl ?_
              refine v_vv hC (rest := []) m_1 hf_515 rfl mi_X12_ends ms_X12_ends (p_X12_ends hW_512 k_0) mx_X12_ends ml_X12_178 (by decide) rfl (cells1 := 0) (slots1 := 0) (by decide) (by decide) (Nat.le_of_ble_eq_true rfl) (Nat.le_of_ble_eq_true rfl) rfl (Nat.le_of_ble_eq_true rfl) dX12_readLoss_259 (fun L_520 f_521 h_522 => ?_)
              obtain ⟨rfl, hW_524, hF_525, -, -, -, -, x_523⟩ := h_522
              have fe_526 : fld (f_508 a_0) 8 = (v_496 : Int32).toInt := by rw [hf_515]; rfl
              have fe_527 : fld (f_508 a_0) 10 = (v_498 : Int32).toInt := by rw [hf_515]; rfl
              have fe_528 : fld (f_508 a_0) 12 = (v_500 : Int32).toInt := by rw [hf_515]; rfl
              have hf_529 := hF_525.at hf_509 rfl
              obtain ⟨v_531, v_532, v_533, v_534, v_535, v_536, v_537, v_538, v_539, v_540, v_541, e_530, -, -, -, -, -, -, -⟩ := hW_524.at m_1 t_2
              have fe_542 : fld (f_521 a_0) 8 = (v_534 : Int32).toInt := by rw [e_530]; rfl
              have fe_543 : fld (f_521 a_0) 9 = (v_535 : Int32).toInt := by rw [e_530]; rfl
              have fe_544 : fld (f_521 a_0) 10 = (v_536 : Int32).toInt := by rw [e_530]; rfl
              have fe_545 : fld (f_521 a_0) 12 = (v_538 : Int32).toInt := by rw [e_530]; rfl
              rw [fe_545, fe_528, fe_527, fe_526, fe_543, fe_542, fe_544] at x_523
              clear fe_526 fe_527 fe_528 fe_542 fe_543 fe_544 fe_545
              refine v_aload_n hC dX12_readLoss_262 rfl ?_
              refine v_get hC fl_X12_34 m_1 e_530 rfl dX12_readLoss_263 ?_
              refine v_bipush hC dX12_readLoss_266 (v := 6) (by decide) ?_
              refine v_dup2 hC dX12_readLoss_268 rfl rfl ?_
              have l6_546 : (g_511 6).toInt = (g_f 6).toInt := congrArg Int32.toInt ag_518.2.1
              refine v_iald hC m_22 hf_529 (vp_in_iff.mpr (by decide)) (v := g_511 6) rfl dX12_readLoss_269 ?_
              refine v_iconst hC dX12_readLoss_270 (v := 1) (by decide) ?_
              obtain ⟨v_547, h_548⟩ : ∃ v9 : Int32, (g_511 6) + 1 = v9 := ⟨_, rfl⟩
              refine v_iadd hC dX12_readLoss_271 h_548 ?_
              have h_549 := add_v h_548 (by first | omega | (simp only [Int32.lt_iff_toInt_lt, Int32.le_iff_toInt_le, Int32.reduceToInt, ← Int32.toInt_inj, true_and, and_true, or_true, true_or, false_or, or_false, false_and, and_false, not_true_eq_false, not_false_eq_true] <;> omega)) (by first | omega | (simp only [Int32.lt_iff_toInt_lt, Int32.le_iff_toInt_le, Int32.reduceToInt, ← Int32.toInt_inj, true_and, and_true, or_true, true_or, false_or, or_false, false_and, and_false, not_true_eq_false, not_false_eq_true] <;> omega))
              try simp only [Int32.reduceToInt] at h_549
              refine v_iast hC m_22 hf_529 (vp_in_iff.mpr (by decide)) dX12_readLoss_272 (fun f_550 hf_551 hk_552 => ?_)
              have hW_554 := hW_524.up hf_551 hk_552 t_23 ⟨_, rfl, (ok_513.up (i := 6) (by decide) (fun q1 q2 => absurd (And.intro q1 q2) (by decide)) (fun k9 q1 q2 q3 => by simp only [Int32.reduceToInt] at q3; omega))⟩
              obtain ⟨g_553, hf_551, ok_555, eg_556⟩ : ∃ g9, f_550 (q 14) = aI E 2076 g9 ∧ FOK g9 ∧ g9 = upd g_511 (6 : Int32).toNatClampNeg v_547 := ⟨_, hf_551, (ok_513.up (i := 6) (by decide) (fun q1 q2 => absurd (And.intro q1 q2) (by decide)) (fun k9 q1 q2 q3 => by simp only [Int32.reduceToInt] at q3; omega)), rfl⟩
              have hf_557 := (hk_552 a_0 (ne_kd e_530 hf_529 rfl)).trans e_530
              have fr_558 := FR.w hk_552 hf_529 (k := 2176) rfl
              have ln6_559 := FOK.n6 ag_518.1 eg_556
              have ln6_559_t : (g_553 6).toInt = v_547.toInt := congrArg Int32.toInt ln6_559.2
              have fe_560 : fld (f_550 a_0) 12 = (v_538 : Int32).toInt := by rw [hf_557]; rfl
              have fe_564 : fld (f_550 a_0) 8 = (v_534 : Int32).toInt := by rw [hf_557]; rfl
              have fe_565 : fld (f_550 a_0) 12 = (v_538 : Int32).toInt := by rw [hf_557]; rfl
              exact hR _ _ _ _ _ _ dX12_readLoss_273 (Nat.le_of_ble_eq_true rfl) (Nat.le_of_ble_eq_true rfl) ⟨rfl, hW_554, (((((((((hF_93.tr hF_401).tr fr_430).tr hF_442).tr fr_471).tr hF_488).tr fr_516).tr hF_525).tr fr_558).mono rfl), ⟨_, hf_551, ln6_559.1, (by omega), (by rw [fe_560]; by_cases q9 : v_538.toInt = 0; have gp_561 := x_523.resolve_left (fun h9 => h9 q9); clear x_523; have gp_562 := x_486.resolve_left (fun h9 => h9 gp_561.1); clear x_486; have gp_563 := x_440.resolve_left (fun h9 => h9 gp_562.1); clear x_440; exact .inr (LO.fin hLO ag_518 eg_556 (by omega) (by omega) (fun q8 => by omega)); exact .inl q9)⟩, (by simp only [fe_564, fe_565, mz_36, mz_37]; by_cases q9 : (v_538 : Int32).toInt = 0; have gp_566 := x_523.resolve_left (fun h9 => h9 q9); clear x_523; have gp_567 := x_486.resolve_left (fun h9 => h9 gp_566.1); clear x_486; have gp_568 := x_440.resolve_left (fun h9 => h9 gp_567.1); clear x_440; (right; omega); exact .inl q9)⟩
            · simp only [Int32.lt_iff_toInt_lt, Int32.le_iff_toInt_le, Int32.reduceToInt, ← Int32.toInt_inj] at h_383
              refine v_aload_n hC dX12_readLoss_110 rfl ?_
              refine v_ldcS hC sr_X12_193 dX12_readLoss_111 ?_
              refine v_vi hC (rest := []) m_1 e_99 rfl mi_X12_is ms_X12_is (p_X12_is hW_92 k_0 (by decide)) mx_X12_is ml_X12_152 (by decide) rfl (cells1 := 0) (slots1 := 0) (by decide) (by decide) (Nat.le_of_ble_eq_true rfl) (Nat.le_of_ble_eq_true rfl) rfl (Nat.le_of_ble_eq_true rfl) dX12_readLoss_113 (fun r_569 L_570 f_571 h_572 => ?_)
              obtain ⟨rfl, rfl, rfl⟩ := h_572
              refine v_if_ne hC dX12_readLoss_116 (tgt := 124) (by decide) (fun h_575 => ?_) (fun h_575 => ?_)
              · simp only [Int32.lt_iff_toInt_lt, Int32.le_iff_toInt_le, Int32.reduceToInt, ← Int32.toInt_inj] at h_575
                refine v_aload_n hC dX12_readLoss_124 rfl ?_
                refine v_vi hC (rest := []) m_1 e_99 rfl mi_X12_good ms_X12_good (p_X12_good hW_92 k_0) mx_X12_good ml_X12_139 (by decide) rfl (cells1 := 0) (slots1 := 0) (by decide) (by decide) (Nat.le_of_ble_eq_true rfl) (Nat.le_of_ble_eq_true rfl) rfl (Nat.le_of_ble_eq_true rfl) dX12_readLoss_125 (fun r_576 L_577 f_578 h_579 => ?_)
                obtain ⟨rfl, rfl, b_580, x_581⟩ := h_579
                have fe_584 : fld (f_87 a_0) 12 = (v_107 : Int32).toInt := by rw [e_99]; rfl
                rw [fe_584] at x_581
                clear fe_584
                try simp only [Int32.reduceToInt, Int64.reduceToInt] at x_581
                refine v_if_eq_f hC dX12_readLoss_128 (tgt := 135) (by decide) (gdb_n x_581 g0_115) ?_
                refine v_aload_n hC dX12_readLoss_131 rfl ?_
                refine v_vv hC (rest := []) m_1 e_99 rfl mi_X12_advance ms_X12_advance (p_X12_advance hW_92 k_0) mx_X12_advance ml_X12_156 (by decide) rfl (cells1 := 0) (slots1 := 0) (by decide) (by decide) (Nat.le_of_ble_eq_true rfl) (Nat.le_of_ble_eq_true rfl) rfl (Nat.le_of_ble_eq_true rfl) dX12_readLoss_132 (fun L_586 f_587 h_588 => ?_)
                obtain ⟨rfl, hW_592, hF_593, x_589, x_590, x_591, -⟩ := h_588
                have fe_594 : fld (f_87 a_0) 8 = (v_103 : Int32).toInt := by rw [e_99]; rfl
                have fe_595 : fld (f_87 a_0) 12 = (v_107 : Int32).toInt := by rw [e_99]; rfl
                have hf_596 := hF_593.at hf_98 rfl
                obtain ⟨v_598, v_599, v_600, v_601, v_602, v_603, v_604, v_605, v_606, v_607, v_608, e_597, -, -, -, -, -, -, -⟩ := hW_592.at m_1 t_2
                have fe_609 : fld (f_587 a_0) 8 = (v_601 : Int32).toInt := by rw [e_597]; rfl
                have fe_610 : fld (f_587 a_0) 9 = (v_602 : Int32).toInt := by rw [e_597]; rfl
                have fe_611 : fld (f_587 a_0) 10 = (v_603 : Int32).toInt := by rw [e_597]; rfl
                have fe_612 : fld (f_587 a_0) 12 = (v_605 : Int32).toInt := by rw [e_597]; rfl
                rw [fe_594, fe_610, fe_609] at x_589
                rw [fe_611, fe_610, fe_609] at x_590
                rw [fe_612, fe_595] at x_591
                have g0_613 := x_591.trans g0_115
                clear fe_594 fe_595 fe_609 fe_610 fe_611 fe_612
                refine v_aload_n hC dX12_readLoss_135 rfl ?_
                refine v_get hC fl_X12_34 m_1 e_597 rfl dX12_readLoss_136 ?_
                refine v_iload_n hC dX12_readLoss_139 rfl ?_
                refine v_iload_n hC dX12_readLoss_140 rfl ?_
                refine v_if_eq_t hC dX12_readLoss_141 (tgt := 148) (by decide) (by first | omega | (simp only [Int32.lt_iff_toInt_lt, Int32.le_iff_toInt_le, Int32.reduceToInt, ← Int32.toInt_inj, true_and, and_true, or_true, true_or, false_or, or_false, false_and, and_false, not_true_eq_false, not_false_eq_true] <;> omega)) ?_
                refine v_iconst hC dX12_readLoss_148 (v := 0) (by decide) ?_
                refine v_iast hC m_22 hf_596 (vp_in_iff.mpr (by first | omega | (simp only [Int32.lt_iff_toInt_lt, Int32.le_iff_toInt_le, Int32.reduceToInt, ← Int32.toInt_inj, true_and, and_true, or_true, true_or, false_or, or_false, false_and, and_false, not_true_eq_false, not_false_eq_true] <;> omega))) dX12_readLoss_149 (fun f_614 hf_615 hk_616 => ?_)
                have hW_618 := hW_592.up hf_615 hk_616 t_23 ⟨_, rfl, (o_f.up (by first | omega | (simp only [Int32.lt_iff_toInt_lt, Int32.le_iff_toInt_le, Int32.reduceToInt, ← Int32.toInt_inj, true_and, and_true, or_true, true_or, false_or, or_false, false_and, and_false, not_true_eq_false, not_false_eq_true] <;> omega)) (fun q1 q2 => (by first | omega | (simp only [Int32.lt_iff_toInt_lt, Int32.le_iff_toInt_le, Int32.reduceToInt, ← Int32.toInt_inj] at *; omega))) (fun k9 q1 q2 q3 => (by first | omega | (simp only [Int32.lt_iff_toInt_lt, Int32.le_iff_toInt_le, Int32.reduceToInt, ← Int32.toInt_inj] at *; omega))))⟩
                obtain ⟨g_617, hf_615, ok_619, eg_620⟩ : ∃ g9, f_614 (q 14) = aI E 2076 g9 ∧ FOK g9 ∧ g9 = upd g_f (v_41 : Int32).toNatClampNeg 0 := ⟨_, hf_615, (o_f.up (by first | omega | (simp only [Int32.lt_iff_toInt_lt, Int32.le_iff_toInt_le, Int32.reduceToInt, ← Int32.toInt_inj, true_and, and_true, or_true, true_or, false_or, or_false, false_and, and_false, not_true_eq_false, not_false_eq_true] <;> omega)) (fun q1 q2 => (by first | omega | (simp only [Int32.lt_iff_toInt_lt, Int32.le_iff_toInt_le, Int32.reduceToInt, ← Int32.toInt_inj] at *; omega))) (fun k9 q1 q2 q3 => (by first | omega | (simp only [Int32.lt_iff_toInt_lt, Int32.le_iff_toInt_le, Int32.reduceToInt, ← Int32.toInt_inj] at *; omega)))), rfl⟩
                have hf_621 := (hk_616 a_0 (ne_kd e_597 hf_596 rfl)).trans e_597
                have fr_622 := FR.w hk_616 hf_596 (k := 2176) rfl
                have lk_623 := lk_at (g0 := g_f) eg_620 (by omega) (by omega)
                have ag_624 := (AG.rf o_f).st eg_620 (by omega) (by omega)
                try simp only [Int32.reduceToInt] at lk_623
                refine v_aload_n hC dX12_readLoss_150 rfl ?_
                refine v_get hC fl_X12_34 m_1 hf_621 rfl dX12_readLoss_151 ?_
                refine v_iload_n hC dX12_readLoss_154 rfl ?_
                refine v_iconst hC dX12_readLoss_155 (v := 1) (by decide) ?_
                obtain ⟨v_625, h_626⟩ : ∃ v9 : Int32, v_41 + 1 = v9 := ⟨_, rfl⟩
                refine v_iadd hC dX12_readLoss_156 h_626 ?_
                have h_627 := add_v h_626 (by first | omega | (simp only [Int32.lt_iff_toInt_lt, Int32.le_iff_toInt_le, Int32.reduceToInt, ← Int32.toInt_inj, true_and, and_true, or_true, true_or, false_or, or_false, false_and, and_false, not_true_eq_false, not_false_eq_true] <;> omega)) (by first | omega | (simp only [Int32.lt_iff_toInt_lt, Int32.le_iff_toInt_le, Int32.reduceToInt, ← Int32.toInt_inj, true_and, and_true, or_true, true_or, false_or, or_false, false_and, and_false, not_true_eq_false, not_false_eq_true] <;> omega))
                try simp only [Int32.reduceToInt] at h_627
                refine v_aload_n hC dX12_readLoss_157 rfl ?_
                refine v_iconst hC dX12_readLoss_158 (v := 0) (by decide) ?_
                refine v_bipush hC dX12_readLoss_159 (v := 15) (by decide) ?_
                refine v_vi hC (rest := [.int v_625, .ref (q 14)]) m_1 hf_621 rfl mi_X12_number ms_X12_number (p_X12_number hW_618 k_0) mx_X12_number ml_X12_170 (by decide) rfl (cells1 := 0) (slots1 := 0) (by decide) (by decide) (Nat.le_of_ble_eq_true rfl) (Nat.le_of_ble_eq_true rfl) rfl (Nat.le_of_ble_eq_true rfl) dX12_readLoss_161 (fun r_628 L_629 f_630 h_631 => ?_)
                obtain ⟨rfl, hW_633, hF_634, -, -, -, -, -, x_632⟩ := h_631
                have fe_635 : fld (f_614 a_0) 8 = (v_601 : Int32).toInt := by rw [hf_621]; rfl
                have fe_636 : fld (f_614 a_0) 10 = (v_603 : Int32).toInt := by rw [hf_621]; rfl
                have fe_637 : fld (f_614 a_0) 12 = (v_605 : Int32).toInt := by rw [hf_621]; rfl
                have hf_638 := hF_634.at hf_615 rfl
                obtain ⟨v_640, v_641, v_642, v_643, v_644, v_645, v_646, v_647, v_648, v_649, v_650, e_639, -, -, -, -, -, -, -⟩ := hW_633.at m_1 t_2
                have fe_651 : fld (f_630 a_0) 8 = (v_643 : Int32).toInt := by rw [e_639]; rfl
                have fe_652 : fld (f_630 a_0) 9 = (v_644 : Int32).toInt := by rw [e_639]; rfl
                have fe_653 : fld (f_630 a_0) 10 = (v_645 : Int32).toInt := by rw [e_639]; rfl
                have fe_654 : fld (f_630 a_0) 12 = (v_647 : Int32).toInt := by rw [e_639]; rfl
                rw [fe_654, fe_637, fe_636, fe_635, fe_652, fe_651, fe_653] at x_632
                clear fe_635 fe_636 fe_637 fe_651 fe_652 fe_653 fe_654
                try simp only [Int32.reduceToInt, Int64.reduceToInt] at x_632
                refine v_iast hC m_22 hf_638 (vp_in_iff.mpr (by first | omega | (simp only [Int32.lt_iff_toInt_lt, Int32.le_iff_toInt_le, Int32.reduceToInt, ← Int32.toInt_inj, true_and, and_true, or_true, true_or, false_or, or_false, false_and, and_false, not_true_eq_false, not_false_eq_true] <;> omega))) dX12_readLoss_164 (fun f_655 hf_656 hk_657 => ?_)
                have hW_659 := hW_633.up hf_656 hk_657 t_23 ⟨_, rfl, (ok_619.up (by first | omega | (simp only [Int32.lt_iff_toInt_lt, Int32.le_iff_toInt_le, Int32.reduceToInt, ← Int32.toInt_inj, true_and, and_true, or_true, true_or, false_or, or_false, false_and, and_false, not_true_eq_false, not_false_eq_true] <;> omega)) (fun q1 q2 => (by first | omega | (simp only [Int32.lt_iff_toInt_lt, Int32.le_iff_toInt_le, Int32.reduceToInt, ← Int32.toInt_inj] at *; omega))) (fun k9 q1 q2 q3 => (by first | omega | (simp only [Int32.lt_iff_toInt_lt, Int32.le_iff_toInt_le, Int32.reduceToInt, ← Int32.toInt_inj] at *; omega))))⟩
                obtain ⟨g_658, hf_656, ok_660, eg_661⟩ : ∃ g9, f_655 (q 14) = aI E 2076 g9 ∧ FOK g9 ∧ g9 = upd g_617 (v_625 : Int32).toNatClampNeg r_628 := ⟨_, hf_656, (ok_619.up (by first | omega | (simp only [Int32.lt_iff_toInt_lt, Int32.le_iff_toInt_le, Int32.reduceToInt, ← Int32.toInt_inj, true_and, and_true, or_true, true_or, false_or, or_false, false_and, and_false, not_true_eq_false, not_false_eq_true] <;> omega)) (fun q1 q2 => (by first | omega | (simp only [Int32.lt_iff_toInt_lt, Int32.le_iff_toInt_le, Int32.reduceToInt, ← Int32.toInt_inj] at *; omega))) (fun k9 q1 q2 q3 => (by first | omega | (simp only [Int32.lt_iff_toInt_lt, Int32.le_iff_toInt_le, Int32.reduceToInt, ← Int32.toInt_inj] at *; omega)))), rfl⟩
                have hf_662 := (hk_657 a_0 (ne_kd e_639 hf_638 rfl)).trans e_639
                have fr_663 := FR.w hk_657 hf_638 (k := 2176) rfl
                have lk_664 := lf_at (g0 := g_f) eg_661 (by omega) (by omega)
                have ag_665 := ag_624.st eg_661 (by omega) (by omega)
                try simp only [Int32.reduceToInt] at lk_664
                refine v_aload_n hC dX12_readLoss_165 rfl ?_
                refine v_get hC fl_X12_34 m_1 hf_662 rfl dX12_readLoss_166 ?_
                refine v_iload_n hC dX12_readLoss_169 rfl ?_
                refine v_iconst hC dX12_readLoss_170 (v := 2) (by decide) ?_
                obtain ⟨v_666, h_667⟩ : ∃ v9 : Int32, v_41 + 2 = v9 := ⟨_, rfl⟩
                refine v_iadd hC dX12_readLoss_171 h_667 ?_
                have h_668 := add_v h_667 (by first | omega | (simp only [Int32.lt_iff_toInt_lt, Int32.le_iff_toInt_le, Int32.reduceToInt, ← Int32.toInt_inj, true_and, and_true, or_true, true_or, false_or, or_false, false_and, and_false, not_true_eq_false, not_false_eq_true] <;> omega)) (by first | omega | (simp only [Int32.lt_iff_toInt_lt, Int32.le_iff_toInt_le, Int32.reduceToInt, ← Int32.toInt_inj, true_and, and_true, or_true, true_or, false_or, or_false, false_and, and_false, not_true_eq_false, not_false_eq_true] <;> omega))
                try simp only [Int32.reduceToInt] at h_668
                refine v_aload_n hC dX12_readLoss_172 rfl ?_
                refine v_ldcwS hC sr_X12_295 dX12_readLoss_173 ?_
                refine v_aload_n hC dX12_readLoss_176 rfl ?_
                refine v_get hC fl_X12_34 m_1 hf_662 rfl dX12_readLoss_177 ?_
                refine v_iload_n hC dX12_readLoss_180 rfl ?_
                refine v_iconst hC dX12_readLoss_181 (v := 1) (by decide) ?_
                obtain ⟨v_669, h_670⟩ : ∃ v9 : Int32, v_41 + 1 = v9 := ⟨_, rfl⟩
                refine v_iadd hC dX12_readLoss_182 h_670 ?_
                have h_671 := add_v h_670 (by first | omega | (simp only [Int32.lt_iff_toInt_lt, Int32.le_iff_toInt_le, Int32.reduceToInt, ← Int32.toInt_inj, true_and, and_true, or_true, true_or, false_or, or_false, false_and, and_false, not_true_eq_false, not_false_eq_true] <;> omega)) (by first | omega | (simp only [Int32.lt_iff_toInt_lt, Int32.le_iff_toInt_le, Int32.reduceToInt, ← Int32.toInt_inj, true_and, and_true, or_true, true_or, false_or, or_false, false_and, and_false, not_true_eq_false, not_false_eq_true] <;> omega))
                try simp only [Int32.reduceToInt] at h_671
                obtain ⟨v_672, h_673⟩ : ∃ v9 : Int32, g_658 (v_669 : Int32).toNatClampNeg = v9 := ⟨_, rfl⟩
                refine v_iald hC m_22 hf_656 (vp_in_iff.mpr (by first | omega | (simp only [Int32.lt_iff_toInt_lt, Int32.le_iff_toInt_le, Int32.reduceToInt, ← Int32.toInt_inj, true_and, and_true, or_true, true_or, false_or, or_false, false_and, and_false, not_true_eq_false, not_false_eq_true] <;> omega))) h_673 dX12_readLoss_183 ?_
                refine v_bipush hC dX12_readLoss_184 (v := 15) (by decide) ?_
                refine v_vi hC (rest := [.int v_666, .ref (q 14)]) m_1 hf_662 rfl mi_X12_told ms_X12_told (p_X12_told hW_659 k_0 (by decide)) mx_X12_told ml_X12_189 (by decide) rfl (cells1 := 0) (slots1 := 0) (by decide) (by decide) (Nat.le_of_ble_eq_true rfl) (Nat.le_of_ble_eq_true rfl) rfl (Nat.le_of_ble_eq_true rfl) dX12_readLoss_186 (fun r_674 L_675 f_676 h_677 => ?_)
                obtain ⟨rfl, hW_679, hF_680, -, -, -, -, -, x_678⟩ := h_677
                have fe_681 : fld (f_655 a_0) 8 = (v_643 : Int32).toInt := by rw [hf_662]; rfl
                have fe_682 : fld (f_655 a_0) 12 = (v_647 : Int32).toInt := by rw [hf_662]; rfl
                have hf_683 := hF_680.at hf_656 rfl
                obtain ⟨v_685, v_686, v_687, v_688, v_689, v_690, v_691, v_692, v_693, v_694, v_695, e_684, -, -, -, -, -, -, -⟩ := hW_679.at m_1 t_2
                have fe_696 : fld (f_676 a_0) 8 = (v_688 : Int32).toInt := by rw [e_684]; rfl
                have fe_697 : fld (f_676 a_0) 9 = (v_689 : Int32).toInt := by rw [e_684]; rfl
                have fe_698 : fld (f_676 a_0) 10 = (v_690 : Int32).toInt := by rw [e_684]; rfl
                have fe_699 : fld (f_676 a_0) 12 = (v_692 : Int32).toInt := by rw [e_684]; rfl
                rw [fe_699, fe_682, fe_681, fe_697, fe_696, fe_698] at x_678
                clear fe_681 fe_682 fe_696 fe_697 fe_698 fe_699
                try simp only [Int32.reduceToInt, Int64.reduceToInt] at x_678
                refine v_iast hC m_22 hf_683 (vp_in_iff.mpr (by first | omega | (simp only [Int32.lt_iff_toInt_lt, Int32.le_iff_toInt_le, Int32.reduceToInt, ← Int32.toInt_inj, true_and, and_true, or_true, true_or, false_or, or_false, false_and, and_false, not_true_eq_false, not_false_eq_true] <;> omega))) dX12_readLoss_189 (fun f_700 hf_701 hk_702 => ?_)
                have hW_704 := hW_679.up hf_701 hk_702 t_23 ⟨_, rfl, (ok_660.up (by first | omega | (simp only [Int32.lt_iff_toInt_lt, Int32.le_iff_toInt_le, Int32.reduceToInt, ← Int32.toInt_inj, true_and, and_true, or_true, true_or, false_or, or_false, false_and, and_false, not_true_eq_false, not_false_eq_true] <;> omega)) (fun q1 q2 => (by first | omega | (simp only [Int32.lt_iff_toInt_lt, Int32.le_iff_toInt_le, Int32.reduceToInt, ← Int32.toInt_inj] at *; omega))) (fun k9 q1 q2 q3 => (by first | omega | (simp only [Int32.lt_iff_toInt_lt, Int32.le_iff_toInt_le, Int32.reduceToInt, ← Int32.toInt_inj] at *; omega))))⟩
                obtain ⟨g_703, hf_701, ok_705, eg_706⟩ : ∃ g9, f_700 (q 14) = aI E 2076 g9 ∧ FOK g9 ∧ g9 = upd g_658 (v_666 : Int32).toNatClampNeg r_674 := ⟨_, hf_701, (ok_660.up (by first | omega | (simp only [Int32.lt_iff_toInt_lt, Int32.le_iff_toInt_le, Int32.reduceToInt, ← Int32.toInt_inj, true_and, and_true, or_true, true_or, false_or, or_false, false_and, and_false, not_true_eq_false, not_false_eq_true] <;> omega)) (fun q1 q2 => (by first | omega | (simp only [Int32.lt_iff_toInt_lt, Int32.le_iff_toInt_le, Int32.reduceToInt, ← Int32.toInt_inj] at *; omega))) (fun k9 q1 q2 q3 => (by first | omega | (simp only [Int32.lt_iff_toInt_lt, Int32.le_iff_toInt_le, Int32.reduceToInt, ← Int32.toInt_inj] at *; omega)))), rfl⟩
                have hf_707 := (hk_702 a_0 (ne_kd e_684 hf_683 rfl)).trans e_684
                have fr_708 := FR.w hk_702 hf_683 (k := 2176) rfl
                have lk_709 := l2_at (g0 := g_f) eg_706 (by omega) (by omega)
                have ag_710 := ag_665.st eg_706 (by omega) (by omega)
                try simp only [Int32.reduceToInt] at lk_709
                refine v_goto hC dX12_readLoss_190 (tgt := 258) (by decide) ?_
                refine v_aload_n hC dX12_readLoss_258 rfl ?_
                refine v_vv hC (rest := []) m_1 hf_707 rfl mi_X12_ends ms_X12_ends (p_X12_ends hW_704 k_0) mx_X12_ends ml_X12_178 (by decide) rfl (cells1 := 0) (slots1 := 0) (by decide) (by decide) (Nat.le_of_ble_eq_true rfl) (Nat.le_of_ble_eq_true rfl) rfl (Nat.le_of_ble_eq_true rfl) dX12_readLoss_259 (fun L_712 f_713 h_714 => ?_)
                obtain ⟨rfl, hW_716, hF_717, -, -, -, -, x_715⟩ := h_714
                have fe_718 : fld (f_700 a_0) 8 = (v_688 : Int32).toInt := by rw [hf_707]; rfl
                have fe_719 : fld (f_700 a_0) 10 = (v_690 : Int32).toInt := by rw [hf_707]; rfl
                have fe_720 : fld (f_700 a_0) 12 = (v_692 : Int32).toInt := by rw [hf_707]; rfl
                have hf_721 := hF_717.at hf_701 rfl
                obtain ⟨v_723, v_724, v_725, v_726, v_727, v_728, v_729, v_730, v_731, v_732, v_733, e_722, -, -, -, -, -, -, -⟩ := hW_716.at m_1 t_2
                have fe_734 : fld (f_713 a_0) 8 = (v_726 : Int32).toInt := by rw [e_722]; rfl
                have fe_735 : fld (f_713 a_0) 9 = (v_727 : Int32).toInt := by rw [e_722]; rfl
                have fe_736 : fld (f_713 a_0) 10 = (v_728 : Int32).toInt := by rw [e_722]; rfl
                have fe_737 : fld (f_713 a_0) 12 = (v_730 : Int32).toInt := by rw [e_722]; rfl
                rw [fe_737, fe_720, fe_719, fe_718, fe_735, fe_734, fe_736] at x_715
                clear fe_718 fe_719 fe_720 fe_734 fe_735 fe_736 fe_737
                refine v_aload_n hC dX12_readLoss_262 rfl ?_
                refine v_get hC fl_X12_34 m_1 e_722 rfl dX12_readLoss_263 ?_
                refine v_bipush hC dX12_readLoss_266 (v := 6) (by decide) ?_
                refine v_dup2 hC dX12_readLoss_268 rfl rfl ?_
                have l6_738 : (g_703 6).toInt = (g_f 6).toInt := congrArg Int32.toInt ag_710.2.1
                refine v_iald hC m_22 hf_721 (vp_in_iff.mpr (by decide)) (v := g_703 6) rfl dX12_readLoss_269 ?_
                refine v_iconst hC dX12_readLoss_270 (v := 1) (by decide) ?_
                obtain ⟨v_739, h_740⟩ : ∃ v9 : Int32, (g_703 6) + 1 = v9 := ⟨_, rfl⟩
                refine v_iadd hC dX12_readLoss_271 h_740 ?_
                have h_741 := add_v h_740 (by first | omega | (simp only [Int32.lt_iff_toInt_lt, Int32.le_iff_toInt_le, Int32.reduceToInt, ← Int32.toInt_inj, true_and, and_true, or_true, true_or, false_or, or_false, false_and, and_false, not_true_eq_false, not_false_eq_true] <;> omega)) (by first | omega | (simp only [Int32.lt_iff_toInt_lt, Int32.le_iff_toInt_le, Int32.reduceToInt, ← Int32.toInt_inj, true_and, and_true, or_true, true_or, false_or, or_false, false_and, and_false, not_true_eq_false, not_false_eq_true] <;> omega))
                try simp only [Int32.reduceToInt] at h_741
                refine v_iast hC m_22 hf_721 (vp_in_iff.mpr (by decide)) dX12_readLoss_272 (fun f_742 hf_743 hk_744 => ?_)
                have hW_746 := hW_716.up hf_743 hk_744 t_23 ⟨_, rfl, (ok_705.up (i := 6) (by decide) (fun q1 q2 => absurd (And.intro q1 q2) (by decide)) (fun k9 q1 q2 q3 => by simp only [Int32.reduceToInt] at q3; omega))⟩
                obtain ⟨g_745, hf_743, ok_747, eg_748⟩ : ∃ g9, f_742 (q 14) = aI E 2076 g9 ∧ FOK g9 ∧ g9 = upd g_703 (6 : Int32).toNatClampNeg v_739 := ⟨_, hf_743, (ok_705.up (i := 6) (by decide) (fun q1 q2 => absurd (And.intro q1 q2) (by decide)) (fun k9 q1 q2 q3 => by simp only [Int32.reduceToInt] at q3; omega)), rfl⟩
                have hf_749 := (hk_744 a_0 (ne_kd e_722 hf_721 rfl)).trans e_722
                have fr_750 := FR.w hk_744 hf_721 (k := 2176) rfl
                have ln6_751 := FOK.n6 ag_710.1 eg_748
                have ln6_751_t : (g_745 6).toInt = v_739.toInt := congrArg Int32.toInt ln6_751.2
                have fe_752 : fld (f_742 a_0) 12 = (v_730 : Int32).toInt := by rw [hf_749]; rfl
                have fe_756 : fld (f_742 a_0) 8 = (v_726 : Int32).toInt := by rw [hf_749]; rfl
                have fe_757 : fld (f_742 a_0) 12 = (v_730 : Int32).toInt := by rw [hf_749]; rfl
                exact hR _ _ _ _ _ _ dX12_readLoss_273 (Nat.le_of_ble_eq_true rfl) (Nat.le_of_ble_eq_true rfl) ⟨rfl, hW_746, (((((((((hF_93.tr hF_593).tr fr_622).tr hF_634).tr fr_663).tr hF_680).tr fr_708).tr hF_717).tr fr_750).mono rfl), ⟨_, hf_743, ln6_751.1, (by omega), (by rw [fe_752]; by_cases q9 : v_730.toInt = 0; have gp_753 := x_715.resolve_left (fun h9 => h9 q9); clear x_715; have gp_754 := x_678.resolve_left (fun h9 => h9 gp_753.1); clear x_678; have gp_755 := x_632.resolve_left (fun h9 => h9 gp_754.1); clear x_632; exact .inr (LO.fin hLO ag_710 eg_748 (by omega) (by omega) (fun q8 => by omega)); exact .inl q9)⟩, (by simp only [fe_756, fe_757, mz_36, mz_37]; by_cases q9 : (v_730 : Int32).toInt = 0; have gp_758 := x_715.resolve_left (fun h9 => h9 q9); clear x_715; have gp_759 := x_678.resolve_left (fun h9 => h9 gp_758.1); clear x_678; have gp_760 := x_632.resolve_left (fun h9 => h9 gp_759.1); clear x_632; (right; omega); exact .inl q9)⟩
              · simp only [Int32.lt_iff_toInt_lt, Int32.le_iff_toInt_le, Int32.reduceToInt, ← Int32.toInt_inj] at h_575
                refine v_aload_n hC dX12_readLoss_119 rfl ?_
                refine v_iconst hC dX12_readLoss_120 (v := 1) (by decide) ?_
                refine v_vv hC (rest := []) m_1 e_99 rfl mi_X12_errs ms_X12_errs (p_X12_errs hW_92 k_0 (by decide)) mx_X12_errs ml_X12_162 (by decide) rfl (cells1 := 0) (slots1 := 0) (by decide) (by decide) (Nat.le_of_ble_eq_true rfl) (Nat.le_of_ble_eq_true rfl) rfl (Nat.le_of_ble_eq_true rfl) dX12_readLoss_121 (fun L_762 f_763 h_764 => ?_)
                obtain ⟨rfl, hW_767, hF_768, x_765, x_766, -, -, -⟩ := h_764
                have fe_769 : fld (f_87 a_0) 8 = (v_103 : Int32).toInt := by rw [e_99]; rfl
                have hf_770 := hF_768.at hf_98 rfl
                obtain ⟨v_772, v_773, v_774, v_775, v_776, v_777, v_778, v_779, v_780, v_781, v_782, e_771, -, -, -, -, -, -, -⟩ := hW_767.at m_1 t_2
                have fe_783 : fld (f_763 a_0) 8 = (v_775 : Int32).toInt := by rw [e_771]; rfl
                have fe_784 : fld (f_763 a_0) 12 = (v_779 : Int32).toInt := by rw [e_771]; rfl
                rw [fe_784] at x_765
                rw [fe_783, fe_769] at x_766
                clear fe_769 fe_783 fe_784
                refine v_aload_n hC dX12_readLoss_124 rfl ?_
                refine v_vi hC (rest := []) m_1 e_771 rfl mi_X12_good ms_X12_good (p_X12_good hW_767 k_0) mx_X12_good ml_X12_139 (by decide) rfl (cells1 := 0) (slots1 := 0) (by decide) (by decide) (Nat.le_of_ble_eq_true rfl) (Nat.le_of_ble_eq_true rfl) rfl (Nat.le_of_ble_eq_true rfl) dX12_readLoss_125 (fun r_785 L_786 f_787 h_788 => ?_)
                obtain ⟨rfl, rfl, b_789, x_790⟩ := h_788
                have fe_793 : fld (f_763 a_0) 12 = (v_779 : Int32).toInt := by rw [e_771]; rfl
                rw [fe_793] at x_790
                clear fe_793
                try simp only [Int32.reduceToInt, Int64.reduceToInt] at x_790
                refine v_if_eq_t hC dX12_readLoss_128 (tgt := 135) (by decide) (gdb_z x_790 x_765) ?_
                refine v_aload_n hC dX12_readLoss_135 rfl ?_
                refine v_get hC fl_X12_34 m_1 e_771 rfl dX12_readLoss_136 ?_
                refine v_iload_n hC dX12_readLoss_139 rfl ?_
                refine v_iload_n hC dX12_readLoss_140 rfl ?_
                refine v_if_eq_t hC dX12_readLoss_141 (tgt := 148) (by decide) (by first | omega | (simp only [Int32.lt_iff_toInt_lt, Int32.le_iff_toInt_le, Int32.reduceToInt, ← Int32.toInt_inj, true_and, and_true, or_true, true_or, false_or, or_false, false_and, and_false, not_true_eq_false, not_false_eq_true] <;> omega)) ?_
                refine v_iconst hC dX12_readLoss_148 (v := 0) (by decide) ?_
                refine v_iast hC m_22 hf_770 (vp_in_iff.mpr (by first | omega | (simp only [Int32.lt_iff_toInt_lt, Int32.le_iff_toInt_le, Int32.reduceToInt, ← Int32.toInt_inj, true_and, and_true, or_true, true_or, false_or, or_false, false_and, and_false, not_true_eq_false, not_false_eq_true] <;> omega))) dX12_readLoss_149 (fun f_794 hf_795 hk_796 => ?_)
                have hW_798 := hW_767.up hf_795 hk_796 t_23 ⟨_, rfl, (o_f.up (by first | omega | (simp only [Int32.lt_iff_toInt_lt, Int32.le_iff_toInt_le, Int32.reduceToInt, ← Int32.toInt_inj, true_and, and_true, or_true, true_or, false_or, or_false, false_and, and_false, not_true_eq_false, not_false_eq_true] <;> omega)) (fun q1 q2 => (by first | omega | (simp only [Int32.lt_iff_toInt_lt, Int32.le_iff_toInt_le, Int32.reduceToInt, ← Int32.toInt_inj] at *; omega))) (fun k9 q1 q2 q3 => (by first | omega | (simp only [Int32.lt_iff_toInt_lt, Int32.le_iff_toInt_le, Int32.reduceToInt, ← Int32.toInt_inj] at *; omega))))⟩
                obtain ⟨g_797, hf_795, ok_799, eg_800⟩ : ∃ g9, f_794 (q 14) = aI E 2076 g9 ∧ FOK g9 ∧ g9 = upd g_f (v_41 : Int32).toNatClampNeg 0 := ⟨_, hf_795, (o_f.up (by first | omega | (simp only [Int32.lt_iff_toInt_lt, Int32.le_iff_toInt_le, Int32.reduceToInt, ← Int32.toInt_inj, true_and, and_true, or_true, true_or, false_or, or_false, false_and, and_false, not_true_eq_false, not_false_eq_true] <;> omega)) (fun q1 q2 => (by first | omega | (simp only [Int32.lt_iff_toInt_lt, Int32.le_iff_toInt_le, Int32.reduceToInt, ← Int32.toInt_inj] at *; omega))) (fun k9 q1 q2 q3 => (by first | omega | (simp only [Int32.lt_iff_toInt_lt, Int32.le_iff_toInt_le, Int32.reduceToInt, ← Int32.toInt_inj] at *; omega)))), rfl⟩
                have hf_801 := (hk_796 a_0 (ne_kd e_771 hf_770 rfl)).trans e_771
                have fr_802 := FR.w hk_796 hf_770 (k := 2176) rfl
                have lk_803 := lk_at (g0 := g_f) eg_800 (by omega) (by omega)
                have ag_804 := (AG.rf o_f).st eg_800 (by omega) (by omega)
                try simp only [Int32.reduceToInt] at lk_803
                refine v_aload_n hC dX12_readLoss_150 rfl ?_
                refine v_get hC fl_X12_34 m_1 hf_801 rfl dX12_readLoss_151 ?_
                refine v_iload_n hC dX12_readLoss_154 rfl ?_
                refine v_iconst hC dX12_readLoss_155 (v := 1) (by decide) ?_
                obtain ⟨v_805, h_806⟩ : ∃ v9 : Int32, v_41 + 1 = v9 := ⟨_, rfl⟩
                refine v_iadd hC dX12_readLoss_156 h_806 ?_
                have h_807 := add_v h_806 (by first | omega | (simp only [Int32.lt_iff_toInt_lt, Int32.le_iff_toInt_le, Int32.reduceToInt, ← Int32.toInt_inj, true_and, and_true, or_true, true_or, false_or, or_false, false_and, and_false, not_true_eq_false, not_false_eq_true] <;> omega)) (by first | omega | (simp only [Int32.lt_iff_toInt_lt, Int32.le_iff_toInt_le, Int32.reduceToInt, ← Int32.toInt_inj, true_and, and_true, or_true, true_or, false_or, or_false, false_and, and_false, not_true_eq_false, not_false_eq_true] <;> omega))
                try simp only [Int32.reduceToInt] at h_807
                refine v_aload_n hC dX12_readLoss_157 rfl ?_
                refine v_iconst hC dX12_readLoss_158 (v := 0) (by decide) ?_
                refine v_bipush hC dX12_readLoss_159 (v := 15) (by decide) ?_
                refine v_vi hC (rest := [.int v_805, .ref (q 14)]) m_1 hf_801 rfl mi_X12_number ms_X12_number (p_X12_number hW_798 k_0) mx_X12_number ml_X12_170 (by decide) rfl (cells1 := 0) (slots1 := 0) (by decide) (by decide) (Nat.le_of_ble_eq_true rfl) (Nat.le_of_ble_eq_true rfl) rfl (Nat.le_of_ble_eq_true rfl) dX12_readLoss_161 (fun r_808 L_809 f_810 h_811 => ?_)
                obtain ⟨rfl, hW_813, hF_814, -, -, -, -, -, x_812⟩ := h_811
                have fe_815 : fld (f_794 a_0) 8 = (v_775 : Int32).toInt := by rw [hf_801]; rfl
                have fe_816 : fld (f_794 a_0) 10 = (v_777 : Int32).toInt := by rw [hf_801]; rfl
                have fe_817 : fld (f_794 a_0) 12 = (v_779 : Int32).toInt := by rw [hf_801]; rfl
                have hf_818 := hF_814.at hf_795 rfl
                obtain ⟨v_820, v_821, v_822, v_823, v_824, v_825, v_826, v_827, v_828, v_829, v_830, e_819, -, -, -, -, -, -, -⟩ := hW_813.at m_1 t_2
                have fe_831 : fld (f_810 a_0) 8 = (v_823 : Int32).toInt := by rw [e_819]; rfl
                have fe_832 : fld (f_810 a_0) 9 = (v_824 : Int32).toInt := by rw [e_819]; rfl
                have fe_833 : fld (f_810 a_0) 10 = (v_825 : Int32).toInt := by rw [e_819]; rfl
                have fe_834 : fld (f_810 a_0) 12 = (v_827 : Int32).toInt := by rw [e_819]; rfl
                rw [fe_834, fe_817, fe_816, fe_815, fe_832, fe_831, fe_833] at x_812
                have nb_835 : ¬ (v_827 : Int32).toInt = 0 := x_812.elim id (fun h9 => absurd h9.1 x_765)
                clear x_812
                clear fe_815 fe_816 fe_817 fe_831 fe_832 fe_833 fe_834
                try simp only [Int32.reduceToInt, Int64.reduceToInt] at x_812
                refine v_iast hC m_22 hf_818 (vp_in_iff.mpr (by first | omega | (simp only [Int32.lt_iff_toInt_lt, Int32.le_iff_toInt_le, Int32.reduceToInt, ← Int32.toInt_inj, true_and, and_true, or_true, true_or, false_or, or_false, false_and, and_false, not_true_eq_false, not_false_eq_true] <;> omega))) dX12_readLoss_164 (fun f_836 hf_837 hk_838 => ?_)
                have hW_840 := hW_813.up hf_837 hk_838 t_23 ⟨_, rfl, (ok_799.up (by first | omega | (simp only [Int32.lt_iff_toInt_lt, Int32.le_iff_toInt_le, Int32.reduceToInt, ← Int32.toInt_inj, true_and, and_true, or_true, true_or, false_or, or_false, false_and, and_false, not_true_eq_false, not_false_eq_true] <;> omega)) (fun q1 q2 => (by first | omega | (simp only [Int32.lt_iff_toInt_lt, Int32.le_iff_toInt_le, Int32.reduceToInt, ← Int32.toInt_inj] at *; omega))) (fun k9 q1 q2 q3 => (by first | omega | (simp only [Int32.lt_iff_toInt_lt, Int32.le_iff_toInt_le, Int32.reduceToInt, ← Int32.toInt_inj] at *; omega))))⟩
                obtain ⟨g_839, hf_837, ok_841, eg_842⟩ : ∃ g9, f_836 (q 14) = aI E 2076 g9 ∧ FOK g9 ∧ g9 = upd g_797 (v_805 : Int32).toNatClampNeg r_808 := ⟨_, hf_837, (ok_799.up (by first | omega | (simp only [Int32.lt_iff_toInt_lt, Int32.le_iff_toInt_le, Int32.reduceToInt, ← Int32.toInt_inj, true_and, and_true, or_true, true_or, false_or, or_false, false_and, and_false, not_true_eq_false, not_false_eq_true] <;> omega)) (fun q1 q2 => (by first | omega | (simp only [Int32.lt_iff_toInt_lt, Int32.le_iff_toInt_le, Int32.reduceToInt, ← Int32.toInt_inj] at *; omega))) (fun k9 q1 q2 q3 => (by first | omega | (simp only [Int32.lt_iff_toInt_lt, Int32.le_iff_toInt_le, Int32.reduceToInt, ← Int32.toInt_inj] at *; omega)))), rfl⟩
                have hf_843 := (hk_838 a_0 (ne_kd e_819 hf_818 rfl)).trans e_819
                have fr_844 := FR.w hk_838 hf_818 (k := 2176) rfl
                have lk_845 := lf_at (g0 := g_f) eg_842 (by omega) (by omega)
                have ag_846 := ag_804.st eg_842 (by omega) (by omega)
                try simp only [Int32.reduceToInt] at lk_845
                refine v_aload_n hC dX12_readLoss_165 rfl ?_
                refine v_get hC fl_X12_34 m_1 hf_843 rfl dX12_readLoss_166 ?_
                refine v_iload_n hC dX12_readLoss_169 rfl ?_
                refine v_iconst hC dX12_readLoss_170 (v := 2) (by decide) ?_
                obtain ⟨v_847, h_848⟩ : ∃ v9 : Int32, v_41 + 2 = v9 := ⟨_, rfl⟩
                refine v_iadd hC dX12_readLoss_171 h_848 ?_
                have h_849 := add_v h_848 (by first | omega | (simp only [Int32.lt_iff_toInt_lt, Int32.le_iff_toInt_le, Int32.reduceToInt, ← Int32.toInt_inj, true_and, and_true, or_true, true_or, false_or, or_false, false_and, and_false, not_true_eq_false, not_false_eq_true] <;> omega)) (by first | omega | (simp only [Int32.lt_iff_toInt_lt, Int32.le_iff_toInt_le, Int32.reduceToInt, ← Int32.toInt_inj, true_and, and_true, or_true, true_or, false_or, or_false, false_and, and_false, not_true_eq_false, not_false_eq_true] <;> omega))
                try simp only [Int32.reduceToInt] at h_849
                refine v_aload_n hC dX12_readLoss_172 rfl ?_
                refine v_ldcwS hC sr_X12_295 dX12_readLoss_173 ?_
                refine v_aload_n hC dX12_readLoss_176 rfl ?_
                refine v_get hC fl_X12_34 m_1 hf_843 rfl dX12_readLoss_177 ?_
                refine v_iload_n hC dX12_readLoss_180 rfl ?_
                refine v_iconst hC dX12_readLoss_181 (v := 1) (by decide) ?_
                obtain ⟨v_850, h_851⟩ : ∃ v9 : Int32, v_41 + 1 = v9 := ⟨_, rfl⟩
                refine v_iadd hC dX12_readLoss_182 h_851 ?_
                have h_852 := add_v h_851 (by first | omega | (simp only [Int32.lt_iff_toInt_lt, Int32.le_iff_toInt_le, Int32.reduceToInt, ← Int32.toInt_inj, true_and, and_true, or_true, true_or, false_or, or_false, false_and, and_false, not_true_eq_false, not_false_eq_true] <;> omega)) (by first | omega | (simp only [Int32.lt_iff_toInt_lt, Int32.le_iff_toInt_le, Int32.reduceToInt, ← Int32.toInt_inj, true_and, and_true, or_true, true_or, false_or, or_false, false_and, and_false, not_true_eq_false, not_false_eq_true] <;> omega))
                try simp only [Int32.reduceToInt] at h_852
                obtain ⟨v_853, h_854⟩ : ∃ v9 : Int32, g_839 (v_850 : Int32).toNatClampNeg = v9 := ⟨_, rfl⟩
                refine v_iald hC m_22 hf_837 (vp_in_iff.mpr (by first | omega | (simp only [Int32.lt_iff_toInt_lt, Int32.le_iff_toInt_le, Int32.reduceToInt, ← Int32.toInt_inj, true_and, and_true, or_true, true_or, false_or, or_false, false_and, and_false, not_true_eq_false, not_false_eq_true] <;> omega))) h_854 dX12_readLoss_183 ?_
                refine v_bipush hC dX12_readLoss_184 (v := 15) (by decide) ?_
                refine v_vi hC (rest := [.int v_847, .ref (q 14)]) m_1 hf_843 rfl mi_X12_told ms_X12_told (p_X12_told hW_840 k_0 (by decide)) mx_X12_told ml_X12_189 (by decide) rfl (cells1 := 0) (slots1 := 0) (by decide) (by decide) (Nat.le_of_ble_eq_true rfl) (Nat.le_of_ble_eq_true rfl) rfl (Nat.le_of_ble_eq_true rfl) dX12_readLoss_186 (fun r_855 L_856 f_857 h_858 => ?_)
                obtain ⟨rfl, hW_860, hF_861, -, -, -, -, -, x_859⟩ := h_858
                have fe_862 : fld (f_836 a_0) 8 = (v_823 : Int32).toInt := by rw [hf_843]; rfl
                have fe_863 : fld (f_836 a_0) 12 = (v_827 : Int32).toInt := by rw [hf_843]; rfl
                have hf_864 := hF_861.at hf_837 rfl
                obtain ⟨v_866, v_867, v_868, v_869, v_870, v_871, v_872, v_873, v_874, v_875, v_876, e_865, -, -, -, -, -, -, -⟩ := hW_860.at m_1 t_2
                have fe_877 : fld (f_857 a_0) 8 = (v_869 : Int32).toInt := by rw [e_865]; rfl
                have fe_878 : fld (f_857 a_0) 9 = (v_870 : Int32).toInt := by rw [e_865]; rfl
                have fe_879 : fld (f_857 a_0) 10 = (v_871 : Int32).toInt := by rw [e_865]; rfl
                have fe_880 : fld (f_857 a_0) 12 = (v_873 : Int32).toInt := by rw [e_865]; rfl
                rw [fe_880, fe_863, fe_862, fe_878, fe_877, fe_879] at x_859
                have nb_881 : ¬ (v_873 : Int32).toInt = 0 := x_859.elim id (fun h9 => absurd h9.1 nb_835)
                clear x_859
                clear fe_862 fe_863 fe_877 fe_878 fe_879 fe_880
                try simp only [Int32.reduceToInt, Int64.reduceToInt] at x_859
                refine v_iast hC m_22 hf_864 (vp_in_iff.mpr (by first | omega | (simp only [Int32.lt_iff_toInt_lt, Int32.le_iff_toInt_le, Int32.reduceToInt, ← Int32.toInt_inj, true_and, and_true, or_true, true_or, false_or, or_false, false_and, and_false, not_true_eq_false, not_false_eq_true] <;> omega))) dX12_readLoss_189 (fun f_882 hf_883 hk_884 => ?_)
                have hW_886 := hW_860.up hf_883 hk_884 t_23 ⟨_, rfl, (ok_841.up (by first | omega | (simp only [Int32.lt_iff_toInt_lt, Int32.le_iff_toInt_le, Int32.reduceToInt, ← Int32.toInt_inj, true_and, and_true, or_true, true_or, false_or, or_false, false_and, and_false, not_true_eq_false, not_false_eq_true] <;> omega)) (fun q1 q2 => (by first | omega | (simp only [Int32.lt_iff_toInt_lt, Int32.le_iff_toInt_le, Int32.reduceToInt, ← Int32.toInt_inj] at *; omega))) (fun k9 q1 q2 q3 => (by first | omega | (simp only [Int32.lt_iff_toInt_lt, Int32.le_iff_toInt_le, Int32.reduceToInt, ← Int32.toInt_inj] at *; omega))))⟩
                obtain ⟨g_885, hf_883, ok_887, eg_888⟩ : ∃ g9, f_882 (q 14) = aI E 2076 g9 ∧ FOK g9 ∧ g9 = upd g_839 (v_847 : Int32).toNatClampNeg r_855 := ⟨_, hf_883, (ok_841.up (by first | omega | (simp only [Int32.lt_iff_toInt_lt, Int32.le_iff_toInt_le, Int32.reduceToInt, ← Int32.toInt_inj, true_and, and_true, or_true, true_or, false_or, or_false, false_and, and_false, not_true_eq_false, not_false_eq_true] <;> omega)) (fun q1 q2 => (by first | omega | (simp only [Int32.lt_iff_toInt_lt, Int32.le_iff_toInt_le, Int32.reduceToInt, ← Int32.toInt_inj] at *; omega))) (fun k9 q1 q2 q3 => (by first | omega | (simp only [Int32.lt_iff_toInt_lt, Int32.le_iff_toInt_le, Int32.reduceToInt, ← Int32.toInt_inj] at *; omega)))), rfl⟩
                have hf_889 := (hk_884 a_0 (ne_kd e_865 hf_864 rfl)).trans e_865
                have fr_890 := FR.w hk_884 hf_864 (k := 2176) rfl
                have lk_891 := l2_at (g0 := g_f) eg_888 (by omega) (by omega)
                have ag_892 := ag_846.st eg_888 (by omega) (by omega)
                try simp only [Int32.reduceToInt] at lk_891
                refine v_goto hC dX12_readLoss_190 (tgt := 258) (by decide) ?_
                refine v_aload_n hC dX12_readLoss_258 rfl ?_
                refine v_vv hC (rest := []) m_1 hf_889 rfl mi_X12_ends ms_X12_ends (p_X12_ends hW_886 k_0) mx_X12_ends ml_X12_178 (by decide) rfl (cells1 := 0) (slots1 := 0) (by decide) (by decide) (Nat.le_of_ble_eq_true rfl) (Nat.le_of_ble_eq_true rfl) rfl (Nat.le_of_ble_eq_true rfl) dX12_readLoss_259 (fun L_894 f_895 h_896 => ?_)
                obtain ⟨rfl, hW_898, hF_899, -, -, -, -, x_897⟩ := h_896
                have fe_900 : fld (f_882 a_0) 8 = (v_869 : Int32).toInt := by rw [hf_889]; rfl
                have fe_901 : fld (f_882 a_0) 10 = (v_871 : Int32).toInt := by rw [hf_889]; rfl
                have fe_902 : fld (f_882 a_0) 12 = (v_873 : Int32).toInt := by rw [hf_889]; rfl
                have hf_903 := hF_899.at hf_883 rfl
                obtain ⟨v_905, v_906, v_907, v_908, v_909, v_910, v_911, v_912, v_913, v_914, v_915, e_904, -, -, -, -, -, -, -⟩ := hW_898.at m_1 t_2
                have fe_916 : fld (f_895 a_0) 8 = (v_908 : Int32).toInt := by rw [e_904]; rfl
                have fe_917 : fld (f_895 a_0) 9 = (v_909 : Int32).toInt := by rw [e_904]; rfl
                have fe_918 : fld (f_895 a_0) 10 = (v_910 : Int32).toInt := by rw [e_904]; rfl
                have fe_919 : fld (f_895 a_0) 12 = (v_912 : Int32).toInt := by rw [e_904]; rfl
                rw [fe_919, fe_902, fe_901, fe_900, fe_917, fe_916, fe_918] at x_897
                have nb_920 : ¬ (v_912 : Int32).toInt = 0 := x_897.elim id (fun h9 => absurd h9.1 nb_881)
                clear x_897
                clear fe_900 fe_901 fe_902 fe_916 fe_917 fe_918 fe_919
                refine v_aload_n hC dX12_readLoss_262 rfl ?_
                refine v_get hC fl_X12_34 m_1 e_904 rfl dX12_readLoss_263 ?_
                refine v_bipush hC dX12_readLoss_266 (v := 6) (by decide) ?_
                refine v_dup2 hC dX12_readLoss_268 rfl rfl ?_
                have l6_921 : (g_885 6).toInt = (g_f 6).toInt := congrArg Int32.toInt ag_892.2.1
                refine v_iald hC m_22 hf_903 (vp_in_iff.mpr (by decide)) (v := g_885 6) rfl dX12_readLoss_269 ?_
                refine v_iconst hC dX12_readLoss_270 (v := 1) (by decide) ?_
                obtain ⟨v_922, h_923⟩ : ∃ v9 : Int32, (g_885 6) + 1 = v9 := ⟨_, rfl⟩
                refine v_iadd hC dX12_readLoss_271 h_923 ?_
                have h_924 := add_v h_923 (by first | omega | (simp only [Int32.lt_iff_toInt_lt, Int32.le_iff_toInt_le, Int32.reduceToInt, ← Int32.toInt_inj, true_and, and_true, or_true, true_or, false_or, or_false, false_and, and_false, not_true_eq_false, not_false_eq_true] <;> omega)) (by first | omega | (simp only [Int32.lt_iff_toInt_lt, Int32.le_iff_toInt_le, Int32.reduceToInt, ← Int32.toInt_inj, true_and, and_true, or_true, true_or, false_or, or_false, false_and, and_false, not_true_eq_false, not_false_eq_true] <;> omega))
                try simp only [Int32.reduceToInt] at h_924
                refine v_iast hC m_22 hf_903 (vp_in_iff.mpr (by decide)) dX12_readLoss_272 (fun f_925 hf_926 hk_927 => ?_)
                have hW_929 := hW_898.up hf_926 hk_927 t_23 ⟨_, rfl, (ok_887.up (i := 6) (by decide) (fun q1 q2 => absurd (And.intro q1 q2) (by decide)) (fun k9 q1 q2 q3 => by simp only [Int32.reduceToInt] at q3; omega))⟩
                obtain ⟨g_928, hf_926, ok_930, eg_931⟩ : ∃ g9, f_925 (q 14) = aI E 2076 g9 ∧ FOK g9 ∧ g9 = upd g_885 (6 : Int32).toNatClampNeg v_922 := ⟨_, hf_926, (ok_887.up (i := 6) (by decide) (fun q1 q2 => absurd (And.intro q1 q2) (by decide)) (fun k9 q1 q2 q3 => by simp only [Int32.reduceToInt] at q3; omega)), rfl⟩
                have hf_932 := (hk_927 a_0 (ne_kd e_904 hf_903 rfl)).trans e_904
                have fr_933 := FR.w hk_927 hf_903 (k := 2176) rfl
                have ln6_934 := FOK.n6 ag_892.1 eg_931
                have ln6_934_t : (g_928 6).toInt = v_922.toInt := congrArg Int32.toInt ln6_934.2
                have fe_935 : fld (f_925 a_0) 12 = (v_912 : Int32).toInt := by rw [hf_932]; rfl
                have fe_936 : fld (f_925 a_0) 8 = (v_908 : Int32).toInt := by rw [hf_932]; rfl
                have fe_937 : fld (f_925 a_0) 12 = (v_912 : Int32).toInt := by rw [hf_932]; rfl
                exact hR _ _ _ _ _ _ dX12_readLoss_273 (Nat.le_of_ble_eq_true rfl) (Nat.le_of_ble_eq_true rfl) ⟨rfl, hW_929, (((((((((hF_93.tr hF_768).tr fr_802).tr hF_814).tr fr_844).tr hF_861).tr fr_890).tr hF_899).tr fr_933).mono rfl), ⟨_, hf_926, ln6_934.1, (by omega), (by rw [fe_935]; exact .inl nb_920)⟩, (by simp only [fe_936, fe_937, mz_36, mz_37]; exact .inl nb_920)⟩
        · simp only [Int32.lt_iff_toInt_lt, Int32.le_iff_toInt_le, Int32.reduceToInt, ← Int32.toInt_inj] at h_81
          have g0_84 := gd_f x_77 h_81
          clear x_77
          have fe_938 : fld (f a_0) 12 = (v_32 : Int32).toInt := by rw [e_24]; rfl
          have fe_939 : fld (f a_0) 8 = (v_28 : Int32).toInt := by rw [e_24]; rfl
          have fe_940 : fld (f a_0) 12 = (v_32 : Int32).toInt := by rw [e_24]; rfl
          exact hR _ _ _ _ _ _ dX12_readLoss_87 (Nat.le_of_ble_eq_true rfl) (Nat.le_of_ble_eq_true rfl) ⟨rfl, hW, FR.rf, ⟨_, e_f, (AG.rf o_f).1, (by omega), (by rw [fe_938]; left; omega)⟩, (by simp only [fe_939, fe_940, mz_36, mz_37]; exact .inl g0_84)⟩
      · simp only [Int32.lt_iff_toInt_lt, Int32.le_iff_toInt_le, Int32.reduceToInt, ← Int32.toInt_inj] at h_70
        refine v_aload_n hC dX12_readLoss_75 rfl ?_
        refine v_iconst hC dX12_readLoss_76 (v := 3) (by decide) ?_
        refine v_vv hC (rest := []) m_1 e_24 rfl mi_X12_errs ms_X12_errs (p_X12_errs hW k_0 (by decide)) mx_X12_errs ml_X12_162 (by decide) rfl (cells1 := 0) (slots1 := 0) (by decide) (by decide) (Nat.le_of_ble_eq_true rfl) (Nat.le_of_ble_eq_true rfl) rfl (Nat.le_of_ble_eq_true rfl) dX12_readLoss_77 (fun L_942 f_943 h_944 => ?_)
        obtain ⟨rfl, hW_947, hF_948, x_945, x_946, -, -, -⟩ := h_944
        have fe_949 : fld (f a_0) 8 = (v_28 : Int32).toInt := by rw [e_24]; rfl
        have hf_950 := hF_948.at e_f rfl
        obtain ⟨v_952, v_953, v_954, v_955, v_956, v_957, v_958, v_959, v_960, v_961, v_962, e_951, -, -, -, -, -, -, -⟩ := hW_947.at m_1 t_2
        have fe_963 : fld (f_943 a_0) 8 = (v_955 : Int32).toInt := by rw [e_951]; rfl
        have fe_964 : fld (f_943 a_0) 12 = (v_959 : Int32).toInt := by rw [e_951]; rfl
        rw [fe_964] at x_945
        rw [fe_963, fe_949] at x_946
        clear fe_949 fe_963 fe_964
        refine v_aload_n hC dX12_readLoss_80 rfl ?_
        refine v_vi hC (rest := []) m_1 e_951 rfl mi_X12_good ms_X12_good (p_X12_good hW_947 k_0) mx_X12_good ml_X12_139 (by decide) rfl (cells1 := 0) (slots1 := 0) (by decide) (by decide) (Nat.le_of_ble_eq_true rfl) (Nat.le_of_ble_eq_true rfl) rfl (Nat.le_of_ble_eq_true rfl) dX12_readLoss_81 (fun r_965 L_966 f_967 h_968 => ?_)
        obtain ⟨rfl, rfl, b_969, x_970⟩ := h_968
        have fe_973 : fld (f_943 a_0) 12 = (v_959 : Int32).toInt := by rw [e_951]; rfl
        rw [fe_973] at x_970
        clear fe_973
        try simp only [Int32.reduceToInt, Int64.reduceToInt] at x_970
        refine v_if_ne_f hC dX12_readLoss_84 (tgt := 88) (by decide) (gdb_z x_970 x_945) ?_
        have fe_974 : fld (f_943 a_0) 12 = (v_959 : Int32).toInt := by rw [e_951]; rfl
        have fe_975 : fld (f_943 a_0) 8 = (v_955 : Int32).toInt := by rw [e_951]; rfl
        have fe_976 : fld (f_943 a_0) 12 = (v_959 : Int32).toInt := by rw [e_951]; rfl
        exact hR _ _ _ _ _ _ dX12_readLoss_87 (Nat.le_of_ble_eq_true rfl) (Nat.le_of_ble_eq_true rfl) ⟨rfl, hW_947, (hF_948.mono rfl), ⟨_, hf_950, (AG.rf o_f).1, (by omega), (by rw [fe_974]; left; omega)⟩, (by simp only [fe_975, fe_976, mz_36, mz_37]; exact .inl x_945)⟩
    · simp only [Int32.lt_iff_toInt_lt, Int32.le_iff_toInt_le, Int32.reduceToInt, ← Int32.toInt_inj] at h_68
      refine v_aload_n hC dX12_readLoss_54 rfl ?_
      refine v_iconst hC dX12_readLoss_55 (v := 1) (by decide) ?_
      refine v_vv hC (rest := []) m_1 e_24 rfl mi_X12_errs ms_X12_errs (p_X12_errs hW k_0 (by decide)) mx_X12_errs ml_X12_162 (by decide) rfl (cells1 := 0) (slots1 := 0) (by decide) (by decide) (Nat.le_of_ble_eq_true rfl) (Nat.le_of_ble_eq_true rfl) rfl (Nat.le_of_ble_eq_true rfl) dX12_readLoss_56 (fun L_978 f_979 h_980 => ?_)
      obtain ⟨rfl, hW_983, hF_984, x_981, x_982, -, -, -⟩ := h_980
      have fe_985 : fld (f a_0) 8 = (v_28 : Int32).toInt := by rw [e_24]; rfl
      have hf_986 := hF_984.at e_f rfl
      obtain ⟨v_988, v_989, v_990, v_991, v_992, v_993, v_994, v_995, v_996, v_997, v_998, e_987, -, -, -, -, -, -, -⟩ := hW_983.at m_1 t_2
      have fe_999 : fld (f_979 a_0) 8 = (v_991 : Int32).toInt := by rw [e_987]; rfl
      have fe_1000 : fld (f_979 a_0) 12 = (v_995 : Int32).toInt := by rw [e_987]; rfl
      rw [fe_1000] at x_981
      rw [fe_999, fe_985] at x_982
      clear fe_985 fe_999 fe_1000
      refine v_iload_n hC dX12_readLoss_59 rfl ?_
      refine v_if_eq_t hC dX12_readLoss_60 (tgt := 80) (by decide) (by first | omega | (simp only [Int32.lt_iff_toInt_lt, Int32.le_iff_toInt_le, Int32.reduceToInt, ← Int32.toInt_inj, true_and, and_true, or_true, true_or, false_or, or_false, false_and, and_false, not_true_eq_false, not_false_eq_true] <;> omega)) ?_
      refine v_aload_n hC dX12_readLoss_80 rfl ?_
      refine v_vi hC (rest := []) m_1 e_987 rfl mi_X12_good ms_X12_good (p_X12_good hW_983 k_0) mx_X12_good ml_X12_139 (by decide) rfl (cells1 := 0) (slots1 := 0) (by decide) (by decide) (Nat.le_of_ble_eq_true rfl) (Nat.le_of_ble_eq_true rfl) rfl (Nat.le_of_ble_eq_true rfl) dX12_readLoss_81 (fun r_1001 L_1002 f_1003 h_1004 => ?_)
      obtain ⟨rfl, rfl, b_1005, x_1006⟩ := h_1004
      have fe_1009 : fld (f_979 a_0) 12 = (v_995 : Int32).toInt := by rw [e_987]; rfl
      rw [fe_1009] at x_1006
      clear fe_1009
      try simp only [Int32.reduceToInt, Int64.reduceToInt] at x_1006
      refine v_if_ne_f hC dX12_readLoss_84 (tgt := 88) (by decide) (gdb_z x_1006 x_981) ?_
      have fe_1010 : fld (f_979 a_0) 12 = (v_995 : Int32).toInt := by rw [e_987]; rfl
      have fe_1011 : fld (f_979 a_0) 8 = (v_991 : Int32).toInt := by rw [e_987]; rfl
      have fe_1012 : fld (f_979 a_0) 12 = (v_995 : Int32).toInt := by rw [e_987]; rfl
      exact hR _ _ _ _ _ _ dX12_readLoss_87 (Nat.le_of_ble_eq_true rfl) (Nat.le_of_ble_eq_true rfl) ⟨rfl, hW_983, (hF_984.mono rfl), ⟨_, hf_986, (AG.rf o_f).1, (by omega), (by rw [fe_1010]; left; omega)⟩, (by simp only [fe_1011, fe_1012, mz_36, mz_37]; exact .inl x_981)⟩
  refine v_if_ne hC dX12_readLoss_21 (tgt := 44) (by decide) (fun h_50 => ?_) (fun h_50 => ?_)
  · simp only [Int32.lt_iff_toInt_lt, Int32.le_iff_toInt_le, Int32.reduceToInt, ← Int32.toInt_inj] at h_50
    refine v_iconst hC dX12_readLoss_44 (v := 1) (by decide) ?_
    refine v_goto hC dX12_readLoss_45 (tgt := 49) (by decide) ?_
    refine v_pick [0, 1] rfl ?_
    exact jn_65 1 (by decide)
  · simp only [Int32.lt_iff_toInt_lt, Int32.le_iff_toInt_le, Int32.reduceToInt, ← Int32.toInt_inj] at h_50
    refine v_aload_n hC dX12_readLoss_24 rfl ?_
    refine v_ldcwS hC sr_X12_289 dX12_readLoss_25 ?_
    refine v_vi hC (rest := []) m_1 e_24 rfl mi_X12_is ms_X12_is (p_X12_is hW k_0 (by decide)) mx_X12_is ml_X12_152 (by decide) rfl (cells1 := 0) (slots1 := 0) (by decide) (by decide) (Nat.le_of_ble_eq_true rfl) (Nat.le_of_ble_eq_true rfl) rfl (Nat.le_of_ble_eq_true rfl) dX12_readLoss_28 (fun r_1013 L_1014 f_1015 h_1016 => ?_)
    obtain ⟨rfl, rfl, rfl⟩ := h_1016
    refine v_if_ne hC dX12_readLoss_31 (tgt := 44) (by decide) (fun h_1019 => ?_) (fun h_1019 => ?_)
    · simp only [Int32.lt_iff_toInt_lt, Int32.le_iff_toInt_le, Int32.reduceToInt, ← Int32.toInt_inj] at h_1019
      refine v_iconst hC dX12_readLoss_44 (v := 1) (by decide) ?_
      refine v_goto hC dX12_readLoss_45 (tgt := 49) (by decide) ?_
      refine v_pick [0, 1] rfl ?_
      exact jn_65 1 (by decide)
    · simp only [Int32.lt_iff_toInt_lt, Int32.le_iff_toInt_le, Int32.reduceToInt, ← Int32.toInt_inj] at h_1019
      refine v_aload_n hC dX12_readLoss_34 rfl ?_
      refine v_ldcwS hC sr_X12_291 dX12_readLoss_35 ?_
      refine v_vi hC (rest := []) m_1 e_24 rfl mi_X12_is ms_X12_is (p_X12_is hW k_0 (by decide)) mx_X12_is ml_X12_152 (by decide) rfl (cells1 := 0) (slots1 := 0) (by decide) (by decide) (Nat.le_of_ble_eq_true rfl) (Nat.le_of_ble_eq_true rfl) rfl (Nat.le_of_ble_eq_true rfl) dX12_readLoss_38 (fun r_1020 L_1021 f_1022 h_1023 => ?_)
      obtain ⟨rfl, rfl, rfl⟩ := h_1023
      refine v_if_eq hC dX12_readLoss_41 (tgt := 48) (by decide) (fun h_1026 => ?_) (fun h_1026 => ?_)
      · simp only [Int32.lt_iff_toInt_lt, Int32.le_iff_toInt_le, Int32.reduceToInt, ← Int32.toInt_inj] at h_1026
        refine v_iconst hC dX12_readLoss_48 (v := 0) (by decide) ?_
        refine v_pick [0, 1] rfl ?_
        exact jn_65 0 (by decide)
      · simp only [Int32.lt_iff_toInt_lt, Int32.le_iff_toInt_le, Int32.reduceToInt, ← Int32.toInt_inj] at h_1026
        refine v_iconst hC dX12_readLoss_44 (v := 1) (by decide) ?_
        refine v_goto hC dX12_readLoss_45 (tgt := 49) (by decide) ?_
        refine v_pick [0, 1] rfl ?_
        exact jn_65 1 (by decide)
set_option maxRecDepth 100000 in
set_option maxHeartbeats 8000000 in
theorem p_X12_losses {l : Launch} {E : Ez} {L : List Nat} {f : Nat → va_E} {T : Nat → va_E → Prop} {a_0 : Nat} {q : Nat → Nat} (hW : WT T L f) (k_0 : isM T L E a_0 q) : CI l yX12_losses cX12_losses 1 .int 9 0 0 E [.ref a_0] L f (fun r L1 f1 => L = L1 ∧ WT T L f1 ∧ FR [12, 2176] f f1) := by
  refine ci_of (by decide) (Nat.le_of_ble_eq_true rfl) (fun z hz hnm hC hR => ?_)
  have hC : Cx z E cX12_losses RX12 1 9 0 0 := hC
  subst hz
  show V z E 1 0 0 L f 0 [(0, .ref a_0)] []
  obtain ⟨m_1, t_2, nq_21, k_3, k_4, k_5, k_6, k_7, k_8, k_9, k_10, k_11, k_12, k_13, k_14, k_15, k_16, k_17, k_18, k_19, k_20⟩ := id k_0
  refine v_aload_n hC dX12_losses_0 rfl ?_
  obtain ⟨v_23, v_24, v_26, v_28, v_30, v_32, v_34, v_35, v_36, v_37, v_39, e_22, b_25, b_27, b_29, b_31, b_33, b_38, b_40⟩ := hW.at m_1 t_2
  refine v_vv hC (rest := []) m_1 e_22 rfl mi_X12_begin ms_X12_begin (p_X12_begin hW k_0) mx_X12_begin ml_X12_181 (by decide) rfl (cells1 := 0) (slots1 := 0) (by decide) (by decide) (Nat.le_of_ble_eq_true rfl) (Nat.le_of_ble_eq_true rfl) rfl (Nat.le_of_ble_eq_true rfl) dX12_losses_1 (fun L_42 f_43 h_44 => ?_)
  obtain ⟨rfl, hW_48, hF_49, x_45, x_46, x_47⟩ := h_44
  have fe_50 : fld (f a_0) 20 = (v_39 : Int32).toInt := by rw [e_22]; rfl
  obtain ⟨v_52, v_53, v_55, v_57, v_59, v_61, v_63, v_64, v_65, v_66, v_68, e_51, b_54, b_56, b_58, b_60, b_62, b_67, b_69⟩ := hW_48.at m_1 t_2
  have fe_70 : fld (f_43 a_0) 8 = (v_57 : Int32).toInt := by rw [e_51]; rfl
  have fe_71 : fld (f_43 a_0) 12 = (v_64 : Int32).toInt := by rw [e_51]; rfl
  have fe_72 : fld (f_43 a_0) 20 = (v_68 : Int32).toInt := by rw [e_51]; rfl
  rw [fe_71] at x_45
  rw [fe_70] at x_46
  rw [fe_72, fe_50] at x_47
  clear fe_50 fe_70 fe_71 fe_72
  refine v_aload_n hC dX12_losses_4 rfl ?_
  refine v_get hC fl_X12_34 m_1 e_51 rfl dX12_losses_5 ?_
  refine v_bipush hC dX12_losses_8 (v := 6) (by decide) ?_
  refine v_iconst hC dX12_losses_10 (v := 0) (by decide) ?_
  obtain ⟨m_73, t_74⟩ := id k_8
  obtain ⟨g_76, e_75, ok_77⟩ := hW_48.at m_73 t_74
  refine v_iast hC m_73 e_75 (vp_in_iff.mpr (by decide)) dX12_losses_11 (fun f_78 hf_79 hk_80 => ?_)
  have hW_82 := hW_48.up hf_79 hk_80 t_74 ⟨_, rfl, (ok_77.up (i := 6) (by decide) (fun q1 q2 => absurd (And.intro q1 q2) (by decide)) (fun k9 q1 q2 q3 => by simp only [Int32.reduceToInt] at q3; omega))⟩
  obtain ⟨g_81, hf_79, ok_83, eg_84⟩ : ∃ g9, f_78 (q 14) = aI E 2076 g9 ∧ FOK g9 ∧ g9 = upd g_76 (6 : Int32).toNatClampNeg 0 := ⟨_, hf_79, (ok_77.up (i := 6) (by decide) (fun q1 q2 => absurd (And.intro q1 q2) (by decide)) (fun k9 q1 q2 q3 => by simp only [Int32.reduceToInt] at q3; omega)), rfl⟩
  have hf_85 := (hk_80 a_0 (ne_kd e_51 e_75 rfl)).trans e_51
  have fr_86 := FR.w hk_80 e_75 (k := 2176) rfl
  have gz_87 : (g_81 6).toInt = 0 := by rw [eg_84]; rfl
  have lo_88 : LO g_81 := fun l9 h9 => absurd h9 (by omega)
  refine v_aload_n hC dX12_losses_12 rfl ?_
  refine v_vv hC (rest := []) m_1 hf_85 rfl mi_X12_advance ms_X12_advance (p_X12_advance hW_82 k_0) mx_X12_advance ml_X12_156 (by decide) rfl (cells1 := 0) (slots1 := 0) (by decide) (by decide) (Nat.le_of_ble_eq_true rfl) (Nat.le_of_ble_eq_true rfl) rfl (Nat.le_of_ble_eq_true rfl) dX12_losses_13 (fun L_90 f_91 h_92 => ?_)
  obtain ⟨rfl, hW_94, hF_95, -, -, x_93, -⟩ := h_92
  have fe_96 : fld (f_78 a_0) 12 = (v_64 : Int32).toInt := by rw [hf_85]; rfl
  have hf_97 := hF_95.at hf_79 rfl
  obtain ⟨v_99, v_100, v_102, v_104, v_106, v_108, v_110, v_111, v_112, v_113, v_115, e_98, b_101, b_103, b_105, b_107, b_109, b_114, b_116⟩ := hW_94.at m_1 t_2
  have fe_117 : fld (f_91 a_0) 12 = (v_111 : Int32).toInt := by rw [e_98]; rfl
  rw [fe_117, fe_96] at x_93
  clear fe_96 fe_117
  have lp_486 : ∀ (n_487 : Nat) (f_482 : Nat → va_E) (hW_483 : WT T L f_482) (hF_484 : FR [12, 2176] f_91 f_482)  (cv_485 : ∃ g9 : Nat → Int32, (f_482 (q 14)) = aI E 2076 g9 ∧ FOK g9 ∧ (0 ≤ (g9 6).toInt ∧ (g9 6).toInt ≤ 12) ∧ (¬ fld (f_482 a_0) 12 = 0 ∨ LO g9)) (hm_489 : gm (f_482 a_0) < (n_487 : Int)), V z E 1 0 0 L f_482 16 [(0, .ref a_0)] [] := by
    intro n_487
    induction n_487 with
    | zero =>
      intro f_482 hW_483 hF_484 cv_485 hm_489
      obtain ⟨g_490, e_491, ok_492, bl_493, lo_494⟩ := cv_485
      obtain ⟨v_496, v_497, v_499, v_501, v_503, v_505, v_507, v_508, v_509, v_510, v_512, e_495, b_498, b_500, b_502, b_504, b_506, b_511, b_513⟩ := hW_483.at m_1 t_2
      have fe_514 : fld (f_482 a_0) 12 = (v_508 : Int32).toInt := by rw [e_495]; rfl
      rw [fe_514] at lo_494
      have gb_515 := gm_b (f_482 a_0)
      have fe_516 : fld (f_482 a_0) 8 = (v_501 : Int32).toInt := by rw [e_495]; rfl
      have fe_517 : fld (f_482 a_0) 12 = (v_508 : Int32).toInt := by rw [e_495]; rfl
      rw [fe_516, fe_517] at gb_515
      exfalso; omega
    | succ n_487 ih_488 =>
      intro f_482 hW_483 hF_484 cv_485 hm_489
      obtain ⟨g_490, e_491, ok_492, bl_493, lo_494⟩ := cv_485
      obtain ⟨v_496, v_497, v_499, v_501, v_503, v_505, v_507, v_508, v_509, v_510, v_512, e_495, b_498, b_500, b_502, b_504, b_506, b_511, b_513⟩ := hW_483.at m_1 t_2
      have fe_514 : fld (f_482 a_0) 12 = (v_508 : Int32).toInt := by rw [e_495]; rfl
      rw [fe_514] at lo_494
      have gb_515 := gm_b (f_482 a_0)
      have fe_516 : fld (f_482 a_0) 8 = (v_501 : Int32).toInt := by rw [e_495]; rfl
      have fe_517 : fld (f_482 a_0) 12 = (v_508 : Int32).toInt := by rw [e_495]; rfl
      rw [fe_516, fe_517] at gb_515
      refine v_aload_n hC dX12_losses_16 rfl ?_
      refine v_vi hC (rest := []) m_1 e_495 rfl mi_X12_good ms_X12_good (p_X12_good hW_483 k_0) mx_X12_good ml_X12_139 (by decide) rfl (cells1 := 0) (slots1 := 0) (by decide) (by decide) (Nat.le_of_ble_eq_true rfl) (Nat.le_of_ble_eq_true rfl) rfl (Nat.le_of_ble_eq_true rfl) dX12_losses_17 (fun r_518 L_519 f_520 h_521 => ?_)
      obtain ⟨rfl, rfl, b_522, x_523⟩ := h_521
      have fe_526 : fld (f_482 a_0) 12 = (v_508 : Int32).toInt := by rw [e_495]; rfl
      rw [fe_526] at x_523
      clear fe_526
      try simp only [Int32.reduceToInt, Int64.reduceToInt] at x_523
      refine v_if_eq hC dX12_losses_20 (tgt := 37) (by decide) (fun h_527 => ?_) (fun h_527 => ?_)
      · simp only [Int32.lt_iff_toInt_lt, Int32.le_iff_toInt_le, Int32.reduceToInt, ← Int32.toInt_inj] at h_527
        have g0_528 := gd_f x_523 h_527
        clear x_523
        refine v_aload_n hC dX12_losses_37 rfl ?_
        refine v_vi hC (rest := []) m_1 e_495 rfl mi_X12_good ms_X12_good (p_X12_good hW_483 k_0) mx_X12_good ml_X12_139 (by decide) rfl (cells1 := 0) (slots1 := 0) (by decide) (by decide) (Nat.le_of_ble_eq_true rfl) (Nat.le_of_ble_eq_true rfl) rfl (Nat.le_of_ble_eq_true rfl) dX12_losses_38 (fun r_531 L_532 f_533 h_534 => ?_)
        obtain ⟨rfl, rfl, b_535, x_536⟩ := h_534
        have fe_539 : fld (f_482 a_0) 12 = (v_508 : Int32).toInt := by rw [e_495]; rfl
        rw [fe_539] at x_536
        clear fe_539
        try simp only [Int32.reduceToInt, Int64.reduceToInt] at x_536
        refine v_if_ne_f hC dX12_losses_41 (tgt := 47) (by decide) (gdb_z x_536 g0_528) ?_
        refine v_bipush hC dX12_losses_44 (v := (-4)) (by decide) ?_
        exact hR _ _ _ _ _ _ _ dX12_losses_46 rfl (Nat.le_of_ble_eq_true rfl) (Nat.le_of_ble_eq_true rfl) ⟨rfl, hW_483, ((((hF_49.tr fr_86).tr hF_95).tr hF_484).mono rfl)⟩
      · simp only [Int32.lt_iff_toInt_lt, Int32.le_iff_toInt_le, Int32.reduceToInt, ← Int32.toInt_inj] at h_527
        have nb_529 : (1 ≤ r_518.toInt ∧ r_518.toInt ≤ 1) := by omega
        have g0_530 := gd_t x_523 h_527
        clear x_523
        refine v_aload_n hC dX12_losses_23 rfl ?_
        refine v_get hC fl_X12_120 m_1 e_495 rfl dX12_losses_24 ?_
        refine v_if_eq hC dX12_losses_27 (tgt := 37) (by decide) (fun h_540 => ?_) (fun h_540 => ?_)
        · simp only [Int32.lt_iff_toInt_lt, Int32.le_iff_toInt_le, Int32.reduceToInt, ← Int32.toInt_inj] at h_540
          refine v_aload_n hC dX12_losses_37 rfl ?_
          refine v_vi hC (rest := []) m_1 e_495 rfl mi_X12_good ms_X12_good (p_X12_good hW_483 k_0) mx_X12_good ml_X12_139 (by decide) rfl (cells1 := 0) (slots1 := 0) (by decide) (by decide) (Nat.le_of_ble_eq_true rfl) (Nat.le_of_ble_eq_true rfl) rfl (Nat.le_of_ble_eq_true rfl) dX12_losses_38 (fun r_542 L_543 f_544 h_545 => ?_)
          obtain ⟨rfl, rfl, b_546, x_547⟩ := h_545
          have fe_550 : fld (f_482 a_0) 12 = (v_508 : Int32).toInt := by rw [e_495]; rfl
          rw [fe_550] at x_547
          clear fe_550
          try simp only [Int32.reduceToInt, Int64.reduceToInt] at x_547
          refine v_if_ne_t hC dX12_losses_41 (tgt := 47) (by decide) (gdb_n x_547 g0_530) ?_
          obtain ⟨m_551, t_552⟩ := id k_3
          obtain ⟨g_554, e_553, ok_555⟩ := hW_483.at m_551 t_552
          have b_556 := ok_555.r0
          have b_557 := ok_555.w0
          refine v_aload_n hC dX12_losses_47 rfl ?_
          refine v_get hC fl_X12_13 m_1 e_495 rfl dX12_losses_48 ?_
          refine v_bipush hC dX12_losses_51 (v := 6) (by decide) ?_
          refine v_aload_n hC dX12_losses_53 rfl ?_
          refine v_get hC fl_X12_34 m_1 e_495 rfl dX12_losses_54 ?_
          refine v_bipush hC dX12_losses_57 (v := 6) (by decide) ?_
          refine v_iald hC m_73 e_491 (vp_in_iff.mpr (by decide)) (v := g_490 6) rfl dX12_losses_59 ?_
          refine v_iast hC m_551 e_553 (vp_in_iff.mpr (by decide)) dX12_losses_60 (fun f_558 hf_559 hk_560 => ?_)
          have hf_561 := (hk_560 a_0 (ne_kd e_495 e_553 rfl)).trans e_495
          have hf_562 := (hk_560 (q 14) nq_21.symm).trans e_491
          refine v_aload_n hC dX12_losses_61 rfl ?_
          refine v_sipush hC dX12_losses_62 (v := 1012) (by decide) ?_
          refine v_sipush hC dX12_losses_65 (v := 1048) (by decide) ?_
          refine v_vv hC (rest := []) m_1 hf_561 rfl mi_X12_keeps ms_X12_keeps (p_X12_keeps k_0 hf_561 hf_559 hf_562 (by decide)) mx_X12_keeps ml_X12_197 (by decide) rfl (cells1 := 0) (slots1 := 0) (by decide) (by decide) (Nat.le_of_ble_eq_true rfl) (Nat.le_of_ble_eq_true rfl) rfl (Nat.le_of_ble_eq_true rfl) dX12_losses_68 (fun L_564 f_565 h_566 => ?_)
          obtain ⟨rfl, hf_567, hk_568⟩ := h_566
          have hf_569 := (hk_568 a_0 (ne_kd hf_561 hf_559 rfl)).trans hf_561
          have hf_570 := (hk_568 (q 14) nq_21.symm).trans hf_562
          have kr_571 : ∀ x9, x9 ≠ (q 1) → f_565 x9 = f_482 x9 := fun x9 hx9 => (hk_568 x9 hx9).trans (hk_560 x9 hx9)
          obtain ⟨g_574, e_575, ok_573, eg_576⟩ : ∃ g9, f_565 (q 1) = aI E 2076 g9 ∧ WOK g9 ∧ g9 = (va_cpy g_490 (upd g_554 6 (g_490 6)) (1012 : Int32).toNatClampNeg (1012 : Int32).toNatClampNeg ((1048 : Int32).toNatClampNeg - (1012 : Int32).toNatClampNeg)) := ⟨_, hf_567, (ok_555.losx (by omega) (lo_494.resolve_left (fun h9 => h9 g0_530))), rfl⟩
          have hW_572 := hW_483.up e_575 kr_571 t_552 ⟨_, rfl, ok_573⟩
          have fr_577 := FR.w kr_571 e_553 (k := 2176) rfl
          have b_578 := ok_573.r0
          have b_579 := ok_573.w0
          refine v_aload_n hC dX12_losses_71 rfl ?_
          refine v_get hC fl_X12_13 m_1 hf_569 rfl dX12_losses_72 ?_
          refine v_bipush hC dX12_losses_75 (v := 6) (by decide) ?_
          refine v_iald hC m_551 e_575 (vp_in_iff.mpr (by decide)) (v := g_574 6) rfl dX12_losses_77 ?_
          exact hR _ _ _ _ _ _ _ dX12_losses_78 rfl (Nat.le_of_ble_eq_true rfl) (Nat.le_of_ble_eq_true rfl) ⟨rfl, hW_572, (((((hF_49.tr fr_86).tr hF_95).tr hF_484).tr fr_577).mono rfl)⟩
        · simp only [Int32.lt_iff_toInt_lt, Int32.le_iff_toInt_le, Int32.reduceToInt, ← Int32.toInt_inj] at h_540
          have nb_541 : (1 ≤ v_505.toInt ∧ v_505.toInt ≤ 4) := by omega
          refine v_aload_n hC dX12_losses_30 rfl ?_
          refine v_vv hC (rest := []) m_1 e_495 rfl mi_X12_readLoss ms_X12_readLoss (p_X12_readLoss hW_483 k_0 e_491 ok_492 (by first | omega | (simp only [Int32.lt_iff_toInt_lt, Int32.le_iff_toInt_le, Int32.reduceToInt, ← Int32.toInt_inj, true_and, and_true, or_true, true_or, false_or, or_false, false_and, and_false, not_true_eq_false, not_false_eq_true] <;> omega)) (lo_494.resolve_left (fun h9 => h9 g0_530))) mx_X12_readLoss ml_X12_298 (by decide) rfl (cells1 := 0) (slots1 := 0) (by decide) (by decide) (Nat.le_of_ble_eq_true rfl) (Nat.le_of_ble_eq_true rfl) rfl (Nat.le_of_ble_eq_true rfl) dX12_losses_31 (fun L_581 f_582 h_583 => ?_)
          obtain ⟨rfl, hW_586, hF_587, x_584, x_585⟩ := h_583
          have fe_588 : fld (f_482 a_0) 8 = (v_501 : Int32).toInt := by rw [e_495]; rfl
          have fe_589 : fld (f_482 a_0) 12 = (v_508 : Int32).toInt := by rw [e_495]; rfl
          obtain ⟨v_591, v_592, v_594, v_596, v_598, v_600, v_602, v_603, v_604, v_605, v_607, e_590, b_593, b_595, b_597, b_599, b_601, b_606, b_608⟩ := hW_586.at m_1 t_2
          have fe_609 : fld (f_582 a_0) 8 = (v_596 : Int32).toInt := by rw [e_590]; rfl
          have fe_610 : fld (f_582 a_0) 12 = (v_603 : Int32).toInt := by rw [e_590]; rfl
          rw [fe_610] at x_584
          rw [fe_610, fe_589, fe_588, fe_609] at x_585
          clear fe_588 fe_589 fe_609 fe_610
          obtain ⟨g_611, e_612, ok_613, bl_614, lo_615⟩ := x_584
          refine v_goto hC dX12_losses_34 (tgt := 16) (by decide) ?_
          refine v_pick [0] rfl ?_
          have fe_616 : fld (f_582 a_0) 12 = (v_603 : Int32).toInt := by rw [e_590]; rfl
          have gb_617 := gm_b (f_582 a_0)
          have fe_618 : fld (f_582 a_0) 8 = (v_596 : Int32).toInt := by rw [e_590]; rfl
          have fe_619 : fld (f_582 a_0) 12 = (v_603 : Int32).toInt := by rw [e_590]; rfl
          rw [fe_618, fe_619] at gb_617
          exact ih_488 f_582 hW_586 ((hF_484.tr hF_587).mono rfl) ⟨_, e_612, ok_613, (by omega), (by rw [fe_616]; exact lo_615)⟩ (by omega)
  refine v_pick [0] rfl ?_
  have fe_620 : fld (f_91 a_0) 12 = (v_111 : Int32).toInt := by rw [e_98]; rfl
  have gb_621 := gm_b (f_91 a_0)
  have fe_622 : fld (f_91 a_0) 8 = (v_104 : Int32).toInt := by rw [e_98]; rfl
  have fe_623 : fld (f_91 a_0) 12 = (v_111 : Int32).toInt := by rw [e_98]; rfl
  rw [fe_622, fe_623] at gb_621
  exact lp_486 700 f_91 hW_94 FR.rf ⟨_, hf_97, ok_83, (by omega), .inr lo_88⟩ (by omega)
