set_option maxRecDepth 100000 in
set_option maxHeartbeats 4000000 in
theorem p_X12_keeps {l : Launch} {E : Ez} {L : List Nat} {f : Nat → va_E} {T : Nat → va_E → Prop} {a_0 : Nat} {a_1 a_2 : Int32} {q : Nat → Nat} {g_w g_f : Nat → Int32} {u_0 u_5 u_7 u_8 u_9 u_10 u_11 u_12 u_13 u_17 u_20 : Int32} (k_0 : isM T L E a_0 q) (e_m : f a_0 = ob 12 [.int u_0, .ref (q 1), .ref (q 2), .ref (q 3), .ref (q 4), .int u_5, .ref (q 6), .int u_7, .int u_8, .int u_9, .int u_10, .int u_11, .int u_12, .int u_13, .ref (q 14), .ref (q 15), .ref (q 16), .int u_17, .ref (q 18), .ref (q 19), .int u_20, .ref (q 21), .ref (q 22), .ref (q 23), .ref (q 24), .ref (q 25), .ref (q 26), .ref (q 27), .ref (q 28)]) (e_w : f (q 1) = aI E 2076 g_w) (e_f : f (q 14) = aI E 2076 g_f) (g_1 : 0 ≤ a_1.toInt ∧ a_1.toInt ≤ a_2.toInt ∧ a_2.toInt ≤ 2076) : CV l yX12_keeps cX12_keeps 4 0 0 0 E [.ref a_0, .int a_1, .int a_2] L f (fun L1 f1 => L = L1 ∧ f1 (q 1) = aI E 2076 (va_cpy g_f g_w a_1.toNatClampNeg a_1.toNatClampNeg (a_2.toNatClampNeg - a_1.toNatClampNeg)) ∧ ∀ x9, x9 ≠ (q 1) → f1 x9 = f x9) := by
  refine cv_of (by decide) (Nat.le_of_ble_eq_true rfl) (fun z hz hnm hC hR => ?_)
  have hC : Cx z E cX12_keeps RX12 4 0 0 0 := hC
  subst hz
  show V z E 4 0 0 L f 0 [(0, .ref a_0), (1, .int a_1), (2, .int a_2)] []
  obtain ⟨m_1, t_2, nq_21, k_3, k_4, k_5, k_6, k_7, k_8, k_9, k_10, k_11, k_12, k_13, k_14, k_15, k_16, k_17, k_18, k_19, k_20⟩ := id k_0
  obtain ⟨m_22, t_23⟩ := id k_3
  obtain ⟨m_24, t_25⟩ := id k_8
  refine v_iload_n hC dX12_keeps_0 rfl ?_
  refine v_istore_n hC dX12_keeps_1 (by decide) (lv' := [(3, .int a_1), (0, .ref a_0), (1, .int a_1), (2, .int a_2)]) rfl ?_
  have lp_34 : ∀ (n_27 : Nat) (f_30 : Nat → va_E) (i_26 : Int32) (b_33 : (a_1 : Int32).toInt ≤ i_26.toInt ∧ i_26.toInt ≤ a_2.toInt) (eR_31 : f_30 (q 1) = aI E 2076 (va_cpy g_f g_w a_1.toNatClampNeg a_1.toNatClampNeg (i_26.toNatClampNeg - a_1.toNatClampNeg))) (kR_32 : ∀ x9, x9 ≠ (q 1) → f_30 x9 = f x9) (hm_29 : a_2.toInt - i_26.toInt < (n_27 : Int)), V z E 4 0 0 L f_30 2 [(3, .int i_26), (0, .ref a_0), (2, .int a_2)] [] := by
    intro n_27
    induction n_27 with
    | zero =>
      intro f_30 i_26 b_33 eR_31 kR_32 hm_29
      exfalso; omega
    | succ n_27 ih_28 =>
      intro f_30 i_26 b_33 eR_31 kR_32 hm_29
      have hf_35 := (kR_32 a_0 (ne_kd e_m e_w rfl)).trans e_m
      have hf_36 := (kR_32 (q 14) nq_21.symm).trans e_f
      refine v_iload_n hC dX12_keeps_2 rfl ?_
      refine v_iload_n hC dX12_keeps_3 rfl ?_
      refine v_icmp_ge hC dX12_keeps_4 (tgt := 25) (by decide) (fun h_37 => ?_) (fun h_37 => ?_)
      · simp only [Int32.lt_iff_toInt_lt, Int32.le_iff_toInt_le, Int32.reduceToInt, ← Int32.toInt_inj] at h_37
        exact hR _ _ _ _ _ _ dX12_keeps_25 (Nat.le_of_ble_eq_true rfl) (Nat.le_of_ble_eq_true rfl) ⟨rfl, eR_31.trans (congrArg (aI E 2076) (by rw [show (i_26 : Int32).toNatClampNeg = a_2.toNatClampNeg from by rw [clamp_t, clamp_t]; omega])), kR_32⟩
      · simp only [Int32.lt_iff_toInt_lt, Int32.le_iff_toInt_le, Int32.reduceToInt, ← Int32.toInt_inj] at h_37
        refine v_aload_n hC dX12_keeps_7 rfl ?_
        refine v_get hC fl_X12_13 m_1 hf_35 rfl dX12_keeps_8 ?_
        refine v_iload_n hC dX12_keeps_11 rfl ?_
        refine v_aload_n hC dX12_keeps_12 rfl ?_
        refine v_get hC fl_X12_34 m_1 hf_35 rfl dX12_keeps_13 ?_
        refine v_iload_n hC dX12_keeps_16 rfl ?_
        obtain ⟨v_38, h_39⟩ : ∃ v9 : Int32, g_f (i_26 : Int32).toNatClampNeg = v9 := ⟨_, rfl⟩
        refine v_iald hC m_24 hf_36 (vp_in_iff.mpr (by first | omega | (simp only [Int32.lt_iff_toInt_lt, Int32.le_iff_toInt_le, Int32.reduceToInt, ← Int32.toInt_inj, true_and, and_true, or_true, true_or, false_or, or_false, false_and, and_false, not_true_eq_false, not_false_eq_true] <;> omega))) h_39 dX12_keeps_17 ?_
        refine v_iast hC m_22 eR_31 (vp_in_iff.mpr (by first | omega | (simp only [Int32.lt_iff_toInt_lt, Int32.le_iff_toInt_le, Int32.reduceToInt, ← Int32.toInt_inj, true_and, and_true, or_true, true_or, false_or, or_false, false_and, and_false, not_true_eq_false, not_false_eq_true] <;> omega))) dX12_keeps_18 (fun f_40 hf_41 hk_42 => ?_)
        have hf_43 := (hk_42 a_0 (ne_kd hf_35 eR_31 rfl)).trans hf_35
        have hf_44 := (hk_42 (q 14) nq_21.symm).trans hf_36
        have kr_45 : ∀ x9, x9 ≠ (q 1) → f_40 x9 = f x9 := fun x9 hx9 => (hk_42 x9 hx9).trans (kR_32 x9 hx9)
        obtain ⟨v_46, h_47⟩ : ∃ v9 : Int32, i_26 + Int32.ofInt 1 = v9 := ⟨_, rfl⟩
        have h_48 := add_v (b := 1) h_47 (by first | omega | (simp only [Int32.lt_iff_toInt_lt, Int32.le_iff_toInt_le, Int32.reduceToInt, ← Int32.toInt_inj, true_and, and_true, or_true, true_or, false_or, or_false, false_and, and_false, not_true_eq_false, not_false_eq_true] <;> omega)) (by first | omega | (simp only [Int32.lt_iff_toInt_lt, Int32.le_iff_toInt_le, Int32.reduceToInt, ← Int32.toInt_inj, true_and, and_true, or_true, true_or, false_or, or_false, false_and, and_false, not_true_eq_false, not_false_eq_true] <;> omega))
        simp only [Int32.reduceToInt] at h_48
        refine v_iinc hC dX12_keeps_19 (k := 0) rfl (v := v_46) h_47 (by decide) (lv' := [(3, .int v_46), (0, .ref a_0), (2, .int a_2)]) rfl ?_
        refine v_goto hC dX12_keeps_22 (tgt := 2) (by decide) ?_
        refine v_pick [0, 1, 2] rfl ?_
        have kx_49 : ∀ x9, x9 ≠ (q 1) → f_40 x9 = f x9 := fun x9 hx9 => (hk_42 x9 hx9).trans (kR_32 x9 hx9)
        exact ih_28 f_40 v_46 (by omega) (hf_41.trans (congrArg (aI E 2076) ((cpy_step (by rw [clamp_t, clamp_t]; omega) (by rw [← h_39, show a_1.toNatClampNeg + (i_26.toNatClampNeg - a_1.toNatClampNeg) = i_26.toNatClampNeg from by rw [clamp_t, clamp_t]; omega])).trans (by rw [show i_26.toNatClampNeg - a_1.toNatClampNeg + 1 = v_46.toNatClampNeg - a_1.toNatClampNeg from by rw [clamp_t, clamp_t, clamp_t]; omega])))) kx_49 (by omega)
  refine v_pick [0, 1, 3] rfl ?_
  exact lp_34 7000 f a_1 (by first | omega | decide) (e_w.trans (congrArg (aI E 2076) (by simp only [Nat.sub_self, cpy_nil, clamp_0]))) (fun _ _ => rfl) (by first | omega | (simp only [Int32.reduceToInt]; omega))
set_option maxRecDepth 100000 in
set_option maxHeartbeats 4000000 in
theorem p_X12_clears {l : Launch} {E : Ez} {L : List Nat} {f : Nat → va_E} {T : Nat → va_E → Prop} {a_0 : Nat} {a_1 a_2 : Int32} {q : Nat → Nat} {g_f : Nat → Int32} {u_0 u_5 u_7 u_8 u_9 u_10 u_11 u_12 u_13 u_17 u_20 : Int32} (k_0 : isM T L E a_0 q) (e_m : f a_0 = ob 12 [.int u_0, .ref (q 1), .ref (q 2), .ref (q 3), .ref (q 4), .int u_5, .ref (q 6), .int u_7, .int u_8, .int u_9, .int u_10, .int u_11, .int u_12, .int u_13, .ref (q 14), .ref (q 15), .ref (q 16), .int u_17, .ref (q 18), .ref (q 19), .int u_20, .ref (q 21), .ref (q 22), .ref (q 23), .ref (q 24), .ref (q 25), .ref (q 26), .ref (q 27), .ref (q 28)]) (e_f : f (q 14) = aI E 2076 g_f) (g_1 : 0 ≤ a_1.toInt ∧ a_1.toInt ≤ a_2.toInt ∧ a_2.toInt ≤ 2076) : CV l yX12_clears cX12_clears 4 0 0 0 E [.ref a_0, .int a_1, .int a_2] L f (fun L1 f1 => L = L1 ∧ f1 (q 14) = aI E 2076 (va_cpy (fun _ => 0) g_f a_1.toNatClampNeg a_1.toNatClampNeg (a_2.toNatClampNeg - a_1.toNatClampNeg)) ∧ ∀ x9, x9 ≠ (q 14) → f1 x9 = f x9) := by
  refine cv_of (by decide) (Nat.le_of_ble_eq_true rfl) (fun z hz hnm hC hR => ?_)
  have hC : Cx z E cX12_clears RX12 4 0 0 0 := hC
  subst hz
  show V z E 4 0 0 L f 0 [(0, .ref a_0), (1, .int a_1), (2, .int a_2)] []
  obtain ⟨m_1, t_2, nq_21, k_3, k_4, k_5, k_6, k_7, k_8, k_9, k_10, k_11, k_12, k_13, k_14, k_15, k_16, k_17, k_18, k_19, k_20⟩ := id k_0
  obtain ⟨m_22, t_23⟩ := id k_3
  obtain ⟨m_24, t_25⟩ := id k_8
  refine v_iload_n hC dX12_clears_0 rfl ?_
  refine v_istore_n hC dX12_clears_1 (by decide) (lv' := [(3, .int a_1), (0, .ref a_0), (1, .int a_1), (2, .int a_2)]) rfl ?_
  have lp_34 : ∀ (n_27 : Nat) (f_30 : Nat → va_E) (i_26 : Int32) (b_33 : (a_1 : Int32).toInt ≤ i_26.toInt ∧ i_26.toInt ≤ a_2.toInt) (eR_31 : f_30 (q 14) = aI E 2076 (va_cpy (fun _ => 0) g_f a_1.toNatClampNeg a_1.toNatClampNeg (i_26.toNatClampNeg - a_1.toNatClampNeg))) (kR_32 : ∀ x9, x9 ≠ (q 14) → f_30 x9 = f x9) (hm_29 : a_2.toInt - i_26.toInt < (n_27 : Int)), V z E 4 0 0 L f_30 2 [(3, .int i_26), (0, .ref a_0), (2, .int a_2)] [] := by
    intro n_27
    induction n_27 with
    | zero =>
      intro f_30 i_26 b_33 eR_31 kR_32 hm_29
      exfalso; omega
    | succ n_27 ih_28 =>
      intro f_30 i_26 b_33 eR_31 kR_32 hm_29
      have hf_35 := (kR_32 a_0 (ne_kd e_m e_f rfl)).trans e_m
      refine v_iload_n hC dX12_clears_2 rfl ?_
      refine v_iload_n hC dX12_clears_3 rfl ?_
      refine v_icmp_ge hC dX12_clears_4 (tgt := 20) (by decide) (fun h_36 => ?_) (fun h_36 => ?_)
      · simp only [Int32.lt_iff_toInt_lt, Int32.le_iff_toInt_le, Int32.reduceToInt, ← Int32.toInt_inj] at h_36
        exact hR _ _ _ _ _ _ dX12_clears_20 (Nat.le_of_ble_eq_true rfl) (Nat.le_of_ble_eq_true rfl) ⟨rfl, eR_31.trans (congrArg (aI E 2076) (by rw [show (i_26 : Int32).toNatClampNeg = a_2.toNatClampNeg from by rw [clamp_t, clamp_t]; omega])), kR_32⟩
      · simp only [Int32.lt_iff_toInt_lt, Int32.le_iff_toInt_le, Int32.reduceToInt, ← Int32.toInt_inj] at h_36
        refine v_aload_n hC dX12_clears_7 rfl ?_
        refine v_get hC fl_X12_34 m_1 hf_35 rfl dX12_clears_8 ?_
        refine v_iload_n hC dX12_clears_11 rfl ?_
        refine v_iconst hC dX12_clears_12 (v := 0) (by decide) ?_
        refine v_iast hC m_24 eR_31 (vp_in_iff.mpr (by first | omega | (simp only [Int32.lt_iff_toInt_lt, Int32.le_iff_toInt_le, Int32.reduceToInt, ← Int32.toInt_inj, true_and, and_true, or_true, true_or, false_or, or_false, false_and, and_false, not_true_eq_false, not_false_eq_true] <;> omega))) dX12_clears_13 (fun f_37 hf_38 hk_39 => ?_)
        have hf_40 := (hk_39 a_0 (ne_kd hf_35 eR_31 rfl)).trans hf_35
        have kr_41 : ∀ x9, x9 ≠ (q 14) → f_37 x9 = f x9 := fun x9 hx9 => (hk_39 x9 hx9).trans (kR_32 x9 hx9)
        obtain ⟨v_42, h_43⟩ : ∃ v9 : Int32, i_26 + Int32.ofInt 1 = v9 := ⟨_, rfl⟩
        have h_44 := add_v (b := 1) h_43 (by first | omega | (simp only [Int32.lt_iff_toInt_lt, Int32.le_iff_toInt_le, Int32.reduceToInt, ← Int32.toInt_inj, true_and, and_true, or_true, true_or, false_or, or_false, false_and, and_false, not_true_eq_false, not_false_eq_true] <;> omega)) (by first | omega | (simp only [Int32.lt_iff_toInt_lt, Int32.le_iff_toInt_le, Int32.reduceToInt, ← Int32.toInt_inj, true_and, and_true, or_true, true_or, false_or, or_false, false_and, and_false, not_true_eq_false, not_false_eq_true] <;> omega))
        simp only [Int32.reduceToInt] at h_44
        refine v_iinc hC dX12_clears_14 (k := 0) rfl (v := v_42) h_43 (by decide) (lv' := [(3, .int v_42), (0, .ref a_0), (2, .int a_2)]) rfl ?_
        refine v_goto hC dX12_clears_17 (tgt := 2) (by decide) ?_
        refine v_pick [0, 1, 2] rfl ?_
        have kx_45 : ∀ x9, x9 ≠ (q 14) → f_37 x9 = f x9 := fun x9 hx9 => (hk_39 x9 hx9).trans (kR_32 x9 hx9)
        exact ih_28 f_37 v_42 (by omega) (hf_38.trans (congrArg (aI E 2076) ((cpy_step (by rw [clamp_t, clamp_t]; omega) rfl).trans (by rw [show i_26.toNatClampNeg - a_1.toNatClampNeg + 1 = v_42.toNatClampNeg - a_1.toNatClampNeg from by rw [clamp_t, clamp_t, clamp_t]; omega])))) kx_45 (by omega)
  refine v_pick [0, 1, 3] rfl ?_
  exact lp_34 7000 f a_1 (by first | omega | decide) (e_f.trans (congrArg (aI E 2076) (by simp only [Nat.sub_self, cpy_nil, clamp_0]))) (fun _ _ => rfl) (by first | omega | (simp only [Int32.reduceToInt]; omega))
set_option maxRecDepth 100000 in
set_option maxHeartbeats 4000000 in
theorem p_X12_in {l : Launch} {E : Ez} {L : List Nat} {f : Nat → va_E} {T : Nat → va_E → Prop} {a_0 : Int64} {a_1 : Int64} {a_2 : Int64} (hW : WT T L f) : CI l yX12_in cX12_in 6 .boolean 0 0 0 E [.long a_0, .long a_1, .long a_2] L f (fun r L1 f1 => L = L1 ∧ f = f1 ∧ (0 ≤ r.toInt ∧ r.toInt ≤ 1) ∧ ((r.toInt = 1 ∧ a_1.toInt ≤ a_0.toInt ∧ a_0.toInt ≤ a_2.toInt) ∨ (r.toInt = 0 ∧ (a_0.toInt < a_1.toInt ∨ a_2.toInt < a_0.toInt)))) := by
  refine ci_of (by decide) (Nat.le_of_ble_eq_true rfl) (fun z hz hnm hC hR => ?_)
  have hC : Cx z E cX12_in RX12 6 0 0 0 := hC
  subst hz
  show V z E 6 0 0 L f 0 [(0, .long a_0), (2, .long a_1), (4, .long a_2)] []
  refine v_lload_n hC dX12_in_0 rfl ?_
  refine v_lload_n hC dX12_in_1 rfl ?_
  obtain ⟨v_1, h_2⟩ : ∃ v9 : Int32, lg_cmp (a_0 : Int64) a_1 = v9 := ⟨_, rfl⟩
  refine v_lcmp hC dX12_in_2 h_2 ?_
  refine v_if_lt hC dX12_in_3 (tgt := 17) (by decide) (fun h_3 => ?_) (fun h_3 => ?_)
  · rw [← h_2] at h_3
    have h_4 := (lgc_lt.mp h_3)
    simp only [Int64.lt_iff_toInt_lt, Int64.le_iff_toInt_le] at h_4
    refine v_iconst hC dX12_in_17 (v := 0) (by decide) ?_
    exact hR _ _ _ _ _ _ _ dX12_in_18 rfl (Nat.le_of_ble_eq_true rfl) (Nat.le_of_ble_eq_true rfl) ⟨rfl, rfl, (by decide), (by first | omega | (simp only [Int32.lt_iff_toInt_lt, Int32.le_iff_toInt_le, Int32.reduceToInt, ← Int32.toInt_inj, true_and, and_true, or_true, true_or, false_or, or_false, false_and, and_false, not_true_eq_false, not_false_eq_true] <;> omega))⟩
  · rw [← h_2] at h_3
    have h_5 := (mt lgc_lt.mpr h_3)
    simp only [Int64.lt_iff_toInt_lt, Int64.le_iff_toInt_le] at h_5
    refine v_lload_n hC dX12_in_6 rfl ?_
    refine v_lload hC dX12_in_7 rfl ?_
    obtain ⟨v_6, h_7⟩ : ∃ v9 : Int32, lg_cmp (a_0 : Int64) a_2 = v9 := ⟨_, rfl⟩
    refine v_lcmp hC dX12_in_9 h_7 ?_
    refine v_if_gt hC dX12_in_10 (tgt := 17) (by decide) (fun h_8 => ?_) (fun h_8 => ?_)
    · rw [← h_7] at h_8
      have h_9 := (lgc_gt.mp h_8)
      simp only [Int64.lt_iff_toInt_lt, Int64.le_iff_toInt_le] at h_9
      refine v_iconst hC dX12_in_17 (v := 0) (by decide) ?_
      exact hR _ _ _ _ _ _ _ dX12_in_18 rfl (Nat.le_of_ble_eq_true rfl) (Nat.le_of_ble_eq_true rfl) ⟨rfl, rfl, (by decide), (by first | omega | (simp only [Int32.lt_iff_toInt_lt, Int32.le_iff_toInt_le, Int32.reduceToInt, ← Int32.toInt_inj, true_and, and_true, or_true, true_or, false_or, or_false, false_and, and_false, not_true_eq_false, not_false_eq_true] <;> omega))⟩
    · rw [← h_7] at h_8
      have h_10 := (mt lgc_gt.mpr h_8)
      simp only [Int64.lt_iff_toInt_lt, Int64.le_iff_toInt_le] at h_10
      refine v_iconst hC dX12_in_13 (v := 1) (by decide) ?_
      refine v_goto hC dX12_in_14 (tgt := 18) (by decide) ?_
      exact hR _ _ _ _ _ _ _ dX12_in_18 rfl (Nat.le_of_ble_eq_true rfl) (Nat.le_of_ble_eq_true rfl) ⟨rfl, rfl, (by decide), (by first | omega | (simp only [Int32.lt_iff_toInt_lt, Int32.le_iff_toInt_le, Int32.reduceToInt, ← Int32.toInt_inj, true_and, and_true, or_true, true_or, false_or, or_false, false_and, and_false, not_true_eq_false, not_false_eq_true] <;> omega))⟩
set_option maxRecDepth 100000 in
set_option maxHeartbeats 4000000 in
theorem p_X12_keep {l : Launch} {E : Ez} {L : List Nat} {f : Nat → va_E} {T : Nat → va_E → Prop} {a_0 : Nat} {a_1 : Int32} {q : Nat → Nat} {g_w : Nat → Int32} (hW : WT T L f) (k_0 : isM T L E a_0 q) (e_w : f (q 1) = aI E 2076 g_w) (o_w : WOK g_w) : CI l yX12_keep cX12_keep 3 .int 1 0 0 E [.ref a_0, .int a_1] L f (fun r L1 f1 => L = L1 ∧ WT T L f1 ∧ FR [103, 6328] f f1 ∧ ((-2) ≤ r.toInt ∧ r.toInt ≤ 0) ∧ (¬ r.toInt = 0 ∨ (0 ≤ a_1.toInt ∧ a_1.toInt ≤ 2)) ∧ ((r.toInt = 0 ∧ 0 ≤ a_1.toInt ∧ a_1.toInt ≤ 2) ∨ (r.toInt = -2 ∧ (a_1.toInt < 0 ∨ 2 < a_1.toInt)))) := by
  refine ci_of (by decide) (Nat.le_of_ble_eq_true rfl) (fun z hz hnm hC hR => ?_)
  have hC : Cx z E cX12_keep RX12 3 1 0 0 := hC
  subst hz
  show V z E 3 0 0 L f 0 [(0, .ref a_0), (1, .int a_1)] []
  obtain ⟨m_1, t_2, nq_21, k_3, k_4, k_5, k_6, k_7, k_8, k_9, k_10, k_11, k_12, k_13, k_14, k_15, k_16, k_17, k_18, k_19, k_20⟩ := id k_0
  obtain ⟨m_22, t_23⟩ := id k_3
  have b_24 := o_w.r0
  have b_25 := o_w.w0
  refine v_iload_n hC dX12_keep_0 rfl ?_
  obtain ⟨v_26, h_27⟩ : ∃ v9 : Int64, a_1.toInt64 = v9 := ⟨_, rfl⟩
  refine v_i2l hC dX12_keep_1 h_27 ?_
  have h_28 : v_26.toInt = a_1.toInt := by rw [← h_27]; exact Int32.toInt_toInt64 _
  refine v_lconst hC dX12_keep_2 (v := 0) (by decide) ?_
  refine v_ldc2 hC kl_X12_77 dX12_keep_3 ?_
  refine v_si hC (rest := []) mt_X12_in (p_X12_in hW) mx_X12_in ml_X12_79 (by decide) rfl (cells1 := 0) (slots1 := 0) (by decide) (by decide) (Nat.le_of_ble_eq_true rfl) (Nat.le_of_ble_eq_true rfl) rfl (Nat.le_of_ble_eq_true rfl) dX12_keep_6 (fun r_29 L_30 f_31 h_32 => ?_)
  obtain ⟨rfl, rfl, b_33, x_34⟩ := h_32
  try simp only [Int32.reduceToInt, Int64.reduceToInt] at x_34
  refine v_if_ne hC dX12_keep_9 (tgt := 15) (by decide) (fun h_37 => ?_) (fun h_37 => ?_)
  · simp only [Int32.lt_iff_toInt_lt, Int32.le_iff_toInt_le, Int32.reduceToInt, ← Int32.toInt_inj] at h_37
    refine v_iconst hC dX12_keep_15 (v := 0) (by decide) ?_
    refine v_istore_n hC dX12_keep_16 (by decide) (lv' := [(2, .int 0), (0, .ref a_0), (1, .int a_1)]) rfl ?_
    obtain ⟨v_39, v_40, v_42, v_44, v_46, v_48, v_50, v_51, v_52, v_53, v_55, e_38, b_41, b_43, b_45, b_47, b_49, b_54, b_56⟩ := hW.at m_1 t_2
    obtain ⟨m_57, t_58⟩ := id k_4
    obtain ⟨g_60, e_59, ok_61⟩ := hW.at m_57 t_58
    have lp_70 : ∀ (n_63 : Nat) (f_66 : Nat → va_E) (i_62 : Int32) (b_69 : 0 ≤ i_62.toInt ∧ i_62.toInt ≤ 2076) (eR_67 : f_66 (q 2) = aI E 6228 (va_cpy g_w g_60 0 (2076 * a_1.toNatClampNeg) i_62.toNatClampNeg)) (kR_68 : ∀ x9, x9 ≠ (q 2) → f_66 x9 = f x9) (hm_65 : 2076 - i_62.toInt < (n_63 : Int)), V z E 3 0 0 L f_66 17 [(2, .int i_62), (0, .ref a_0), (1, .int a_1)] [] := by
      intro n_63
      induction n_63 with
      | zero =>
        intro f_66 i_62 b_69 eR_67 kR_68 hm_65
        exfalso; omega
      | succ n_63 ih_64 =>
        intro f_66 i_62 b_69 eR_67 kR_68 hm_65
        have hf_71 := (kR_68 (q 1) (ne_kd e_w e_59 rfl)).trans e_w
        have hf_72 := (kR_68 a_0 (ne_kd e_38 e_59 rfl)).trans e_38
        refine v_iload_n hC dX12_keep_17 rfl ?_
        refine v_sipush hC dX12_keep_18 (v := 2076) (by decide) ?_
        refine v_icmp_ge hC dX12_keep_21 (tgt := 48) (by decide) (fun h_73 => ?_) (fun h_73 => ?_)
        · simp only [Int32.lt_iff_toInt_lt, Int32.le_iff_toInt_le, Int32.reduceToInt, ← Int32.toInt_inj] at h_73
          obtain ⟨g_76, e_77, ok_75, eg_78⟩ : ∃ g9, f_66 (q 2) = aI E 6228 g9 ∧ IOK g9 ∧ g9 = (va_cpy g_w g_60 0 (2076 * a_1.toNatClampNeg) i_62.toNatClampNeg) := ⟨_, eR_67, (ok_61.keep o_w (k := a_1.toNatClampNeg) rfl (by rw [clamp_t]; omega)), rfl⟩
          have hW_74 := hW.up e_77 kR_68 t_58 ⟨_, rfl, ok_75⟩
          have fr_79 := FR.w kR_68 e_59 (k := 6328) rfl
          refine v_aload_n hC dX12_keep_48 rfl ?_
          refine v_get hC fl_X12_20 m_1 hf_72 rfl dX12_keep_49 ?_
          refine v_iload_n hC dX12_keep_52 rfl ?_
          refine v_iconst hC dX12_keep_53 (v := 1) (by decide) ?_
          obtain ⟨m_80, t_81⟩ := id k_5
          obtain ⟨g_83, e_82⟩ := hW_74.at m_80 t_81
          refine v_zast hC m_80 e_82 (vp_in_iff.mpr (by first | omega | (simp only [Int32.lt_iff_toInt_lt, Int32.le_iff_toInt_le, Int32.reduceToInt, ← Int32.toInt_inj, true_and, and_true, or_true, true_or, false_or, or_false, false_and, and_false, not_true_eq_false, not_false_eq_true] <;> omega))) dX12_keep_54 (fun f_84 hf_85 hk_86 => ?_)
          have hW_88 := hW_74.up hf_85 hk_86 t_81 ⟨_, rfl⟩
          obtain ⟨g_87, hf_85⟩ : ∃ g9, f_84 (q 3) = aZ E 3 g9 := ⟨_, hf_85⟩
          have hf_89 := (hk_86 (q 1) (ne_kd hf_71 e_82 rfl)).trans hf_71
          have hf_90 := (hk_86 a_0 (ne_kd hf_72 e_82 rfl)).trans hf_72
          have hf_91 := (hk_86 (q 2) (ne_kd e_77 e_82 rfl)).trans e_77
          have fr_92 := FR.w hk_86 e_82 (k := 103) rfl
          refine v_iconst hC dX12_keep_55 (v := 0) (by decide) ?_
          exact hR _ _ _ _ _ _ _ dX12_keep_56 rfl (Nat.le_of_ble_eq_true rfl) (Nat.le_of_ble_eq_true rfl) ⟨rfl, hW_88, ((fr_79.tr fr_92).mono rfl), (by decide), (.inr (by first | omega | (simp only [Int32.lt_iff_toInt_lt, Int32.le_iff_toInt_le, Int32.reduceToInt, ← Int32.toInt_inj, true_and, and_true, or_true, true_or, false_or, or_false, false_and, and_false, not_true_eq_false, not_false_eq_true] <;> omega))), (by first | omega | (simp only [Int32.lt_iff_toInt_lt, Int32.le_iff_toInt_le, Int32.reduceToInt, ← Int32.toInt_inj, true_and, and_true, or_true, true_or, false_or, or_false, false_and, and_false, not_true_eq_false, not_false_eq_true] <;> omega))⟩
        · simp only [Int32.lt_iff_toInt_lt, Int32.le_iff_toInt_le, Int32.reduceToInt, ← Int32.toInt_inj] at h_73
          refine v_aload_n hC dX12_keep_24 rfl ?_
          refine v_get hC fl_X12_17 m_1 hf_72 rfl dX12_keep_25 ?_
          refine v_sipush hC dX12_keep_28 (v := 2076) (by decide) ?_
          refine v_iload_n hC dX12_keep_31 rfl ?_
          obtain ⟨v_93, h_94⟩ : ∃ v9 : Int32, (2076 : Int32) * a_1 = v9 := ⟨_, rfl⟩
          refine v_imul hC dX12_keep_32 h_94 ?_
          have h_95 := mul_v 2076 2 4152 h_94 (by decide) (by first | omega | (simp only [Int32.lt_iff_toInt_lt, Int32.le_iff_toInt_le, Int32.reduceToInt, ← Int32.toInt_inj, true_and, and_true, or_true, true_or, false_or, or_false, false_and, and_false, not_true_eq_false, not_false_eq_true] <;> omega)) (by decide) (by decide)
          try simp only [Int32.reduceToInt] at h_95
          refine v_iload_n hC dX12_keep_33 rfl ?_
          obtain ⟨v_96, h_97⟩ : ∃ v9 : Int32, v_93 + i_62 = v9 := ⟨_, rfl⟩
          refine v_iadd hC dX12_keep_34 h_97 ?_
          have h_98 := add_v h_97 (by first | omega | (simp only [Int32.lt_iff_toInt_lt, Int32.le_iff_toInt_le, Int32.reduceToInt, ← Int32.toInt_inj, true_and, and_true, or_true, true_or, false_or, or_false, false_and, and_false, not_true_eq_false, not_false_eq_true] <;> omega)) (by first | omega | (simp only [Int32.lt_iff_toInt_lt, Int32.le_iff_toInt_le, Int32.reduceToInt, ← Int32.toInt_inj, true_and, and_true, or_true, true_or, false_or, or_false, false_and, and_false, not_true_eq_false, not_false_eq_true] <;> omega))
          refine v_aload_n hC dX12_keep_35 rfl ?_
          refine v_get hC fl_X12_13 m_1 hf_72 rfl dX12_keep_36 ?_
          refine v_iload_n hC dX12_keep_39 rfl ?_
          obtain ⟨v_99, h_100⟩ : ∃ v9 : Int32, g_w (i_62 : Int32).toNatClampNeg = v9 := ⟨_, rfl⟩
          refine v_iald hC m_22 hf_71 (vp_in_iff.mpr (by first | omega | (simp only [Int32.lt_iff_toInt_lt, Int32.le_iff_toInt_le, Int32.reduceToInt, ← Int32.toInt_inj, true_and, and_true, or_true, true_or, false_or, or_false, false_and, and_false, not_true_eq_false, not_false_eq_true] <;> omega))) h_100 dX12_keep_40 ?_
          refine v_iast hC m_57 eR_67 (vp_in_iff.mpr (by first | omega | (simp only [Int32.lt_iff_toInt_lt, Int32.le_iff_toInt_le, Int32.reduceToInt, ← Int32.toInt_inj, true_and, and_true, or_true, true_or, false_or, or_false, false_and, and_false, not_true_eq_false, not_false_eq_true] <;> omega))) dX12_keep_41 (fun f_101 hf_102 hk_103 => ?_)
          have hf_104 := (hk_103 (q 1) (ne_kd hf_71 eR_67 rfl)).trans hf_71
          have hf_105 := (hk_103 a_0 (ne_kd hf_72 eR_67 rfl)).trans hf_72
          have kr_106 : ∀ x9, x9 ≠ (q 2) → f_101 x9 = f x9 := fun x9 hx9 => (hk_103 x9 hx9).trans (kR_68 x9 hx9)
          obtain ⟨v_107, h_108⟩ : ∃ v9 : Int32, i_62 + Int32.ofInt 1 = v9 := ⟨_, rfl⟩
          have h_109 := add_v (b := 1) h_108 (by first | omega | (simp only [Int32.lt_iff_toInt_lt, Int32.le_iff_toInt_le, Int32.reduceToInt, ← Int32.toInt_inj, true_and, and_true, or_true, true_or, false_or, or_false, false_and, and_false, not_true_eq_false, not_false_eq_true] <;> omega)) (by first | omega | (simp only [Int32.lt_iff_toInt_lt, Int32.le_iff_toInt_le, Int32.reduceToInt, ← Int32.toInt_inj, true_and, and_true, or_true, true_or, false_or, or_false, false_and, and_false, not_true_eq_false, not_false_eq_true] <;> omega))
          simp only [Int32.reduceToInt] at h_109
          refine v_iinc hC dX12_keep_42 (k := 0) rfl (v := v_107) h_108 (by decide) (lv' := [(2, .int v_107), (0, .ref a_0), (1, .int a_1)]) rfl ?_
          refine v_goto hC dX12_keep_45 (tgt := 17) (by decide) ?_
          refine v_pick [0, 1, 2] rfl ?_
          have kx_110 : ∀ x9, x9 ≠ (q 2) → f_101 x9 = f x9 := fun x9 hx9 => (hk_103 x9 hx9).trans (kR_68 x9 hx9)
          exact ih_64 f_101 v_107 (by omega) (hf_102.trans (congrArg (aI E 6228) ((cpy_step (by rw [clamp_t, clamp_t, clamp_t]; omega) (by rw [← h_100, Nat.zero_add])).trans (by rw [show i_62.toNatClampNeg + 1 = v_107.toNatClampNeg from by rw [clamp_t, clamp_t]; omega])))) kx_110 (by omega)
    refine v_pick [0, 1, 2] rfl ?_
    exact lp_70 7000 f 0 (by first | omega | decide) (e_59.trans (congrArg (aI E 6228) (by simp only [Nat.sub_self, cpy_nil, clamp_0]))) (fun _ _ => rfl) (by first | omega | (simp only [Int32.reduceToInt]; omega))
  · simp only [Int32.lt_iff_toInt_lt, Int32.le_iff_toInt_le, Int32.reduceToInt, ← Int32.toInt_inj] at h_37
    refine v_bipush hC dX12_keep_12 (v := (-2)) (by decide) ?_
    exact hR _ _ _ _ _ _ _ dX12_keep_14 rfl (Nat.le_of_ble_eq_true rfl) (Nat.le_of_ble_eq_true rfl) ⟨rfl, hW, FR.rf, (by decide), (.inl (by decide)), (by first | omega | (simp only [Int32.lt_iff_toInt_lt, Int32.le_iff_toInt_le, Int32.reduceToInt, ← Int32.toInt_inj, true_and, and_true, or_true, true_or, false_or, or_false, false_and, and_false, not_true_eq_false, not_false_eq_true] <;> omega))⟩
set_option maxRecDepth 100000 in
set_option maxHeartbeats 4000000 in
theorem p_X12_back {l : Launch} {E : Ez} {L : List Nat} {f : Nat → va_E} {T : Nat → va_E → Prop} {a_0 : Nat} {a_1 : Int32} {q : Nat → Nat} {g_w : Nat → Int32} (hW : WT T L f) (k_0 : isM T L E a_0 q) (e_w : f (q 1) = aI E 2076 g_w) (o_w : WOK g_w) : CI l yX12_back cX12_back 3 .int 1 0 0 E [.ref a_0, .int a_1] L f (fun r L1 f1 => L = L1 ∧ WT T L f1 ∧ FR [2176] f f1 ∧ ((-6) ≤ r.toInt ∧ r.toInt ≤ 0) ∧ (¬ r.toInt = 0 ∨ (0 ≤ a_1.toInt ∧ a_1.toInt ≤ 2))) := by
  refine ci_of (by decide) (Nat.le_of_ble_eq_true rfl) (fun z hz hnm hC hR => ?_)
  have hC : Cx z E cX12_back RX12 3 1 0 0 := hC
  subst hz
  show V z E 3 0 0 L f 0 [(0, .ref a_0), (1, .int a_1)] []
  obtain ⟨m_1, t_2, nq_21, k_3, k_4, k_5, k_6, k_7, k_8, k_9, k_10, k_11, k_12, k_13, k_14, k_15, k_16, k_17, k_18, k_19, k_20⟩ := id k_0
  obtain ⟨m_22, t_23⟩ := id k_3
  have b_24 := o_w.r0
  have b_25 := o_w.w0
  refine v_iload_n hC dX12_back_0 rfl ?_
  obtain ⟨v_26, h_27⟩ : ∃ v9 : Int64, a_1.toInt64 = v9 := ⟨_, rfl⟩
  refine v_i2l hC dX12_back_1 h_27 ?_
  have h_28 : v_26.toInt = a_1.toInt := by rw [← h_27]; exact Int32.toInt_toInt64 _
  refine v_lconst hC dX12_back_2 (v := 0) (by decide) ?_
  refine v_ldc2 hC kl_X12_77 dX12_back_3 ?_
  refine v_si hC (rest := []) mt_X12_in (p_X12_in hW) mx_X12_in ml_X12_79 (by decide) rfl (cells1 := 0) (slots1 := 0) (by decide) (by decide) (Nat.le_of_ble_eq_true rfl) (Nat.le_of_ble_eq_true rfl) rfl (Nat.le_of_ble_eq_true rfl) dX12_back_6 (fun r_29 L_30 f_31 h_32 => ?_)
  obtain ⟨rfl, rfl, b_33, x_34⟩ := h_32
  try simp only [Int32.reduceToInt, Int64.reduceToInt] at x_34
  refine v_if_ne hC dX12_back_9 (tgt := 15) (by decide) (fun h_37 => ?_) (fun h_37 => ?_)
  · simp only [Int32.lt_iff_toInt_lt, Int32.le_iff_toInt_le, Int32.reduceToInt, ← Int32.toInt_inj] at h_37
    refine v_aload_n hC dX12_back_15 rfl ?_
    obtain ⟨v_39, v_40, v_42, v_44, v_46, v_48, v_50, v_51, v_52, v_53, v_55, e_38, b_41, b_43, b_45, b_47, b_49, b_54, b_56⟩ := hW.at m_1 t_2
    refine v_get hC fl_X12_20 m_1 e_38 rfl dX12_back_16 ?_
    refine v_iload_n hC dX12_back_19 rfl ?_
    obtain ⟨m_57, t_58⟩ := id k_5
    obtain ⟨g_60, e_59⟩ := hW.at m_57 t_58
    obtain ⟨v_61, h_62⟩ : ∃ v9 : Int32, g_60 (a_1 : Int32).toNatClampNeg = v9 := ⟨_, rfl⟩
    refine v_zald hC m_57 e_59 (vp_in_iff.mpr (by first | omega | (simp only [Int32.lt_iff_toInt_lt, Int32.le_iff_toInt_le, Int32.reduceToInt, ← Int32.toInt_inj, true_and, and_true, or_true, true_or, false_or, or_false, false_and, and_false, not_true_eq_false, not_false_eq_true] <;> omega))) h_62 dX12_back_20 ?_
    refine v_if_ne hC dX12_back_21 (tgt := 27) (by decide) (fun h_63 => ?_) (fun h_63 => ?_)
    · simp only [Int32.lt_iff_toInt_lt, Int32.le_iff_toInt_le, Int32.reduceToInt, ← Int32.toInt_inj] at h_63
      refine v_iconst hC dX12_back_27 (v := 0) (by decide) ?_
      refine v_istore_n hC dX12_back_28 (by decide) (lv' := [(2, .int 0), (0, .ref a_0), (1, .int a_1)]) rfl ?_
      obtain ⟨m_64, t_65⟩ := id k_4
      obtain ⟨g_67, e_66, ok_68⟩ := hW.at m_64 t_65
      have lp_77 : ∀ (n_70 : Nat) (f_73 : Nat → va_E) (i_69 : Int32) (b_76 : 0 ≤ i_69.toInt ∧ i_69.toInt ≤ 2076) (eR_74 : f_73 (q 1) = aI E 2076 (va_cpy g_67 g_w (2076 * a_1.toNatClampNeg) 0 i_69.toNatClampNeg)) (kR_75 : ∀ x9, x9 ≠ (q 1) → f_73 x9 = f x9) (hm_72 : 2076 - i_69.toInt < (n_70 : Int)), V z E 3 0 0 L f_73 29 [(2, .int i_69), (0, .ref a_0), (1, .int a_1)] [] := by
        intro n_70
        induction n_70 with
        | zero =>
          intro f_73 i_69 b_76 eR_74 kR_75 hm_72
          exfalso; omega
        | succ n_70 ih_71 =>
          intro f_73 i_69 b_76 eR_74 kR_75 hm_72
          have hf_78 := (kR_75 a_0 (ne_kd e_38 e_w rfl)).trans e_38
          have hf_79 := (kR_75 (q 3) (ne_kd e_59 e_w rfl)).trans e_59
          have hf_80 := (kR_75 (q 2) (ne_kd e_66 e_w rfl)).trans e_66
          refine v_iload_n hC dX12_back_29 rfl ?_
          refine v_sipush hC dX12_back_30 (v := 2076) (by decide) ?_
          refine v_icmp_ge hC dX12_back_33 (tgt := 60) (by decide) (fun h_81 => ?_) (fun h_81 => ?_)
          · simp only [Int32.lt_iff_toInt_lt, Int32.le_iff_toInt_le, Int32.reduceToInt, ← Int32.toInt_inj] at h_81
            obtain ⟨g_84, e_85, ok_83, eg_86⟩ : ∃ g9, f_73 (q 1) = aI E 2076 g9 ∧ WOK g9 ∧ g9 = (va_cpy g_67 g_w (2076 * a_1.toNatClampNeg) 0 i_69.toNatClampNeg) := ⟨_, eR_74, (WOK.back ok_68 (k := a_1.toNatClampNeg) (by rw [clamp_t]; omega) rfl (by rw [clamp_t]; omega)), rfl⟩
            have hW_82 := hW.up e_85 kR_75 t_23 ⟨_, rfl, ok_83⟩
            have fr_87 := FR.w kR_75 e_w (k := 2176) rfl
            have b_88 := ok_83.r0
            have b_89 := ok_83.w0
            refine v_iconst hC dX12_back_60 (v := 0) (by decide) ?_
            exact hR _ _ _ _ _ _ _ dX12_back_61 rfl (Nat.le_of_ble_eq_true rfl) (Nat.le_of_ble_eq_true rfl) ⟨rfl, hW_82, (fr_87.mono rfl), (by decide), (.inr (by first | omega | (simp only [Int32.lt_iff_toInt_lt, Int32.le_iff_toInt_le, Int32.reduceToInt, ← Int32.toInt_inj, true_and, and_true, or_true, true_or, false_or, or_false, false_and, and_false, not_true_eq_false, not_false_eq_true] <;> omega)))⟩
          · simp only [Int32.lt_iff_toInt_lt, Int32.le_iff_toInt_le, Int32.reduceToInt, ← Int32.toInt_inj] at h_81
            refine v_aload_n hC dX12_back_36 rfl ?_
            refine v_get hC fl_X12_13 m_1 hf_78 rfl dX12_back_37 ?_
            refine v_iload_n hC dX12_back_40 rfl ?_
            refine v_aload_n hC dX12_back_41 rfl ?_
            refine v_get hC fl_X12_17 m_1 hf_78 rfl dX12_back_42 ?_
            refine v_sipush hC dX12_back_45 (v := 2076) (by decide) ?_
            refine v_iload_n hC dX12_back_48 rfl ?_
            obtain ⟨v_90, h_91⟩ : ∃ v9 : Int32, (2076 : Int32) * a_1 = v9 := ⟨_, rfl⟩
            refine v_imul hC dX12_back_49 h_91 ?_
            have h_92 := mul_v 2076 2 4152 h_91 (by decide) (by first | omega | (simp only [Int32.lt_iff_toInt_lt, Int32.le_iff_toInt_le, Int32.reduceToInt, ← Int32.toInt_inj, true_and, and_true, or_true, true_or, false_or, or_false, false_and, and_false, not_true_eq_false, not_false_eq_true] <;> omega)) (by decide) (by decide)
            try simp only [Int32.reduceToInt] at h_92
            refine v_iload_n hC dX12_back_50 rfl ?_
            obtain ⟨v_93, h_94⟩ : ∃ v9 : Int32, v_90 + i_69 = v9 := ⟨_, rfl⟩
            refine v_iadd hC dX12_back_51 h_94 ?_
            have h_95 := add_v h_94 (by first | omega | (simp only [Int32.lt_iff_toInt_lt, Int32.le_iff_toInt_le, Int32.reduceToInt, ← Int32.toInt_inj, true_and, and_true, or_true, true_or, false_or, or_false, false_and, and_false, not_true_eq_false, not_false_eq_true] <;> omega)) (by first | omega | (simp only [Int32.lt_iff_toInt_lt, Int32.le_iff_toInt_le, Int32.reduceToInt, ← Int32.toInt_inj, true_and, and_true, or_true, true_or, false_or, or_false, false_and, and_false, not_true_eq_false, not_false_eq_true] <;> omega))
            obtain ⟨v_96, h_97⟩ : ∃ v9 : Int32, g_67 (v_93 : Int32).toNatClampNeg = v9 := ⟨_, rfl⟩
            refine v_iald hC m_64 hf_80 (vp_in_iff.mpr (by first | omega | (simp only [Int32.lt_iff_toInt_lt, Int32.le_iff_toInt_le, Int32.reduceToInt, ← Int32.toInt_inj, true_and, and_true, or_true, true_or, false_or, or_false, false_and, and_false, not_true_eq_false, not_false_eq_true] <;> omega))) h_97 dX12_back_52 ?_
            refine v_iast hC m_22 eR_74 (vp_in_iff.mpr (by first | omega | (simp only [Int32.lt_iff_toInt_lt, Int32.le_iff_toInt_le, Int32.reduceToInt, ← Int32.toInt_inj, true_and, and_true, or_true, true_or, false_or, or_false, false_and, and_false, not_true_eq_false, not_false_eq_true] <;> omega))) dX12_back_53 (fun f_98 hf_99 hk_100 => ?_)
            have hf_101 := (hk_100 a_0 (ne_kd hf_78 eR_74 rfl)).trans hf_78
            have hf_102 := (hk_100 (q 3) (ne_kd hf_79 eR_74 rfl)).trans hf_79
            have hf_103 := (hk_100 (q 2) (ne_kd hf_80 eR_74 rfl)).trans hf_80
            have kr_104 : ∀ x9, x9 ≠ (q 1) → f_98 x9 = f x9 := fun x9 hx9 => (hk_100 x9 hx9).trans (kR_75 x9 hx9)
            obtain ⟨v_105, h_106⟩ : ∃ v9 : Int32, i_69 + Int32.ofInt 1 = v9 := ⟨_, rfl⟩
            have h_107 := add_v (b := 1) h_106 (by first | omega | (simp only [Int32.lt_iff_toInt_lt, Int32.le_iff_toInt_le, Int32.reduceToInt, ← Int32.toInt_inj, true_and, and_true, or_true, true_or, false_or, or_false, false_and, and_false, not_true_eq_false, not_false_eq_true] <;> omega)) (by first | omega | (simp only [Int32.lt_iff_toInt_lt, Int32.le_iff_toInt_le, Int32.reduceToInt, ← Int32.toInt_inj, true_and, and_true, or_true, true_or, false_or, or_false, false_and, and_false, not_true_eq_false, not_false_eq_true] <;> omega))
            simp only [Int32.reduceToInt] at h_107
            refine v_iinc hC dX12_back_54 (k := 0) rfl (v := v_105) h_106 (by decide) (lv' := [(2, .int v_105), (0, .ref a_0), (1, .int a_1)]) rfl ?_
            refine v_goto hC dX12_back_57 (tgt := 29) (by decide) ?_
            refine v_pick [0, 1, 2] rfl ?_
            have kx_108 : ∀ x9, x9 ≠ (q 1) → f_98 x9 = f x9 := fun x9 hx9 => (hk_100 x9 hx9).trans (kR_75 x9 hx9)
            exact ih_71 f_98 v_105 (by omega) (hf_99.trans (congrArg (aI E 2076) ((cpy_step (by rw [clamp_t]; omega) (by rw [← h_97, show 2076 * a_1.toNatClampNeg + i_69.toNatClampNeg = v_93.toNatClampNeg from by rw [clamp_t, clamp_t, clamp_t]; omega])).trans (by rw [show i_69.toNatClampNeg + 1 = v_105.toNatClampNeg from by rw [clamp_t, clamp_t]; omega])))) kx_108 (by omega)
      refine v_pick [0, 1, 2] rfl ?_
      exact lp_77 7000 f 0 (by first | omega | decide) (e_w.trans (congrArg (aI E 2076) (by simp only [Nat.sub_self, cpy_nil, clamp_0]))) (fun _ _ => rfl) (by first | omega | (simp only [Int32.reduceToInt]; omega))
    · simp only [Int32.lt_iff_toInt_lt, Int32.le_iff_toInt_le, Int32.reduceToInt, ← Int32.toInt_inj] at h_63
      refine v_bipush hC dX12_back_24 (v := (-6)) (by decide) ?_
      exact hR _ _ _ _ _ _ _ dX12_back_26 rfl (Nat.le_of_ble_eq_true rfl) (Nat.le_of_ble_eq_true rfl) ⟨rfl, hW, FR.rf, (by decide), (.inl (by decide))⟩
  · simp only [Int32.lt_iff_toInt_lt, Int32.le_iff_toInt_le, Int32.reduceToInt, ← Int32.toInt_inj] at h_37
    refine v_bipush hC dX12_back_12 (v := (-2)) (by decide) ?_
    exact hR _ _ _ _ _ _ _ dX12_back_14 rfl (Nat.le_of_ble_eq_true rfl) (Nat.le_of_ble_eq_true rfl) ⟨rfl, hW, FR.rf, (by decide), (.inl (by decide))⟩
set_option maxRecDepth 100000 in
set_option maxHeartbeats 4000000 in
theorem p_X12_begin {l : Launch} {E : Ez} {L : List Nat} {f : Nat → va_E} {T : Nat → va_E → Prop} {a_0 : Nat} {q : Nat → Nat} (hW : WT T L f) (k_0 : isM T L E a_0 q) : CV l yX12_begin cX12_begin 1 0 0 0 E [.ref a_0] L f (fun L1 f1 => L = L1 ∧ WT T L f1 ∧ FR [12] f f1 ∧ fld (f1 a_0) 12 = 0 ∧ fld (f1 a_0) 8 = 0 ∧ fld (f1 a_0) 20 = fld (f a_0) 20) := by
  refine cv_of (by decide) (Nat.le_of_ble_eq_true rfl) (fun z hz hnm hC hR => ?_)
  have hC : Cx z E cX12_begin RX12 1 0 0 0 := hC
  subst hz
  show V z E 1 0 0 L f 0 [(0, .ref a_0)] []
  obtain ⟨m_1, t_2, nq_21, k_3, k_4, k_5, k_6, k_7, k_8, k_9, k_10, k_11, k_12, k_13, k_14, k_15, k_16, k_17, k_18, k_19, k_20⟩ := id k_0
  obtain ⟨v_23, v_24, v_26, v_28, v_30, v_32, v_34, v_35, v_36, v_37, v_39, e_22, b_25, b_27, b_29, b_31, b_33, b_38, b_40⟩ := hW.at m_1 t_2
  have mz_41 : fld (f a_0) 20 = v_39.toInt := by rw [e_22]; rfl
  refine v_aload_n hC dX12_begin_0 rfl ?_
  refine v_aload_n hC dX12_begin_1 rfl ?_
  refine v_get hC fl_X12_102 m_1 e_22 rfl dX12_begin_2 ?_
  refine v_put hC fl_X12_105 m_1 e_22 rfl rfl (Nat.le_of_ble_eq_true rfl) (fs' := [.int v_23, .ref (q 1), .ref (q 2), .ref (q 3), .ref (q 4), .int v_24, .ref (q 6), .int v_24, .int v_28, .int v_30, .int v_32, .int v_34, .int v_35, .int v_36, .ref (q 14), .ref (q 15), .ref (q 16), .int v_37, .ref (q 18), .ref (q 19), .int v_39, .ref (q 21), .ref (q 22), .ref (q 23), .ref (q 24), .ref (q 25), .ref (q 26), .ref (q 27), .ref (q 28)]) rfl dX12_begin_5 (fun f_42 hf_43 hk_44 => ?_)
  have hW_45 := hW.up hf_43 hk_44 t_2 ⟨v_23, v_24, v_24, v_28, v_30, v_32, v_34, v_35, v_36, v_37, v_39, rfl, (by first | omega | (simp only [Int32.lt_iff_toInt_lt, Int32.le_iff_toInt_le, Int32.reduceToInt, ← Int32.toInt_inj, true_and, and_true, or_true, true_or, false_or, or_false, false_and, and_false, not_true_eq_false, not_false_eq_true] <;> omega)), (by first | omega | (simp only [Int32.lt_iff_toInt_lt, Int32.le_iff_toInt_le, Int32.reduceToInt, ← Int32.toInt_inj, true_and, and_true, or_true, true_or, false_or, or_false, false_and, and_false, not_true_eq_false, not_false_eq_true] <;> omega)), (by first | omega | (simp only [Int32.lt_iff_toInt_lt, Int32.le_iff_toInt_le, Int32.reduceToInt, ← Int32.toInt_inj, true_and, and_true, or_true, true_or, false_or, or_false, false_and, and_false, not_true_eq_false, not_false_eq_true] <;> omega)), (by first | omega | (simp only [Int32.lt_iff_toInt_lt, Int32.le_iff_toInt_le, Int32.reduceToInt, ← Int32.toInt_inj, true_and, and_true, or_true, true_or, false_or, or_false, false_and, and_false, not_true_eq_false, not_false_eq_true] <;> omega)), (by first | omega | (simp only [Int32.lt_iff_toInt_lt, Int32.le_iff_toInt_le, Int32.reduceToInt, ← Int32.toInt_inj, true_and, and_true, or_true, true_or, false_or, or_false, false_and, and_false, not_true_eq_false, not_false_eq_true] <;> omega)), (by first | omega | (simp only [Int32.lt_iff_toInt_lt, Int32.le_iff_toInt_le, Int32.reduceToInt, ← Int32.toInt_inj, true_and, and_true, or_true, true_or, false_or, or_false, false_and, and_false, not_true_eq_false, not_false_eq_true] <;> omega)), (by first | omega | (simp only [Int32.lt_iff_toInt_lt, Int32.le_iff_toInt_le, Int32.reduceToInt, ← Int32.toInt_inj, true_and, and_true, or_true, true_or, false_or, or_false, false_and, and_false, not_true_eq_false, not_false_eq_true] <;> omega))⟩
  have fr_46 := FR.w hk_44 e_22 (k := 12) rfl
  refine v_aload_n hC dX12_begin_8 rfl ?_
  refine v_iconst hC dX12_begin_9 (v := 0) (by decide) ?_
  refine v_put hC fl_X12_102 m_1 hf_43 rfl rfl (Nat.le_of_ble_eq_true rfl) (fs' := [.int v_23, .ref (q 1), .ref (q 2), .ref (q 3), .ref (q 4), .int 0, .ref (q 6), .int v_24, .int v_28, .int v_30, .int v_32, .int v_34, .int v_35, .int v_36, .ref (q 14), .ref (q 15), .ref (q 16), .int v_37, .ref (q 18), .ref (q 19), .int v_39, .ref (q 21), .ref (q 22), .ref (q 23), .ref (q 24), .ref (q 25), .ref (q 26), .ref (q 27), .ref (q 28)]) rfl dX12_begin_10 (fun f_47 hf_48 hk_49 => ?_)
  have hW_50 := hW_45.up hf_48 hk_49 t_2 ⟨v_23, 0, v_24, v_28, v_30, v_32, v_34, v_35, v_36, v_37, v_39, rfl, (by decide), (by first | omega | (simp only [Int32.lt_iff_toInt_lt, Int32.le_iff_toInt_le, Int32.reduceToInt, ← Int32.toInt_inj, true_and, and_true, or_true, true_or, false_or, or_false, false_and, and_false, not_true_eq_false, not_false_eq_true] <;> omega)), (by first | omega | (simp only [Int32.lt_iff_toInt_lt, Int32.le_iff_toInt_le, Int32.reduceToInt, ← Int32.toInt_inj, true_and, and_true, or_true, true_or, false_or, or_false, false_and, and_false, not_true_eq_false, not_false_eq_true] <;> omega)), (by first | omega | (simp only [Int32.lt_iff_toInt_lt, Int32.le_iff_toInt_le, Int32.reduceToInt, ← Int32.toInt_inj, true_and, and_true, or_true, true_or, false_or, or_false, false_and, and_false, not_true_eq_false, not_false_eq_true] <;> omega)), (by first | omega | (simp only [Int32.lt_iff_toInt_lt, Int32.le_iff_toInt_le, Int32.reduceToInt, ← Int32.toInt_inj, true_and, and_true, or_true, true_or, false_or, or_false, false_and, and_false, not_true_eq_false, not_false_eq_true] <;> omega)), (by first | omega | (simp only [Int32.lt_iff_toInt_lt, Int32.le_iff_toInt_le, Int32.reduceToInt, ← Int32.toInt_inj, true_and, and_true, or_true, true_or, false_or, or_false, false_and, and_false, not_true_eq_false, not_false_eq_true] <;> omega)), (by first | omega | (simp only [Int32.lt_iff_toInt_lt, Int32.le_iff_toInt_le, Int32.reduceToInt, ← Int32.toInt_inj, true_and, and_true, or_true, true_or, false_or, or_false, false_and, and_false, not_true_eq_false, not_false_eq_true] <;> omega))⟩
  have fr_51 := FR.w hk_49 hf_43 (k := 12) rfl
  refine v_aload_n hC dX12_begin_13 rfl ?_
  refine v_iconst hC dX12_begin_14 (v := 0) (by decide) ?_
  refine v_put hC fl_X12_108 m_1 hf_48 rfl rfl (Nat.le_of_ble_eq_true rfl) (fs' := [.int v_23, .ref (q 1), .ref (q 2), .ref (q 3), .ref (q 4), .int 0, .ref (q 6), .int v_24, .int 0, .int v_30, .int v_32, .int v_34, .int v_35, .int v_36, .ref (q 14), .ref (q 15), .ref (q 16), .int v_37, .ref (q 18), .ref (q 19), .int v_39, .ref (q 21), .ref (q 22), .ref (q 23), .ref (q 24), .ref (q 25), .ref (q 26), .ref (q 27), .ref (q 28)]) rfl dX12_begin_15 (fun f_52 hf_53 hk_54 => ?_)
  have hW_55 := hW_50.up hf_53 hk_54 t_2 ⟨v_23, 0, v_24, 0, v_30, v_32, v_34, v_35, v_36, v_37, v_39, rfl, (by decide), (by first | omega | (simp only [Int32.lt_iff_toInt_lt, Int32.le_iff_toInt_le, Int32.reduceToInt, ← Int32.toInt_inj, true_and, and_true, or_true, true_or, false_or, or_false, false_and, and_false, not_true_eq_false, not_false_eq_true] <;> omega)), (by decide), (by first | omega | (simp only [Int32.lt_iff_toInt_lt, Int32.le_iff_toInt_le, Int32.reduceToInt, ← Int32.toInt_inj, true_and, and_true, or_true, true_or, false_or, or_false, false_and, and_false, not_true_eq_false, not_false_eq_true] <;> omega)), (by first | omega | (simp only [Int32.lt_iff_toInt_lt, Int32.le_iff_toInt_le, Int32.reduceToInt, ← Int32.toInt_inj, true_and, and_true, or_true, true_or, false_or, or_false, false_and, and_false, not_true_eq_false, not_false_eq_true] <;> omega)), (by first | omega | (simp only [Int32.lt_iff_toInt_lt, Int32.le_iff_toInt_le, Int32.reduceToInt, ← Int32.toInt_inj, true_and, and_true, or_true, true_or, false_or, or_false, false_and, and_false, not_true_eq_false, not_false_eq_true] <;> omega)), (by first | omega | (simp only [Int32.lt_iff_toInt_lt, Int32.le_iff_toInt_le, Int32.reduceToInt, ← Int32.toInt_inj, true_and, and_true, or_true, true_or, false_or, or_false, false_and, and_false, not_true_eq_false, not_false_eq_true] <;> omega))⟩
  have fr_56 := FR.w hk_54 hf_48 (k := 12) rfl
  refine v_aload_n hC dX12_begin_18 rfl ?_
  refine v_iconst hC dX12_begin_19 (v := 0) (by decide) ?_
  refine v_put hC fl_X12_111 m_1 hf_53 rfl rfl (Nat.le_of_ble_eq_true rfl) (fs' := [.int v_23, .ref (q 1), .ref (q 2), .ref (q 3), .ref (q 4), .int 0, .ref (q 6), .int v_24, .int 0, .int v_30, .int v_32, .int v_34, .int 0, .int v_36, .ref (q 14), .ref (q 15), .ref (q 16), .int v_37, .ref (q 18), .ref (q 19), .int v_39, .ref (q 21), .ref (q 22), .ref (q 23), .ref (q 24), .ref (q 25), .ref (q 26), .ref (q 27), .ref (q 28)]) rfl dX12_begin_20 (fun f_57 hf_58 hk_59 => ?_)
  have hW_60 := hW_55.up hf_58 hk_59 t_2 ⟨v_23, 0, v_24, 0, v_30, v_32, v_34, 0, v_36, v_37, v_39, rfl, (by decide), (by first | omega | (simp only [Int32.lt_iff_toInt_lt, Int32.le_iff_toInt_le, Int32.reduceToInt, ← Int32.toInt_inj, true_and, and_true, or_true, true_or, false_or, or_false, false_and, and_false, not_true_eq_false, not_false_eq_true] <;> omega)), (by decide), (by first | omega | (simp only [Int32.lt_iff_toInt_lt, Int32.le_iff_toInt_le, Int32.reduceToInt, ← Int32.toInt_inj, true_and, and_true, or_true, true_or, false_or, or_false, false_and, and_false, not_true_eq_false, not_false_eq_true] <;> omega)), (by first | omega | (simp only [Int32.lt_iff_toInt_lt, Int32.le_iff_toInt_le, Int32.reduceToInt, ← Int32.toInt_inj, true_and, and_true, or_true, true_or, false_or, or_false, false_and, and_false, not_true_eq_false, not_false_eq_true] <;> omega)), (by first | omega | (simp only [Int32.lt_iff_toInt_lt, Int32.le_iff_toInt_le, Int32.reduceToInt, ← Int32.toInt_inj, true_and, and_true, or_true, true_or, false_or, or_false, false_and, and_false, not_true_eq_false, not_false_eq_true] <;> omega)), (by first | omega | (simp only [Int32.lt_iff_toInt_lt, Int32.le_iff_toInt_le, Int32.reduceToInt, ← Int32.toInt_inj, true_and, and_true, or_true, true_or, false_or, or_false, false_and, and_false, not_true_eq_false, not_false_eq_true] <;> omega))⟩
  have fr_61 := FR.w hk_59 hf_53 (k := 12) rfl
  refine v_aload_n hC dX12_begin_23 rfl ?_
  refine v_iconst hC dX12_begin_24 (v := (-1)) (by decide) ?_
  refine v_put hC fl_X12_31 m_1 hf_58 rfl rfl (Nat.le_of_ble_eq_true rfl) (fs' := [.int v_23, .ref (q 1), .ref (q 2), .ref (q 3), .ref (q 4), .int 0, .ref (q 6), .int v_24, .int 0, .int v_30, .int v_32, .int v_34, .int 0, .int (-1), .ref (q 14), .ref (q 15), .ref (q 16), .int v_37, .ref (q 18), .ref (q 19), .int v_39, .ref (q 21), .ref (q 22), .ref (q 23), .ref (q 24), .ref (q 25), .ref (q 26), .ref (q 27), .ref (q 28)]) rfl dX12_begin_25 (fun f_62 hf_63 hk_64 => ?_)
  have hW_65 := hW_60.up hf_63 hk_64 t_2 ⟨v_23, 0, v_24, 0, v_30, v_32, v_34, 0, (-1), v_37, v_39, rfl, (by decide), (by first | omega | (simp only [Int32.lt_iff_toInt_lt, Int32.le_iff_toInt_le, Int32.reduceToInt, ← Int32.toInt_inj, true_and, and_true, or_true, true_or, false_or, or_false, false_and, and_false, not_true_eq_false, not_false_eq_true] <;> omega)), (by decide), (by first | omega | (simp only [Int32.lt_iff_toInt_lt, Int32.le_iff_toInt_le, Int32.reduceToInt, ← Int32.toInt_inj, true_and, and_true, or_true, true_or, false_or, or_false, false_and, and_false, not_true_eq_false, not_false_eq_true] <;> omega)), (by first | omega | (simp only [Int32.lt_iff_toInt_lt, Int32.le_iff_toInt_le, Int32.reduceToInt, ← Int32.toInt_inj, true_and, and_true, or_true, true_or, false_or, or_false, false_and, and_false, not_true_eq_false, not_false_eq_true] <;> omega)), (by first | omega | (simp only [Int32.lt_iff_toInt_lt, Int32.le_iff_toInt_le, Int32.reduceToInt, ← Int32.toInt_inj, true_and, and_true, or_true, true_or, false_or, or_false, false_and, and_false, not_true_eq_false, not_false_eq_true] <;> omega)), (by first | omega | (simp only [Int32.lt_iff_toInt_lt, Int32.le_iff_toInt_le, Int32.reduceToInt, ← Int32.toInt_inj, true_and, and_true, or_true, true_or, false_or, or_false, false_and, and_false, not_true_eq_false, not_false_eq_true] <;> omega))⟩
  have fr_66 := FR.w hk_64 hf_58 (k := 12) rfl
  have fe_67 : fld (f_62 a_0) 12 = (0 : Int32).toInt := by rw [hf_63]; rfl
  simp only [Int32.reduceToInt] at fe_67
  have fe_68 : fld (f_62 a_0) 8 = (0 : Int32).toInt := by rw [hf_63]; rfl
  simp only [Int32.reduceToInt] at fe_68
  have fe_69 : fld (f_62 a_0) 20 = (v_39 : Int32).toInt := by rw [hf_63]; rfl
  exact hR _ _ _ _ _ _ dX12_begin_28 (Nat.le_of_ble_eq_true rfl) (Nat.le_of_ble_eq_true rfl) ⟨rfl, hW_65, (((((fr_46.tr fr_51).tr fr_56).tr fr_61).tr fr_66).mono rfl), (by simp only [fe_67, true_and, and_true, or_true, true_or, false_or, or_false, false_and, and_false, not_true_eq_false, not_false_eq_true] <;> first | omega | (simp only [Int32.lt_iff_toInt_lt, Int32.le_iff_toInt_le, Int32.reduceToInt, ← Int32.toInt_inj, true_and, and_true, or_true, true_or, false_or, or_false, false_and, and_false, not_true_eq_false, not_false_eq_true] <;> omega)), (by simp only [fe_68, true_and, and_true, or_true, true_or, false_or, or_false, false_and, and_false, not_true_eq_false, not_false_eq_true] <;> first | omega | (simp only [Int32.lt_iff_toInt_lt, Int32.le_iff_toInt_le, Int32.reduceToInt, ← Int32.toInt_inj, true_and, and_true, or_true, true_or, false_or, or_false, false_and, and_false, not_true_eq_false, not_false_eq_true] <;> omega)), (by simp only [fe_69, mz_41, true_and, and_true, or_true, true_or, false_or, or_false, false_and, and_false, not_true_eq_false, not_false_eq_true] <;> first | omega | (simp only [Int32.lt_iff_toInt_lt, Int32.le_iff_toInt_le, Int32.reduceToInt, ← Int32.toInt_inj, true_and, and_true, or_true, true_or, false_or, or_false, false_and, and_false, not_true_eq_false, not_false_eq_true] <;> omega))⟩
set_option maxRecDepth 100000 in
set_option maxHeartbeats 4000000 in
theorem p_X12_see {l : Launch} {E : Ez} {L : List Nat} {f : Nat → va_E} {T : Nat → va_E → Prop} {a_0 : Nat} {a_1 : Int32} {q : Nat → Nat} (hW : WT T L f) (k_0 : isM T L E a_0 q) (g_1 : (0 ≤ a_1.toInt ∧ a_1.toInt ≤ 600)) : CI l yX12_see cX12_see 2 .int 0 0 0 E [.ref a_0, .int a_1] L f (fun r L1 f1 => L = L1 ∧ f = f1 ∧ r = (sv (f a_0) (f (q 4)) a_1)) := by
  refine ci_of (by decide) (Nat.le_of_ble_eq_true rfl) (fun z hz hnm hC hR => ?_)
  have hC : Cx z E cX12_see RX12 2 0 0 0 := hC
  subst hz
  show V z E 2 0 0 L f 0 [(0, .ref a_0), (1, .int a_1)] []
  obtain ⟨m_1, t_2, nq_21, k_3, k_4, k_5, k_6, k_7, k_8, k_9, k_10, k_11, k_12, k_13, k_14, k_15, k_16, k_17, k_18, k_19, k_20⟩ := id k_0
  refine v_iload_n hC dX12_see_0 rfl ?_
  refine v_aload_n hC dX12_see_1 rfl ?_
  obtain ⟨v_23, v_24, v_26, v_28, v_30, v_32, v_34, v_35, v_36, v_37, v_39, e_22, b_25, b_27, b_29, b_31, b_33, b_38, b_40⟩ := hW.at m_1 t_2
  refine v_get hC fl_X12_105 m_1 e_22 rfl dX12_see_2 ?_
  refine v_icmp_ge hC dX12_see_5 (tgt := 21) (by decide) (fun h_41 => ?_) (fun h_41 => ?_)
  · simp only [Int32.lt_iff_toInt_lt, Int32.le_iff_toInt_le, Int32.reduceToInt, ← Int32.toInt_inj] at h_41
    refine v_iconst hC dX12_see_21 (v := (-1)) (by decide) ?_
    have fe_42 : fld (f a_0) 7 = (v_26 : Int32).toInt := by rw [e_22]; rfl
    exact hR _ _ _ _ _ _ _ dX12_see_22 rfl (Nat.le_of_ble_eq_true rfl) (Nat.le_of_ble_eq_true rfl) ⟨rfl, rfl, (sv_out (by rw [fe_42]; omega))⟩
  · simp only [Int32.lt_iff_toInt_lt, Int32.le_iff_toInt_le, Int32.reduceToInt, ← Int32.toInt_inj] at h_41
    refine v_aload_n hC dX12_see_8 rfl ?_
    refine v_get hC fl_X12_24 m_1 e_22 rfl dX12_see_9 ?_
    refine v_iload_n hC dX12_see_12 rfl ?_
    obtain ⟨m_43, t_44⟩ := id k_6
    obtain ⟨g_46, e_45, fit_47⟩ := hW.at m_43 t_44
    obtain ⟨v_48, h_49⟩ : ∃ v9 : Int32, g_46 (a_1 : Int32).toNatClampNeg = v9 := ⟨_, rfl⟩
    refine v_bald hC m_43 e_45 (vp_in_iff.mpr (by first | omega | (simp only [Int32.lt_iff_toInt_lt, Int32.le_iff_toInt_le, Int32.reduceToInt, ← Int32.toInt_inj, true_and, and_true, or_true, true_or, false_or, or_false, false_and, and_false, not_true_eq_false, not_false_eq_true] <;> omega))) h_49 dX12_see_13 ?_
    refine v_sipush hC dX12_see_14 (v := 255) (by decide) ?_
    obtain ⟨v_50, h_51⟩ : ∃ v9 : Int32, v_48 &&& 255 = v9 := ⟨_, rfl⟩
    refine v_iand hC dX12_see_17 h_51 ?_
    have h_52 := and_v h_51 (by decide)
    try simp only [Int32.reduceToInt] at h_52
    refine v_goto hC dX12_see_18 (tgt := 22) (by decide) ?_
    have fe_53 : fld (f a_0) 7 = (v_26 : Int32).toInt := by rw [e_22]; rfl
    exact hR _ _ _ _ _ _ _ dX12_see_22 rfl (Nat.le_of_ble_eq_true rfl) (Nat.le_of_ble_eq_true rfl) ⟨rfl, rfl, (sv_in (by rw [fe_53]; omega) e_45 h_49 h_51)⟩
set_option maxRecDepth 100000 in
set_option maxHeartbeats 4000000 in
theorem p_X12_advance {l : Launch} {E : Ez} {L : List Nat} {f : Nat → va_E} {T : Nat → va_E → Prop} {a_0 : Nat} {q : Nat → Nat} (hW : WT T L f) (k_0 : isM T L E a_0 q) : CV l yX12_advance cX12_advance 2 1 0 0 E [.ref a_0] L f (fun L1 f1 => L = L1 ∧ WT T L f1 ∧ FR [12] f f1 ∧ (fld (f a_0) 8 ≤ fld (f1 a_0) 9 ∧ fld (f1 a_0) 9 ≤ fld (f1 a_0) 8) ∧ (fld (f1 a_0) 10 = 0 ∨ fld (f1 a_0) 9 < fld (f1 a_0) 8) ∧ fld (f1 a_0) 12 = fld (f a_0) 12 ∧ fld (f1 a_0) 20 = fld (f a_0) 20) := by
  refine cv_of (by decide) (Nat.le_of_ble_eq_true rfl) (fun z hz hnm hC hR => ?_)
  have hC : Cx z E cX12_advance RX12 2 1 0 0 := hC
  subst hz
  show V z E 2 0 0 L f 0 [(0, .ref a_0)] []
  obtain ⟨m_1, t_2, nq_21, k_3, k_4, k_5, k_6, k_7, k_8, k_9, k_10, k_11, k_12, k_13, k_14, k_15, k_16, k_17, k_18, k_19, k_20⟩ := id k_0
  obtain ⟨v_23, v_24, v_26, v_28, v_30, v_32, v_34, v_35, v_36, v_37, v_39, e_22, b_25, b_27, b_29, b_31, b_33, b_38, b_40⟩ := hW.at m_1 t_2
  have mz_41 : fld (f a_0) 8 = v_28.toInt := by rw [e_22]; rfl
  have mz_42 : fld (f a_0) 12 = v_35.toInt := by rw [e_22]; rfl
  have mz_43 : fld (f a_0) 20 = v_39.toInt := by rw [e_22]; rfl
  have lp_2816 : ∀ (n_2817 : Nat) (f_2810 : Nat → va_E) (hW_2811 : WT T L f_2810) (hF_2812 : FR [12] f f_2810)  (nv_2813 : v_28.toInt ≤ fld (f_2810 a_0) 8) (nv_2814 : fld (f_2810 a_0) 12 = v_35.toInt) (nv_2815 : fld (f_2810 a_0) 20 = v_39.toInt) (hm_2819 : 600 - fld (f_2810 a_0) 8 < (n_2817 : Int)), V z E 2 0 0 L f_2810 0 [(0, .ref a_0)] [] := by
    intro n_2817
    induction n_2817 with
    | zero =>
      intro f_2810 hW_2811 hF_2812 nv_2813 nv_2814 nv_2815 hm_2819
      obtain ⟨v_2821, v_2822, v_2824, v_2826, v_2828, v_2830, v_2832, v_2833, v_2834, v_2835, v_2837, e_2820, b_2823, b_2825, b_2827, b_2829, b_2831, b_2836, b_2838⟩ := hW_2811.at m_1 t_2
      have fe_2839 : fld (f_2810 a_0) 8 = (v_2826 : Int32).toInt := by rw [e_2820]; rfl
      rw [fe_2839] at nv_2813
      have fe_2840 : fld (f_2810 a_0) 12 = (v_2833 : Int32).toInt := by rw [e_2820]; rfl
      rw [fe_2840] at nv_2814
      have fe_2841 : fld (f_2810 a_0) 20 = (v_2837 : Int32).toInt := by rw [e_2820]; rfl
      rw [fe_2841] at nv_2815
      have h_2842 : fld (f_2810 a_0) 8 = (v_2826 : Int32).toInt := by rw [e_2820]; rfl
      rw [h_2842] at hm_2819
      exfalso; omega
    | succ n_2817 ih_2818 =>
      intro f_2810 hW_2811 hF_2812 nv_2813 nv_2814 nv_2815 hm_2819
      obtain ⟨v_2821, v_2822, v_2824, v_2826, v_2828, v_2830, v_2832, v_2833, v_2834, v_2835, v_2837, e_2820, b_2823, b_2825, b_2827, b_2829, b_2831, b_2836, b_2838⟩ := hW_2811.at m_1 t_2
      have fe_2839 : fld (f_2810 a_0) 8 = (v_2826 : Int32).toInt := by rw [e_2820]; rfl
      rw [fe_2839] at nv_2813
      have fe_2840 : fld (f_2810 a_0) 12 = (v_2833 : Int32).toInt := by rw [e_2820]; rfl
      rw [fe_2840] at nv_2814
      have fe_2841 : fld (f_2810 a_0) 20 = (v_2837 : Int32).toInt := by rw [e_2820]; rfl
      rw [fe_2841] at nv_2815
      have h_2842 : fld (f_2810 a_0) 8 = (v_2826 : Int32).toInt := by rw [e_2820]; rfl
      rw [h_2842] at hm_2819
      refine v_aload_n hC dX12_advance_0 rfl ?_
      refine v_aload_n hC dX12_advance_1 rfl ?_
      refine v_get hC fl_X12_108 m_1 e_2820 rfl dX12_advance_2 ?_
      refine v_vi hC (rest := []) m_1 e_2820 rfl mi_X12_see ms_X12_see (p_X12_see hW_2811 k_0 (by first | omega | (simp only [Int32.lt_iff_toInt_lt, Int32.le_iff_toInt_le, Int32.reduceToInt, ← Int32.toInt_inj, true_and, and_true, or_true, true_or, false_or, or_false, false_and, and_false, not_true_eq_false, not_false_eq_true] <;> omega))) mx_X12_see ml_X12_114 (by decide) rfl (cells1 := 0) (slots1 := 0) (by decide) (by decide) (Nat.le_of_ble_eq_true rfl) (Nat.le_of_ble_eq_true rfl) rfl (Nat.le_of_ble_eq_true rfl) dX12_advance_5 (fun r_2843 L_2844 f_2845 h_2846 => ?_)
      obtain ⟨rfl, rfl, rfl⟩ := h_2846
      have sb_2849 := sv_b (f_2810 a_0) (f_2810 (q 4)) v_2826
      have fe_2850 : fld (f_2810 a_0) 7 = (v_2824 : Int32).toInt := by rw [e_2820]; rfl
      rw [fe_2850] at sb_2849
      refine v_bipush hC dX12_advance_8 (v := 32) (by decide) ?_
      refine v_icmp_eq hC dX12_advance_10 (tgt := 26) (by decide) (fun h_2851 => ?_) (fun h_2851 => ?_)
      · simp only [Int32.lt_iff_toInt_lt, Int32.le_iff_toInt_le, Int32.reduceToInt, ← Int32.toInt_inj] at h_2851
        refine v_aload_n hC dX12_advance_26 rfl ?_
        refine v_dup hC dX12_advance_27 rfl ?_
        refine v_get hC fl_X12_108 m_1 e_2820 rfl dX12_advance_28 ?_
        refine v_iconst hC dX12_advance_31 (v := 1) (by decide) ?_
        obtain ⟨v_2864, h_2865⟩ : ∃ v9 : Int32, v_2826 + 1 = v9 := ⟨_, rfl⟩
        refine v_iadd hC dX12_advance_32 h_2865 ?_
        have h_2866 := add_v h_2865 (by first | omega | (simp only [Int32.lt_iff_toInt_lt, Int32.le_iff_toInt_le, Int32.reduceToInt, ← Int32.toInt_inj, true_and, and_true, or_true, true_or, false_or, or_false, false_and, and_false, not_true_eq_false, not_false_eq_true] <;> omega)) (by first | omega | (simp only [Int32.lt_iff_toInt_lt, Int32.le_iff_toInt_le, Int32.reduceToInt, ← Int32.toInt_inj, true_and, and_true, or_true, true_or, false_or, or_false, false_and, and_false, not_true_eq_false, not_false_eq_true] <;> omega))
        try simp only [Int32.reduceToInt] at h_2866
        refine v_put hC fl_X12_108 m_1 e_2820 rfl rfl (Nat.le_of_ble_eq_true rfl) (fs' := [.int v_2821, .ref (q 1), .ref (q 2), .ref (q 3), .ref (q 4), .int v_2822, .ref (q 6), .int v_2824, .int v_2864, .int v_2828, .int v_2830, .int v_2832, .int v_2833, .int v_2834, .ref (q 14), .ref (q 15), .ref (q 16), .int v_2835, .ref (q 18), .ref (q 19), .int v_2837, .ref (q 21), .ref (q 22), .ref (q 23), .ref (q 24), .ref (q 25), .ref (q 26), .ref (q 27), .ref (q 28)]) rfl dX12_advance_33 (fun f_2867 hf_2868 hk_2869 => ?_)
        have hW_2870 := hW_2811.up hf_2868 hk_2869 t_2 ⟨v_2821, v_2822, v_2824, v_2864, v_2828, v_2830, v_2832, v_2833, v_2834, v_2835, v_2837, rfl, (by first | omega | (simp only [Int32.lt_iff_toInt_lt, Int32.le_iff_toInt_le, Int32.reduceToInt, ← Int32.toInt_inj, true_and, and_true, or_true, true_or, false_or, or_false, false_and, and_false, not_true_eq_false, not_false_eq_true] <;> omega)), (by first | omega | (simp only [Int32.lt_iff_toInt_lt, Int32.le_iff_toInt_le, Int32.reduceToInt, ← Int32.toInt_inj, true_and, and_true, or_true, true_or, false_or, or_false, false_and, and_false, not_true_eq_false, not_false_eq_true] <;> omega)), (by first | omega | (simp only [Int32.lt_iff_toInt_lt, Int32.le_iff_toInt_le, Int32.reduceToInt, ← Int32.toInt_inj, true_and, and_true, or_true, true_or, false_or, or_false, false_and, and_false, not_true_eq_false, not_false_eq_true] <;> omega)), (by first | omega | (simp only [Int32.lt_iff_toInt_lt, Int32.le_iff_toInt_le, Int32.reduceToInt, ← Int32.toInt_inj, true_and, and_true, or_true, true_or, false_or, or_false, false_and, and_false, not_true_eq_false, not_false_eq_true] <;> omega)), (by first | omega | (simp only [Int32.lt_iff_toInt_lt, Int32.le_iff_toInt_le, Int32.reduceToInt, ← Int32.toInt_inj, true_and, and_true, or_true, true_or, false_or, or_false, false_and, and_false, not_true_eq_false, not_false_eq_true] <;> omega)), (by first | omega | (simp only [Int32.lt_iff_toInt_lt, Int32.le_iff_toInt_le, Int32.reduceToInt, ← Int32.toInt_inj, true_and, and_true, or_true, true_or, false_or, or_false, false_and, and_false, not_true_eq_false, not_false_eq_true] <;> omega)), (by first | omega | (simp only [Int32.lt_iff_toInt_lt, Int32.le_iff_toInt_le, Int32.reduceToInt, ← Int32.toInt_inj, true_and, and_true, or_true, true_or, false_or, or_false, false_and, and_false, not_true_eq_false, not_false_eq_true] <;> omega))⟩
        have fr_2871 := FR.w hk_2869 e_2820 (k := 12) rfl
        refine v_goto hC dX12_advance_36 (tgt := 0) (by decide) ?_
        refine v_pick [0] rfl ?_
        have fe_2872 : fld (f_2867 a_0) 8 = (v_2864 : Int32).toInt := by rw [hf_2868]; rfl
        have fe_2873 : fld (f_2867 a_0) 12 = (v_2833 : Int32).toInt := by rw [hf_2868]; rfl
        have fe_2874 : fld (f_2867 a_0) 20 = (v_2837 : Int32).toInt := by rw [hf_2868]; rfl
        have h_2875 : fld (f_2867 a_0) 8 = (v_2864 : Int32).toInt := by rw [hf_2868]; rfl
        exact ih_2818 f_2867 hW_2870 ((hF_2812.tr fr_2871).mono rfl) (by rw [fe_2872] <;> first | omega | (simp only [Int32.lt_iff_toInt_lt, Int32.le_iff_toInt_le, Int32.reduceToInt, ← Int32.toInt_inj, true_and, and_true, or_true, true_or, false_or, or_false, false_and, and_false, not_true_eq_false, not_false_eq_true] <;> omega)) (by rw [fe_2873] <;> first | omega | (simp only [Int32.lt_iff_toInt_lt, Int32.le_iff_toInt_le, Int32.reduceToInt, ← Int32.toInt_inj, true_and, and_true, or_true, true_or, false_or, or_false, false_and, and_false, not_true_eq_false, not_false_eq_true] <;> omega)) (by rw [fe_2874] <;> first | omega | (simp only [Int32.lt_iff_toInt_lt, Int32.le_iff_toInt_le, Int32.reduceToInt, ← Int32.toInt_inj, true_and, and_true, or_true, true_or, false_or, or_false, false_and, and_false, not_true_eq_false, not_false_eq_true] <;> omega)) (by rw [h_2875]; omega)
      · simp only [Int32.lt_iff_toInt_lt, Int32.le_iff_toInt_le, Int32.reduceToInt, ← Int32.toInt_inj] at h_2851
        refine v_aload_n hC dX12_advance_13 rfl ?_
        refine v_aload_n hC dX12_advance_14 rfl ?_
        refine v_get hC fl_X12_108 m_1 e_2820 rfl dX12_advance_15 ?_
        refine v_vi hC (rest := []) m_1 e_2820 rfl mi_X12_see ms_X12_see (p_X12_see hW_2811 k_0 (by first | omega | (simp only [Int32.lt_iff_toInt_lt, Int32.le_iff_toInt_le, Int32.reduceToInt, ← Int32.toInt_inj, true_and, and_true, or_true, true_or, false_or, or_false, false_and, and_false, not_true_eq_false, not_false_eq_true] <;> omega))) mx_X12_see ml_X12_114 (by decide) rfl (cells1 := 0) (slots1 := 0) (by decide) (by decide) (Nat.le_of_ble_eq_true rfl) (Nat.le_of_ble_eq_true rfl) rfl (Nat.le_of_ble_eq_true rfl) dX12_advance_18 (fun r_2876 L_2877 f_2878 h_2879 => ?_)
        obtain ⟨rfl, rfl, rfl⟩ := h_2879
        have sb_2882 := sv_b (f_2810 a_0) (f_2810 (q 4)) v_2826
        have fe_2883 : fld (f_2810 a_0) 7 = (v_2824 : Int32).toInt := by rw [e_2820]; rfl
        rw [fe_2883] at sb_2882
        refine v_bipush hC dX12_advance_21 (v := 10) (by decide) ?_
        refine v_icmp_ne hC dX12_advance_23 (tgt := 39) (by decide) (fun h_2884 => ?_) (fun h_2884 => ?_)
        · simp only [Int32.lt_iff_toInt_lt, Int32.le_iff_toInt_le, Int32.reduceToInt, ← Int32.toInt_inj] at h_2884
          refine v_aload_n hC dX12_advance_39 rfl ?_
          refine v_aload_n hC dX12_advance_40 rfl ?_
          refine v_get hC fl_X12_108 m_1 e_2820 rfl dX12_advance_41 ?_
          refine v_put hC fl_X12_117 m_1 e_2820 rfl rfl (Nat.le_of_ble_eq_true rfl) (fs' := [.int v_2821, .ref (q 1), .ref (q 2), .ref (q 3), .ref (q 4), .int v_2822, .ref (q 6), .int v_2824, .int v_2826, .int v_2826, .int v_2830, .int v_2832, .int v_2833, .int v_2834, .ref (q 14), .ref (q 15), .ref (q 16), .int v_2835, .ref (q 18), .ref (q 19), .int v_2837, .ref (q 21), .ref (q 22), .ref (q 23), .ref (q 24), .ref (q 25), .ref (q 26), .ref (q 27), .ref (q 28)]) rfl dX12_advance_44 (fun f_2897 hf_2898 hk_2899 => ?_)
          have hW_2900 := hW_2811.up hf_2898 hk_2899 t_2 ⟨v_2821, v_2822, v_2824, v_2826, v_2826, v_2830, v_2832, v_2833, v_2834, v_2835, v_2837, rfl, (by first | omega | (simp only [Int32.lt_iff_toInt_lt, Int32.le_iff_toInt_le, Int32.reduceToInt, ← Int32.toInt_inj, true_and, and_true, or_true, true_or, false_or, or_false, false_and, and_false, not_true_eq_false, not_false_eq_true] <;> omega)), (by first | omega | (simp only [Int32.lt_iff_toInt_lt, Int32.le_iff_toInt_le, Int32.reduceToInt, ← Int32.toInt_inj, true_and, and_true, or_true, true_or, false_or, or_false, false_and, and_false, not_true_eq_false, not_false_eq_true] <;> omega)), (by first | omega | (simp only [Int32.lt_iff_toInt_lt, Int32.le_iff_toInt_le, Int32.reduceToInt, ← Int32.toInt_inj, true_and, and_true, or_true, true_or, false_or, or_false, false_and, and_false, not_true_eq_false, not_false_eq_true] <;> omega)), (by first | omega | (simp only [Int32.lt_iff_toInt_lt, Int32.le_iff_toInt_le, Int32.reduceToInt, ← Int32.toInt_inj, true_and, and_true, or_true, true_or, false_or, or_false, false_and, and_false, not_true_eq_false, not_false_eq_true] <;> omega)), (by first | omega | (simp only [Int32.lt_iff_toInt_lt, Int32.le_iff_toInt_le, Int32.reduceToInt, ← Int32.toInt_inj, true_and, and_true, or_true, true_or, false_or, or_false, false_and, and_false, not_true_eq_false, not_false_eq_true] <;> omega)), (by first | omega | (simp only [Int32.lt_iff_toInt_lt, Int32.le_iff_toInt_le, Int32.reduceToInt, ← Int32.toInt_inj, true_and, and_true, or_true, true_or, false_or, or_false, false_and, and_false, not_true_eq_false, not_false_eq_true] <;> omega)), (by first | omega | (simp only [Int32.lt_iff_toInt_lt, Int32.le_iff_toInt_le, Int32.reduceToInt, ← Int32.toInt_inj, true_and, and_true, or_true, true_or, false_or, or_false, false_and, and_false, not_true_eq_false, not_false_eq_true] <;> omega))⟩
          have fr_2901 := FR.w hk_2899 e_2820 (k := 12) rfl
          refine v_aload_n hC dX12_advance_47 rfl ?_
          refine v_aload_n hC dX12_advance_48 rfl ?_
          refine v_get hC fl_X12_108 m_1 hf_2898 rfl dX12_advance_49 ?_
          refine v_vi hC (rest := []) m_1 hf_2898 rfl mi_X12_see ms_X12_see (p_X12_see hW_2900 k_0 (by first | omega | (simp only [Int32.lt_iff_toInt_lt, Int32.le_iff_toInt_le, Int32.reduceToInt, ← Int32.toInt_inj, true_and, and_true, or_true, true_or, false_or, or_false, false_and, and_false, not_true_eq_false, not_false_eq_true] <;> omega))) mx_X12_see ml_X12_114 (by decide) rfl (cells1 := 0) (slots1 := 0) (by decide) (by decide) (Nat.le_of_ble_eq_true rfl) (Nat.le_of_ble_eq_true rfl) rfl (Nat.le_of_ble_eq_true rfl) dX12_advance_52 (fun r_2902 L_2903 f_2904 h_2905 => ?_)
          obtain ⟨rfl, rfl, rfl⟩ := h_2905
          have sb_2908 := sv_b (f_2897 a_0) (f_2897 (q 4)) v_2826
          have fe_2909 : fld (f_2897 a_0) 7 = (v_2824 : Int32).toInt := by rw [hf_2898]; rfl
          rw [fe_2909] at sb_2908
          obtain ⟨m_2910, t_2911⟩ := id k_6
          obtain ⟨g_2913, e_2912, fit_2914⟩ := hW_2900.at m_2910 t_2911
          have fe_2915 : fld (f_2897 a_0) 7 = (v_2824 : Int32).toInt := by rw [hf_2898]; rfl
          refine v_istore_n hC dX12_advance_55 (by decide) (lv' := [(1, .int (sv (f_2897 a_0) (f_2897 (q 4)) v_2826)), (0, .ref a_0)]) rfl ?_
          refine v_iload_n hC dX12_advance_56 rfl ?_
          refine v_iconst hC dX12_advance_57 (v := (-1)) (by decide) ?_
          refine v_icmp_ne hC dX12_advance_58 (tgt := 69) (by decide) (fun h_2916 => ?_) (fun h_2916 => ?_)
          · simp only [Int32.lt_iff_toInt_lt, Int32.le_iff_toInt_le, Int32.reduceToInt, ← Int32.toInt_inj] at h_2916
            refine v_iload_n hC dX12_advance_69 rfl ?_
            obtain ⟨v_2917, h_2918⟩ : ∃ v9 : Int64, (sv (f_2897 a_0) (f_2897 (q 4)) v_2826).toInt64 = v9 := ⟨_, rfl⟩
            refine v_i2l hC dX12_advance_70 h_2918 ?_
            have h_2919 : v_2917.toInt = (sv (f_2897 a_0) (f_2897 (q 4)) v_2826).toInt := by rw [← h_2918]; exact Int32.toInt_toInt64 _
            refine v_ldc2 hC kl_X12_123 dX12_advance_71 ?_
            refine v_ldc2 hC kl_X12_125 dX12_advance_74 ?_
            refine v_si hC (rest := []) mt_X12_in (p_X12_in hW_2900) mx_X12_in ml_X12_79 (by decide) rfl (cells1 := 0) (slots1 := 0) (by decide) (by decide) (Nat.le_of_ble_eq_true rfl) (Nat.le_of_ble_eq_true rfl) rfl (Nat.le_of_ble_eq_true rfl) dX12_advance_77 (fun r_2920 L_2921 f_2922 h_2923 => ?_)
            obtain ⟨rfl, rfl, b_2924, x_2925⟩ := h_2923
            try simp only [Int32.reduceToInt, Int64.reduceToInt] at x_2925
            refine v_if_eq hC dX12_advance_80 (tgt := 125) (by decide) (fun h_2928 => ?_) (fun h_2928 => ?_)
            · simp only [Int32.lt_iff_toInt_lt, Int32.le_iff_toInt_le, Int32.reduceToInt, ← Int32.toInt_inj] at h_2928
              refine v_iload_n hC dX12_advance_125 rfl ?_
              obtain ⟨v_2929, h_2930⟩ : ∃ v9 : Int64, (sv (f_2897 a_0) (f_2897 (q 4)) v_2826).toInt64 = v9 := ⟨_, rfl⟩
              refine v_i2l hC dX12_advance_126 h_2930 ?_
              have h_2931 : v_2929.toInt = (sv (f_2897 a_0) (f_2897 (q 4)) v_2826).toInt := by rw [← h_2930]; exact Int32.toInt_toInt64 _
              refine v_ldc2 hC kl_X12_127 dX12_advance_127 ?_
              refine v_ldc2 hC kl_X12_129 dX12_advance_130 ?_
              refine v_si hC (rest := []) mt_X12_in (p_X12_in hW_2900) mx_X12_in ml_X12_79 (by decide) rfl (cells1 := 0) (slots1 := 0) (by decide) (by decide) (Nat.le_of_ble_eq_true rfl) (Nat.le_of_ble_eq_true rfl) rfl (Nat.le_of_ble_eq_true rfl) dX12_advance_133 (fun r_2932 L_2933 f_2934 h_2935 => ?_)
              obtain ⟨rfl, rfl, b_2936, x_2937⟩ := h_2935
              try simp only [Int32.reduceToInt, Int64.reduceToInt] at x_2937
              refine v_if_eq hC dX12_advance_136 (tgt := 215) (by decide) (fun h_2940 => ?_) (fun h_2940 => ?_)
              · simp only [Int32.lt_iff_toInt_lt, Int32.le_iff_toInt_le, Int32.reduceToInt, ← Int32.toInt_inj] at h_2940
                refine v_aload_n hC dX12_advance_215 rfl ?_
                refine v_iload_n hC dX12_advance_216 rfl ?_
                refine v_bipush hC dX12_advance_217 (v := 59) (by decide) ?_
                refine v_icmp_ne hC dX12_advance_219 (tgt := 226) (by decide) (fun h_2941 => ?_) (fun h_2941 => ?_)
                · simp only [Int32.lt_iff_toInt_lt, Int32.le_iff_toInt_le, Int32.reduceToInt, ← Int32.toInt_inj] at h_2941
                  refine v_iconst hC dX12_advance_226 (v := 4) (by decide) ?_
                  refine v_put hC fl_X12_120 m_1 hf_2898 rfl rfl (Nat.le_of_ble_eq_true rfl) (fs' := [.int v_2821, .ref (q 1), .ref (q 2), .ref (q 3), .ref (q 4), .int v_2822, .ref (q 6), .int v_2824, .int v_2826, .int v_2826, .int 4, .int v_2832, .int v_2833, .int v_2834, .ref (q 14), .ref (q 15), .ref (q 16), .int v_2835, .ref (q 18), .ref (q 19), .int v_2837, .ref (q 21), .ref (q 22), .ref (q 23), .ref (q 24), .ref (q 25), .ref (q 26), .ref (q 27), .ref (q 28)]) rfl dX12_advance_227 (fun f_2942 hf_2943 hk_2944 => ?_)
                  have hW_2945 := hW_2900.up hf_2943 hk_2944 t_2 ⟨v_2821, v_2822, v_2824, v_2826, v_2826, 4, v_2832, v_2833, v_2834, v_2835, v_2837, rfl, (by first | omega | (simp only [Int32.lt_iff_toInt_lt, Int32.le_iff_toInt_le, Int32.reduceToInt, ← Int32.toInt_inj, true_and, and_true, or_true, true_or, false_or, or_false, false_and, and_false, not_true_eq_false, not_false_eq_true] <;> omega)), (by first | omega | (simp only [Int32.lt_iff_toInt_lt, Int32.le_iff_toInt_le, Int32.reduceToInt, ← Int32.toInt_inj, true_and, and_true, or_true, true_or, false_or, or_false, false_and, and_false, not_true_eq_false, not_false_eq_true] <;> omega)), (by first | omega | (simp only [Int32.lt_iff_toInt_lt, Int32.le_iff_toInt_le, Int32.reduceToInt, ← Int32.toInt_inj, true_and, and_true, or_true, true_or, false_or, or_false, false_and, and_false, not_true_eq_false, not_false_eq_true] <;> omega)), (by first | omega | (simp only [Int32.lt_iff_toInt_lt, Int32.le_iff_toInt_le, Int32.reduceToInt, ← Int32.toInt_inj, true_and, and_true, or_true, true_or, false_or, or_false, false_and, and_false, not_true_eq_false, not_false_eq_true] <;> omega)), (by decide), (by first | omega | (simp only [Int32.lt_iff_toInt_lt, Int32.le_iff_toInt_le, Int32.reduceToInt, ← Int32.toInt_inj, true_and, and_true, or_true, true_or, false_or, or_false, false_and, and_false, not_true_eq_false, not_false_eq_true] <;> omega)), (by first | omega | (simp only [Int32.lt_iff_toInt_lt, Int32.le_iff_toInt_le, Int32.reduceToInt, ← Int32.toInt_inj, true_and, and_true, or_true, true_or, false_or, or_false, false_and, and_false, not_true_eq_false, not_false_eq_true] <;> omega))⟩
                  have hf_2946 := (hk_2944 (q 4) (ne_kd e_2912 hf_2898 rfl)).trans e_2912
                  have fr_2947 := FR.w hk_2944 hf_2898 (k := 12) rfl
                  refine v_aload_n hC dX12_advance_230 rfl ?_
                  refine v_dup hC dX12_advance_231 rfl ?_
                  refine v_get hC fl_X12_108 m_1 hf_2943 rfl dX12_advance_232 ?_
                  refine v_iconst hC dX12_advance_235 (v := 1) (by decide) ?_
                  obtain ⟨v_2948, h_2949⟩ : ∃ v9 : Int32, v_2826 + 1 = v9 := ⟨_, rfl⟩
                  refine v_iadd hC dX12_advance_236 h_2949 ?_
                  have h_2950 := add_v h_2949 (by first | omega | (simp only [Int32.lt_iff_toInt_lt, Int32.le_iff_toInt_le, Int32.reduceToInt, ← Int32.toInt_inj, true_and, and_true, or_true, true_or, false_or, or_false, false_and, and_false, not_true_eq_false, not_false_eq_true] <;> omega)) (by first | omega | (simp only [Int32.lt_iff_toInt_lt, Int32.le_iff_toInt_le, Int32.reduceToInt, ← Int32.toInt_inj, true_and, and_true, or_true, true_or, false_or, or_false, false_and, and_false, not_true_eq_false, not_false_eq_true] <;> omega))
                  try simp only [Int32.reduceToInt] at h_2950
                  refine v_put hC fl_X12_108 m_1 hf_2943 rfl rfl (Nat.le_of_ble_eq_true rfl) (fs' := [.int v_2821, .ref (q 1), .ref (q 2), .ref (q 3), .ref (q 4), .int v_2822, .ref (q 6), .int v_2824, .int v_2948, .int v_2826, .int 4, .int v_2832, .int v_2833, .int v_2834, .ref (q 14), .ref (q 15), .ref (q 16), .int v_2835, .ref (q 18), .ref (q 19), .int v_2837, .ref (q 21), .ref (q 22), .ref (q 23), .ref (q 24), .ref (q 25), .ref (q 26), .ref (q 27), .ref (q 28)]) rfl dX12_advance_237 (fun f_2951 hf_2952 hk_2953 => ?_)
                  have hW_2954 := hW_2945.up hf_2952 hk_2953 t_2 ⟨v_2821, v_2822, v_2824, v_2948, v_2826, 4, v_2832, v_2833, v_2834, v_2835, v_2837, rfl, (by first | omega | (simp only [Int32.lt_iff_toInt_lt, Int32.le_iff_toInt_le, Int32.reduceToInt, ← Int32.toInt_inj, true_and, and_true, or_true, true_or, false_or, or_false, false_and, and_false, not_true_eq_false, not_false_eq_true] <;> omega)), (by first | omega | (simp only [Int32.lt_iff_toInt_lt, Int32.le_iff_toInt_le, Int32.reduceToInt, ← Int32.toInt_inj, true_and, and_true, or_true, true_or, false_or, or_false, false_and, and_false, not_true_eq_false, not_false_eq_true] <;> omega)), (by first | omega | (simp only [Int32.lt_iff_toInt_lt, Int32.le_iff_toInt_le, Int32.reduceToInt, ← Int32.toInt_inj, true_and, and_true, or_true, true_or, false_or, or_false, false_and, and_false, not_true_eq_false, not_false_eq_true] <;> omega)), (by first | omega | (simp only [Int32.lt_iff_toInt_lt, Int32.le_iff_toInt_le, Int32.reduceToInt, ← Int32.toInt_inj, true_and, and_true, or_true, true_or, false_or, or_false, false_and, and_false, not_true_eq_false, not_false_eq_true] <;> omega)), (by decide), (by first | omega | (simp only [Int32.lt_iff_toInt_lt, Int32.le_iff_toInt_le, Int32.reduceToInt, ← Int32.toInt_inj, true_and, and_true, or_true, true_or, false_or, or_false, false_and, and_false, not_true_eq_false, not_false_eq_true] <;> omega)), (by first | omega | (simp only [Int32.lt_iff_toInt_lt, Int32.le_iff_toInt_le, Int32.reduceToInt, ← Int32.toInt_inj, true_and, and_true, or_true, true_or, false_or, or_false, false_and, and_false, not_true_eq_false, not_false_eq_true] <;> omega))⟩
                  have hf_2955 := (hk_2953 (q 4) (ne_kd hf_2946 hf_2943 rfl)).trans hf_2946
                  have fr_2956 := FR.w hk_2953 hf_2943 (k := 12) rfl
                  have fe_2957 : fld (f_2951 a_0) 8 = (v_2948 : Int32).toInt := by rw [hf_2952]; rfl
                  have fe_2958 : fld (f_2951 a_0) 9 = (v_2826 : Int32).toInt := by rw [hf_2952]; rfl
                  have fe_2959 : fld (f_2951 a_0) 8 = (v_2948 : Int32).toInt := by rw [hf_2952]; rfl
                  have fe_2960 : fld (f_2951 a_0) 9 = (v_2826 : Int32).toInt := by rw [hf_2952]; rfl
                  have fe_2961 : fld (f_2951 a_0) 10 = (4 : Int32).toInt := by rw [hf_2952]; rfl
                  simp only [Int32.reduceToInt] at fe_2961
                  have fe_2962 : fld (f_2951 a_0) 12 = (v_2833 : Int32).toInt := by rw [hf_2952]; rfl
                  have fe_2963 : fld (f_2951 a_0) 20 = (v_2837 : Int32).toInt := by rw [hf_2952]; rfl
                  exact hR _ _ _ _ _ _ dX12_advance_240 (Nat.le_of_ble_eq_true rfl) (Nat.le_of_ble_eq_true rfl) ⟨rfl, hW_2954, ((((hF_2812.tr fr_2901).tr fr_2947).tr fr_2956).mono rfl), (by simp only [fe_2957, fe_2958, mz_41, true_and, and_true, or_true, true_or, false_or, or_false, false_and, and_false, not_true_eq_false, not_false_eq_true] <;> first | omega | (simp only [Int32.lt_iff_toInt_lt, Int32.le_iff_toInt_le, Int32.reduceToInt, ← Int32.toInt_inj, true_and, and_true, or_true, true_or, false_or, or_false, false_and, and_false, not_true_eq_false, not_false_eq_true] <;> omega)), (by simp only [fe_2959, fe_2960, fe_2961, true_and, and_true, or_true, true_or, false_or, or_false, false_and, and_false, not_true_eq_false, not_false_eq_true] <;> first | omega | (simp only [Int32.lt_iff_toInt_lt, Int32.le_iff_toInt_le, Int32.reduceToInt, ← Int32.toInt_inj, true_and, and_true, or_true, true_or, false_or, or_false, false_and, and_false, not_true_eq_false, not_false_eq_true] <;> omega)), (by simp only [fe_2962, mz_42, true_and, and_true, or_true, true_or, false_or, or_false, false_and, and_false, not_true_eq_false, not_false_eq_true] <;> first | omega | (simp only [Int32.lt_iff_toInt_lt, Int32.le_iff_toInt_le, Int32.reduceToInt, ← Int32.toInt_inj, true_and, and_true, or_true, true_or, false_or, or_false, false_and, and_false, not_true_eq_false, not_false_eq_true] <;> omega)), (by simp only [fe_2963, mz_43, true_and, and_true, or_true, true_or, false_or, or_false, false_and, and_false, not_true_eq_false, not_false_eq_true] <;> first | omega | (simp only [Int32.lt_iff_toInt_lt, Int32.le_iff_toInt_le, Int32.reduceToInt, ← Int32.toInt_inj, true_and, and_true, or_true, true_or, false_or, or_false, false_and, and_false, not_true_eq_false, not_false_eq_true] <;> omega))⟩
                · simp only [Int32.lt_iff_toInt_lt, Int32.le_iff_toInt_le, Int32.reduceToInt, ← Int32.toInt_inj] at h_2941
                  refine v_iconst hC dX12_advance_222 (v := 3) (by decide) ?_
                  refine v_goto hC dX12_advance_223 (tgt := 227) (by decide) ?_
                  refine v_put hC fl_X12_120 m_1 hf_2898 rfl rfl (Nat.le_of_ble_eq_true rfl) (fs' := [.int v_2821, .ref (q 1), .ref (q 2), .ref (q 3), .ref (q 4), .int v_2822, .ref (q 6), .int v_2824, .int v_2826, .int v_2826, .int 3, .int v_2832, .int v_2833, .int v_2834, .ref (q 14), .ref (q 15), .ref (q 16), .int v_2835, .ref (q 18), .ref (q 19), .int v_2837, .ref (q 21), .ref (q 22), .ref (q 23), .ref (q 24), .ref (q 25), .ref (q 26), .ref (q 27), .ref (q 28)]) rfl dX12_advance_227 (fun f_2964 hf_2965 hk_2966 => ?_)
                  have hW_2967 := hW_2900.up hf_2965 hk_2966 t_2 ⟨v_2821, v_2822, v_2824, v_2826, v_2826, 3, v_2832, v_2833, v_2834, v_2835, v_2837, rfl, (by first | omega | (simp only [Int32.lt_iff_toInt_lt, Int32.le_iff_toInt_le, Int32.reduceToInt, ← Int32.toInt_inj, true_and, and_true, or_true, true_or, false_or, or_false, false_and, and_false, not_true_eq_false, not_false_eq_true] <;> omega)), (by first | omega | (simp only [Int32.lt_iff_toInt_lt, Int32.le_iff_toInt_le, Int32.reduceToInt, ← Int32.toInt_inj, true_and, and_true, or_true, true_or, false_or, or_false, false_and, and_false, not_true_eq_false, not_false_eq_true] <;> omega)), (by first | omega | (simp only [Int32.lt_iff_toInt_lt, Int32.le_iff_toInt_le, Int32.reduceToInt, ← Int32.toInt_inj, true_and, and_true, or_true, true_or, false_or, or_false, false_and, and_false, not_true_eq_false, not_false_eq_true] <;> omega)), (by first | omega | (simp only [Int32.lt_iff_toInt_lt, Int32.le_iff_toInt_le, Int32.reduceToInt, ← Int32.toInt_inj, true_and, and_true, or_true, true_or, false_or, or_false, false_and, and_false, not_true_eq_false, not_false_eq_true] <;> omega)), (by decide), (by first | omega | (simp only [Int32.lt_iff_toInt_lt, Int32.le_iff_toInt_le, Int32.reduceToInt, ← Int32.toInt_inj, true_and, and_true, or_true, true_or, false_or, or_false, false_and, and_false, not_true_eq_false, not_false_eq_true] <;> omega)), (by first | omega | (simp only [Int32.lt_iff_toInt_lt, Int32.le_iff_toInt_le, Int32.reduceToInt, ← Int32.toInt_inj, true_and, and_true, or_true, true_or, false_or, or_false, false_and, and_false, not_true_eq_false, not_false_eq_true] <;> omega))⟩
                  have hf_2968 := (hk_2966 (q 4) (ne_kd e_2912 hf_2898 rfl)).trans e_2912
                  have fr_2969 := FR.w hk_2966 hf_2898 (k := 12) rfl
                  refine v_aload_n hC dX12_advance_230 rfl ?_
                  refine v_dup hC dX12_advance_231 rfl ?_
                  refine v_get hC fl_X12_108 m_1 hf_2965 rfl dX12_advance_232 ?_
                  refine v_iconst hC dX12_advance_235 (v := 1) (by decide) ?_
                  obtain ⟨v_2970, h_2971⟩ : ∃ v9 : Int32, v_2826 + 1 = v9 := ⟨_, rfl⟩
                  refine v_iadd hC dX12_advance_236 h_2971 ?_
                  have h_2972 := add_v h_2971 (by first | omega | (simp only [Int32.lt_iff_toInt_lt, Int32.le_iff_toInt_le, Int32.reduceToInt, ← Int32.toInt_inj, true_and, and_true, or_true, true_or, false_or, or_false, false_and, and_false, not_true_eq_false, not_false_eq_true] <;> omega)) (by first | omega | (simp only [Int32.lt_iff_toInt_lt, Int32.le_iff_toInt_le, Int32.reduceToInt, ← Int32.toInt_inj, true_and, and_true, or_true, true_or, false_or, or_false, false_and, and_false, not_true_eq_false, not_false_eq_true] <;> omega))
                  try simp only [Int32.reduceToInt] at h_2972
                  refine v_put hC fl_X12_108 m_1 hf_2965 rfl rfl (Nat.le_of_ble_eq_true rfl) (fs' := [.int v_2821, .ref (q 1), .ref (q 2), .ref (q 3), .ref (q 4), .int v_2822, .ref (q 6), .int v_2824, .int v_2970, .int v_2826, .int 3, .int v_2832, .int v_2833, .int v_2834, .ref (q 14), .ref (q 15), .ref (q 16), .int v_2835, .ref (q 18), .ref (q 19), .int v_2837, .ref (q 21), .ref (q 22), .ref (q 23), .ref (q 24), .ref (q 25), .ref (q 26), .ref (q 27), .ref (q 28)]) rfl dX12_advance_237 (fun f_2973 hf_2974 hk_2975 => ?_)
                  have hW_2976 := hW_2967.up hf_2974 hk_2975 t_2 ⟨v_2821, v_2822, v_2824, v_2970, v_2826, 3, v_2832, v_2833, v_2834, v_2835, v_2837, rfl, (by first | omega | (simp only [Int32.lt_iff_toInt_lt, Int32.le_iff_toInt_le, Int32.reduceToInt, ← Int32.toInt_inj, true_and, and_true, or_true, true_or, false_or, or_false, false_and, and_false, not_true_eq_false, not_false_eq_true] <;> omega)), (by first | omega | (simp only [Int32.lt_iff_toInt_lt, Int32.le_iff_toInt_le, Int32.reduceToInt, ← Int32.toInt_inj, true_and, and_true, or_true, true_or, false_or, or_false, false_and, and_false, not_true_eq_false, not_false_eq_true] <;> omega)), (by first | omega | (simp only [Int32.lt_iff_toInt_lt, Int32.le_iff_toInt_le, Int32.reduceToInt, ← Int32.toInt_inj, true_and, and_true, or_true, true_or, false_or, or_false, false_and, and_false, not_true_eq_false, not_false_eq_true] <;> omega)), (by first | omega | (simp only [Int32.lt_iff_toInt_lt, Int32.le_iff_toInt_le, Int32.reduceToInt, ← Int32.toInt_inj, true_and, and_true, or_true, true_or, false_or, or_false, false_and, and_false, not_true_eq_false, not_false_eq_true] <;> omega)), (by decide), (by first | omega | (simp only [Int32.lt_iff_toInt_lt, Int32.le_iff_toInt_le, Int32.reduceToInt, ← Int32.toInt_inj, true_and, and_true, or_true, true_or, false_or, or_false, false_and, and_false, not_true_eq_false, not_false_eq_true] <;> omega)), (by first | omega | (simp only [Int32.lt_iff_toInt_lt, Int32.le_iff_toInt_le, Int32.reduceToInt, ← Int32.toInt_inj, true_and, and_true, or_true, true_or, false_or, or_false, false_and, and_false, not_true_eq_false, not_false_eq_true] <;> omega))⟩
                  have hf_2977 := (hk_2975 (q 4) (ne_kd hf_2968 hf_2965 rfl)).trans hf_2968
                  have fr_2978 := FR.w hk_2975 hf_2965 (k := 12) rfl
                  have fe_2979 : fld (f_2973 a_0) 8 = (v_2970 : Int32).toInt := by rw [hf_2974]; rfl
                  have fe_2980 : fld (f_2973 a_0) 9 = (v_2826 : Int32).toInt := by rw [hf_2974]; rfl
                  have fe_2981 : fld (f_2973 a_0) 8 = (v_2970 : Int32).toInt := by rw [hf_2974]; rfl
                  have fe_2982 : fld (f_2973 a_0) 9 = (v_2826 : Int32).toInt := by rw [hf_2974]; rfl
                  have fe_2983 : fld (f_2973 a_0) 10 = (3 : Int32).toInt := by rw [hf_2974]; rfl
                  simp only [Int32.reduceToInt] at fe_2983
                  have fe_2984 : fld (f_2973 a_0) 12 = (v_2833 : Int32).toInt := by rw [hf_2974]; rfl
                  have fe_2985 : fld (f_2973 a_0) 20 = (v_2837 : Int32).toInt := by rw [hf_2974]; rfl
                  exact hR _ _ _ _ _ _ dX12_advance_240 (Nat.le_of_ble_eq_true rfl) (Nat.le_of_ble_eq_true rfl) ⟨rfl, hW_2976, ((((hF_2812.tr fr_2901).tr fr_2969).tr fr_2978).mono rfl), (by simp only [fe_2979, fe_2980, mz_41, true_and, and_true, or_true, true_or, false_or, or_false, false_and, and_false, not_true_eq_false, not_false_eq_true] <;> first | omega | (simp only [Int32.lt_iff_toInt_lt, Int32.le_iff_toInt_le, Int32.reduceToInt, ← Int32.toInt_inj, true_and, and_true, or_true, true_or, false_or, or_false, false_and, and_false, not_true_eq_false, not_false_eq_true] <;> omega)), (by simp only [fe_2981, fe_2982, fe_2983, true_and, and_true, or_true, true_or, false_or, or_false, false_and, and_false, not_true_eq_false, not_false_eq_true] <;> first | omega | (simp only [Int32.lt_iff_toInt_lt, Int32.le_iff_toInt_le, Int32.reduceToInt, ← Int32.toInt_inj, true_and, and_true, or_true, true_or, false_or, or_false, false_and, and_false, not_true_eq_false, not_false_eq_true] <;> omega)), (by simp only [fe_2984, mz_42, true_and, and_true, or_true, true_or, false_or, or_false, false_and, and_false, not_true_eq_false, not_false_eq_true] <;> first | omega | (simp only [Int32.lt_iff_toInt_lt, Int32.le_iff_toInt_le, Int32.reduceToInt, ← Int32.toInt_inj, true_and, and_true, or_true, true_or, false_or, or_false, false_and, and_false, not_true_eq_false, not_false_eq_true] <;> omega)), (by simp only [fe_2985, mz_43, true_and, and_true, or_true, true_or, false_or, or_false, false_and, and_false, not_true_eq_false, not_false_eq_true] <;> first | omega | (simp only [Int32.lt_iff_toInt_lt, Int32.le_iff_toInt_le, Int32.reduceToInt, ← Int32.toInt_inj, true_and, and_true, or_true, true_or, false_or, or_false, false_and, and_false, not_true_eq_false, not_false_eq_true] <;> omega))⟩
              · simp only [Int32.lt_iff_toInt_lt, Int32.le_iff_toInt_le, Int32.reduceToInt, ← Int32.toInt_inj] at h_2940
                refine v_aload_n hC dX12_advance_139 rfl ?_
                refine v_iconst hC dX12_advance_140 (v := 0) (by decide) ?_
                refine v_put hC fl_X12_131 m_1 hf_2898 rfl rfl (Nat.le_of_ble_eq_true rfl) (fs' := [.int v_2821, .ref (q 1), .ref (q 2), .ref (q 3), .ref (q 4), .int v_2822, .ref (q 6), .int v_2824, .int v_2826, .int v_2826, .int v_2830, .int 0, .int v_2833, .int v_2834, .ref (q 14), .ref (q 15), .ref (q 16), .int v_2835, .ref (q 18), .ref (q 19), .int v_2837, .ref (q 21), .ref (q 22), .ref (q 23), .ref (q 24), .ref (q 25), .ref (q 26), .ref (q 27), .ref (q 28)]) rfl dX12_advance_141 (fun f_2986 hf_2987 hk_2988 => ?_)
                have hW_2989 := hW_2900.up hf_2987 hk_2988 t_2 ⟨v_2821, v_2822, v_2824, v_2826, v_2826, v_2830, 0, v_2833, v_2834, v_2835, v_2837, rfl, (by first | omega | (simp only [Int32.lt_iff_toInt_lt, Int32.le_iff_toInt_le, Int32.reduceToInt, ← Int32.toInt_inj, true_and, and_true, or_true, true_or, false_or, or_false, false_and, and_false, not_true_eq_false, not_false_eq_true] <;> omega)), (by first | omega | (simp only [Int32.lt_iff_toInt_lt, Int32.le_iff_toInt_le, Int32.reduceToInt, ← Int32.toInt_inj, true_and, and_true, or_true, true_or, false_or, or_false, false_and, and_false, not_true_eq_false, not_false_eq_true] <;> omega)), (by first | omega | (simp only [Int32.lt_iff_toInt_lt, Int32.le_iff_toInt_le, Int32.reduceToInt, ← Int32.toInt_inj, true_and, and_true, or_true, true_or, false_or, or_false, false_and, and_false, not_true_eq_false, not_false_eq_true] <;> omega)), (by first | omega | (simp only [Int32.lt_iff_toInt_lt, Int32.le_iff_toInt_le, Int32.reduceToInt, ← Int32.toInt_inj, true_and, and_true, or_true, true_or, false_or, or_false, false_and, and_false, not_true_eq_false, not_false_eq_true] <;> omega)), (by first | omega | (simp only [Int32.lt_iff_toInt_lt, Int32.le_iff_toInt_le, Int32.reduceToInt, ← Int32.toInt_inj, true_and, and_true, or_true, true_or, false_or, or_false, false_and, and_false, not_true_eq_false, not_false_eq_true] <;> omega)), (by first | omega | (simp only [Int32.lt_iff_toInt_lt, Int32.le_iff_toInt_le, Int32.reduceToInt, ← Int32.toInt_inj, true_and, and_true, or_true, true_or, false_or, or_false, false_and, and_false, not_true_eq_false, not_false_eq_true] <;> omega)), (by first | omega | (simp only [Int32.lt_iff_toInt_lt, Int32.le_iff_toInt_le, Int32.reduceToInt, ← Int32.toInt_inj, true_and, and_true, or_true, true_or, false_or, or_false, false_and, and_false, not_true_eq_false, not_false_eq_true] <;> omega))⟩
                have hf_2990 := (hk_2988 (q 4) (ne_kd e_2912 hf_2898 rfl)).trans e_2912
                have fr_2991 := FR.w hk_2988 hf_2898 (k := 12) rfl
                refine v_aload_n hC dX12_advance_144 rfl ?_
                refine v_aload_n hC dX12_advance_145 rfl ?_
                refine v_get hC fl_X12_108 m_1 hf_2987 rfl dX12_advance_146 ?_
                refine v_vi hC (rest := []) m_1 hf_2987 rfl mi_X12_see ms_X12_see (p_X12_see hW_2989 k_0 (by first | omega | (simp only [Int32.lt_iff_toInt_lt, Int32.le_iff_toInt_le, Int32.reduceToInt, ← Int32.toInt_inj, true_and, and_true, or_true, true_or, false_or, or_false, false_and, and_false, not_true_eq_false, not_false_eq_true] <;> omega))) mx_X12_see ml_X12_114 (by decide) rfl (cells1 := 0) (slots1 := 0) (by decide) (by decide) (Nat.le_of_ble_eq_true rfl) (Nat.le_of_ble_eq_true rfl) rfl (Nat.le_of_ble_eq_true rfl) dX12_advance_149 (fun r_2992 L_2993 f_2994 h_2995 => ?_)
                obtain ⟨rfl, rfl, rfl⟩ := h_2995
                have sb_2998 := sv_b (f_2986 a_0) (f_2986 (q 4)) v_2826
                have fe_2999 : fld (f_2986 a_0) 7 = (v_2824 : Int32).toInt := by rw [hf_2987]; rfl
                rw [fe_2999] at sb_2998
                have fe_3000 : fld (f_2986 a_0) 7 = (v_2824 : Int32).toInt := by rw [hf_2987]; rfl
                have sc_3001 : ((sv (f_2986 a_0) (f_2986 (q 4)) v_2826)).toInt = ((sv (f_2897 a_0) (f_2897 (q 4)) v_2826)).toInt := congrArg Int32.toInt (sv_congr (fe_3000.trans fe_2915.symm) (hf_2990.trans e_2912.symm))
                obtain ⟨v_3002, h_3003⟩ : ∃ v9 : Int64, (sv (f_2986 a_0) (f_2986 (q 4)) v_2826).toInt64 = v9 := ⟨_, rfl⟩
                refine v_i2l hC dX12_advance_152 h_3003 ?_
                have h_3004 : v_3002.toInt = (sv (f_2986 a_0) (f_2986 (q 4)) v_2826).toInt := by rw [← h_3003]; exact Int32.toInt_toInt64 _
                refine v_ldc2 hC kl_X12_127 dX12_advance_153 ?_
                refine v_ldc2 hC kl_X12_129 dX12_advance_156 ?_
                refine v_si hC (rest := []) mt_X12_in (p_X12_in hW_2989) mx_X12_in ml_X12_79 (by decide) rfl (cells1 := 0) (slots1 := 0) (by decide) (by decide) (Nat.le_of_ble_eq_true rfl) (Nat.le_of_ble_eq_true rfl) rfl (Nat.le_of_ble_eq_true rfl) dX12_advance_159 (fun r_3005 L_3006 f_3007 h_3008 => ?_)
                obtain ⟨rfl, rfl, b_3009, x_3010⟩ := h_3008
                try simp only [Int32.reduceToInt, Int64.reduceToInt] at x_3010
                refine v_if_eq_f hC dX12_advance_162 (tgt := 207) (by decide) (by first | omega | (simp only [Int32.lt_iff_toInt_lt, Int32.le_iff_toInt_le, Int32.reduceToInt, ← Int32.toInt_inj, true_and, and_true, or_true, true_or, false_or, or_false, false_and, and_false, not_true_eq_false, not_false_eq_true] <;> omega)) ?_
                refine v_aload_n hC dX12_advance_165 rfl ?_
                refine v_sipush hC dX12_advance_166 (v := 9999) (by decide) ?_
                refine v_bipush hC dX12_advance_169 (v := 10) (by decide) ?_
                refine v_aload_n hC dX12_advance_171 rfl ?_
                refine v_get hC fl_X12_131 m_1 hf_2987 rfl dX12_advance_172 ?_
                refine v_imul hC dX12_advance_175 (v := 0) (by decide) ?_
                refine v_aload_n hC dX12_advance_176 rfl ?_
                refine v_aload_n hC dX12_advance_177 rfl ?_
                refine v_get hC fl_X12_108 m_1 hf_2987 rfl dX12_advance_178 ?_
                refine v_vi hC (rest := [.int 0, .int 9999, .ref a_0]) m_1 hf_2987 rfl mi_X12_see ms_X12_see (p_X12_see hW_2989 k_0 (by first | omega | (simp only [Int32.lt_iff_toInt_lt, Int32.le_iff_toInt_le, Int32.reduceToInt, ← Int32.toInt_inj, true_and, and_true, or_true, true_or, false_or, or_false, false_and, and_false, not_true_eq_false, not_false_eq_true] <;> omega))) mx_X12_see ml_X12_114 (by decide) rfl (cells1 := 0) (slots1 := 0) (by decide) (by decide) (Nat.le_of_ble_eq_true rfl) (Nat.le_of_ble_eq_true rfl) rfl (Nat.le_of_ble_eq_true rfl) dX12_advance_181 (fun r_3013 L_3014 f_3015 h_3016 => ?_)
                obtain ⟨rfl, rfl, rfl⟩ := h_3016
                have sb_3019 := sv_b (f_2986 a_0) (f_2986 (q 4)) v_2826
                have fe_3020 : fld (f_2986 a_0) 7 = (v_2824 : Int32).toInt := by rw [hf_2987]; rfl
                rw [fe_3020] at sb_3019
                obtain ⟨v_3021, h_3022⟩ : ∃ v9 : Int32, (0 : Int32) + (sv (f_2986 a_0) (f_2986 (q 4)) v_2826) = v9 := ⟨_, rfl⟩
                refine v_iadd hC dX12_advance_184 h_3022 ?_
                have h_3023 := add_v h_3022 (by first | omega | (simp only [Int32.lt_iff_toInt_lt, Int32.le_iff_toInt_le, Int32.reduceToInt, ← Int32.toInt_inj, true_and, and_true, or_true, true_or, false_or, or_false, false_and, and_false, not_true_eq_false, not_false_eq_true] <;> omega)) (by first | omega | (simp only [Int32.lt_iff_toInt_lt, Int32.le_iff_toInt_le, Int32.reduceToInt, ← Int32.toInt_inj, true_and, and_true, or_true, true_or, false_or, or_false, false_and, and_false, not_true_eq_false, not_false_eq_true] <;> omega))
                try simp only [Int32.reduceToInt] at h_3023
                refine v_bipush hC dX12_advance_185 (v := 48) (by decide) ?_
                obtain ⟨v_3024, h_3025⟩ : ∃ v9 : Int32, v_3021 - 48 = v9 := ⟨_, rfl⟩
                refine v_isub hC dX12_advance_187 h_3025 ?_
                have h_3026 := sub_v h_3025 (by first | omega | (simp only [Int32.lt_iff_toInt_lt, Int32.le_iff_toInt_le, Int32.reduceToInt, ← Int32.toInt_inj, true_and, and_true, or_true, true_or, false_or, or_false, false_and, and_false, not_true_eq_false, not_false_eq_true] <;> omega)) (by first | omega | (simp only [Int32.lt_iff_toInt_lt, Int32.le_iff_toInt_le, Int32.reduceToInt, ← Int32.toInt_inj, true_and, and_true, or_true, true_or, false_or, or_false, false_and, and_false, not_true_eq_false, not_false_eq_true] <;> omega))
                try simp only [Int32.reduceToInt] at h_3026
                obtain ⟨v_3027, h_3028⟩ : ∃ v9 : Int32, (if v_3024 < (9999 : Int32) then v_3024 else (9999 : Int32)) = v9 := ⟨_, rfl⟩
                refine v_mmin hC mm_X12_134 mm_smin mm_i mm_cmin (by decide) (Nat.le_of_ble_eq_true rfl) (Nat.le_of_ble_eq_true rfl) (Nat.le_of_ble_eq_true rfl) h_3028 dX12_advance_188 ?_
                have b_3029 := min_v h_3028
                try simp only [Int32.reduceToInt] at b_3029
                refine v_put hC fl_X12_131 m_1 hf_2987 rfl rfl (Nat.le_of_ble_eq_true rfl) (fs' := [.int v_2821, .ref (q 1), .ref (q 2), .ref (q 3), .ref (q 4), .int v_2822, .ref (q 6), .int v_2824, .int v_2826, .int v_2826, .int v_2830, .int v_3027, .int v_2833, .int v_2834, .ref (q 14), .ref (q 15), .ref (q 16), .int v_2835, .ref (q 18), .ref (q 19), .int v_2837, .ref (q 21), .ref (q 22), .ref (q 23), .ref (q 24), .ref (q 25), .ref (q 26), .ref (q 27), .ref (q 28)]) rfl dX12_advance_191 (fun f_3030 hf_3031 hk_3032 => ?_)
                have hW_3033 := hW_2989.up hf_3031 hk_3032 t_2 ⟨v_2821, v_2822, v_2824, v_2826, v_2826, v_2830, v_3027, v_2833, v_2834, v_2835, v_2837, rfl, (by first | omega | (simp only [Int32.lt_iff_toInt_lt, Int32.le_iff_toInt_le, Int32.reduceToInt, ← Int32.toInt_inj, true_and, and_true, or_true, true_or, false_or, or_false, false_and, and_false, not_true_eq_false, not_false_eq_true] <;> omega)), (by first | omega | (simp only [Int32.lt_iff_toInt_lt, Int32.le_iff_toInt_le, Int32.reduceToInt, ← Int32.toInt_inj, true_and, and_true, or_true, true_or, false_or, or_false, false_and, and_false, not_true_eq_false, not_false_eq_true] <;> omega)), (by first | omega | (simp only [Int32.lt_iff_toInt_lt, Int32.le_iff_toInt_le, Int32.reduceToInt, ← Int32.toInt_inj, true_and, and_true, or_true, true_or, false_or, or_false, false_and, and_false, not_true_eq_false, not_false_eq_true] <;> omega)), (by first | omega | (simp only [Int32.lt_iff_toInt_lt, Int32.le_iff_toInt_le, Int32.reduceToInt, ← Int32.toInt_inj, true_and, and_true, or_true, true_or, false_or, or_false, false_and, and_false, not_true_eq_false, not_false_eq_true] <;> omega)), (by first | omega | (simp only [Int32.lt_iff_toInt_lt, Int32.le_iff_toInt_le, Int32.reduceToInt, ← Int32.toInt_inj, true_and, and_true, or_true, true_or, false_or, or_false, false_and, and_false, not_true_eq_false, not_false_eq_true] <;> omega)), (by first | omega | (simp only [Int32.lt_iff_toInt_lt, Int32.le_iff_toInt_le, Int32.reduceToInt, ← Int32.toInt_inj, true_and, and_true, or_true, true_or, false_or, or_false, false_and, and_false, not_true_eq_false, not_false_eq_true] <;> omega)), (by first | omega | (simp only [Int32.lt_iff_toInt_lt, Int32.le_iff_toInt_le, Int32.reduceToInt, ← Int32.toInt_inj, true_and, and_true, or_true, true_or, false_or, or_false, false_and, and_false, not_true_eq_false, not_false_eq_true] <;> omega))⟩
                have hf_3034 := (hk_3032 (q 4) (ne_kd hf_2990 hf_2987 rfl)).trans hf_2990
                have fr_3035 := FR.w hk_3032 hf_2987 (k := 12) rfl
                refine v_aload_n hC dX12_advance_194 rfl ?_
                refine v_dup hC dX12_advance_195 rfl ?_
                refine v_get hC fl_X12_108 m_1 hf_3031 rfl dX12_advance_196 ?_
                refine v_iconst hC dX12_advance_199 (v := 1) (by decide) ?_
                obtain ⟨v_3036, h_3037⟩ : ∃ v9 : Int32, v_2826 + 1 = v9 := ⟨_, rfl⟩
                refine v_iadd hC dX12_advance_200 h_3037 ?_
                have h_3038 := add_v h_3037 (by first | omega | (simp only [Int32.lt_iff_toInt_lt, Int32.le_iff_toInt_le, Int32.reduceToInt, ← Int32.toInt_inj, true_and, and_true, or_true, true_or, false_or, or_false, false_and, and_false, not_true_eq_false, not_false_eq_true] <;> omega)) (by first | omega | (simp only [Int32.lt_iff_toInt_lt, Int32.le_iff_toInt_le, Int32.reduceToInt, ← Int32.toInt_inj, true_and, and_true, or_true, true_or, false_or, or_false, false_and, and_false, not_true_eq_false, not_false_eq_true] <;> omega))
                try simp only [Int32.reduceToInt] at h_3038
                refine v_put hC fl_X12_108 m_1 hf_3031 rfl rfl (Nat.le_of_ble_eq_true rfl) (fs' := [.int v_2821, .ref (q 1), .ref (q 2), .ref (q 3), .ref (q 4), .int v_2822, .ref (q 6), .int v_2824, .int v_3036, .int v_2826, .int v_2830, .int v_3027, .int v_2833, .int v_2834, .ref (q 14), .ref (q 15), .ref (q 16), .int v_2835, .ref (q 18), .ref (q 19), .int v_2837, .ref (q 21), .ref (q 22), .ref (q 23), .ref (q 24), .ref (q 25), .ref (q 26), .ref (q 27), .ref (q 28)]) rfl dX12_advance_201 (fun f_3039 hf_3040 hk_3041 => ?_)
                have hW_3042 := hW_3033.up hf_3040 hk_3041 t_2 ⟨v_2821, v_2822, v_2824, v_3036, v_2826, v_2830, v_3027, v_2833, v_2834, v_2835, v_2837, rfl, (by first | omega | (simp only [Int32.lt_iff_toInt_lt, Int32.le_iff_toInt_le, Int32.reduceToInt, ← Int32.toInt_inj, true_and, and_true, or_true, true_or, false_or, or_false, false_and, and_false, not_true_eq_false, not_false_eq_true] <;> omega)), (by first | omega | (simp only [Int32.lt_iff_toInt_lt, Int32.le_iff_toInt_le, Int32.reduceToInt, ← Int32.toInt_inj, true_and, and_true, or_true, true_or, false_or, or_false, false_and, and_false, not_true_eq_false, not_false_eq_true] <;> omega)), (by first | omega | (simp only [Int32.lt_iff_toInt_lt, Int32.le_iff_toInt_le, Int32.reduceToInt, ← Int32.toInt_inj, true_and, and_true, or_true, true_or, false_or, or_false, false_and, and_false, not_true_eq_false, not_false_eq_true] <;> omega)), (by first | omega | (simp only [Int32.lt_iff_toInt_lt, Int32.le_iff_toInt_le, Int32.reduceToInt, ← Int32.toInt_inj, true_and, and_true, or_true, true_or, false_or, or_false, false_and, and_false, not_true_eq_false, not_false_eq_true] <;> omega)), (by first | omega | (simp only [Int32.lt_iff_toInt_lt, Int32.le_iff_toInt_le, Int32.reduceToInt, ← Int32.toInt_inj, true_and, and_true, or_true, true_or, false_or, or_false, false_and, and_false, not_true_eq_false, not_false_eq_true] <;> omega)), (by first | omega | (simp only [Int32.lt_iff_toInt_lt, Int32.le_iff_toInt_le, Int32.reduceToInt, ← Int32.toInt_inj, true_and, and_true, or_true, true_or, false_or, or_false, false_and, and_false, not_true_eq_false, not_false_eq_true] <;> omega)), (by first | omega | (simp only [Int32.lt_iff_toInt_lt, Int32.le_iff_toInt_le, Int32.reduceToInt, ← Int32.toInt_inj, true_and, and_true, or_true, true_or, false_or, or_false, false_and, and_false, not_true_eq_false, not_false_eq_true] <;> omega))⟩
                have hf_3043 := (hk_3041 (q 4) (ne_kd hf_3034 hf_3031 rfl)).trans hf_3034
                have fr_3044 := FR.w hk_3041 hf_3031 (k := 12) rfl
                refine v_goto hC dX12_advance_204 (tgt := 144) (by decide) ?_
                have lp_3320 : ∀ (n_3321 : Nat) (f_3312 : Nat → va_E) (hW_3313 : WT T L f_3312) (hF_3314 : FR [12] f_3039 f_3312)  (nv_3316 : v_28.toInt ≤ fld (f_3312 a_0) 9) (nv_3317 : fld (f_3312 a_0) 9 < fld (f_3312 a_0) 8) (nv_3318 : fld (f_3312 a_0) 12 = v_35.toInt) (nv_3319 : fld (f_3312 a_0) 20 = v_39.toInt) (hm_3323 : 600 - fld (f_3312 a_0) 8 < (n_3321 : Int)), V z E 2 0 0 L f_3312 144 [(0, .ref a_0)] [] := by
                  intro n_3321
                  induction n_3321 with
                  | zero =>
                    intro f_3312 hW_3313 hF_3314 nv_3316 nv_3317 nv_3318 nv_3319 hm_3323
                    have hf_3315 := hF_3314.at hf_3043 rfl
                    obtain ⟨v_3325, v_3326, v_3328, v_3330, v_3332, v_3334, v_3336, v_3337, v_3338, v_3339, v_3341, e_3324, b_3327, b_3329, b_3331, b_3333, b_3335, b_3340, b_3342⟩ := hW_3313.at m_1 t_2
                    have fe_3343 : fld (f_3312 a_0) 9 = (v_3332 : Int32).toInt := by rw [e_3324]; rfl
                    rw [fe_3343] at nv_3316
                    have fe_3344 : fld (f_3312 a_0) 8 = (v_3330 : Int32).toInt := by rw [e_3324]; rfl
                    have fe_3345 : fld (f_3312 a_0) 9 = (v_3332 : Int32).toInt := by rw [e_3324]; rfl
                    rw [fe_3344, fe_3345] at nv_3317
                    have fe_3346 : fld (f_3312 a_0) 12 = (v_3337 : Int32).toInt := by rw [e_3324]; rfl
                    rw [fe_3346] at nv_3318
                    have fe_3347 : fld (f_3312 a_0) 20 = (v_3341 : Int32).toInt := by rw [e_3324]; rfl
                    rw [fe_3347] at nv_3319
                    have h_3348 : fld (f_3312 a_0) 8 = (v_3330 : Int32).toInt := by rw [e_3324]; rfl
                    rw [h_3348] at hm_3323
                    exfalso; omega
                  | succ n_3321 ih_3322 =>
                    intro f_3312 hW_3313 hF_3314 nv_3316 nv_3317 nv_3318 nv_3319 hm_3323
                    have hf_3315 := hF_3314.at hf_3043 rfl
                    obtain ⟨v_3325, v_3326, v_3328, v_3330, v_3332, v_3334, v_3336, v_3337, v_3338, v_3339, v_3341, e_3324, b_3327, b_3329, b_3331, b_3333, b_3335, b_3340, b_3342⟩ := hW_3313.at m_1 t_2
                    have fe_3343 : fld (f_3312 a_0) 9 = (v_3332 : Int32).toInt := by rw [e_3324]; rfl
                    rw [fe_3343] at nv_3316
                    have fe_3344 : fld (f_3312 a_0) 8 = (v_3330 : Int32).toInt := by rw [e_3324]; rfl
                    have fe_3345 : fld (f_3312 a_0) 9 = (v_3332 : Int32).toInt := by rw [e_3324]; rfl
                    rw [fe_3344, fe_3345] at nv_3317
                    have fe_3346 : fld (f_3312 a_0) 12 = (v_3337 : Int32).toInt := by rw [e_3324]; rfl
                    rw [fe_3346] at nv_3318
                    have fe_3347 : fld (f_3312 a_0) 20 = (v_3341 : Int32).toInt := by rw [e_3324]; rfl
                    rw [fe_3347] at nv_3319
                    have h_3348 : fld (f_3312 a_0) 8 = (v_3330 : Int32).toInt := by rw [e_3324]; rfl
                    rw [h_3348] at hm_3323
                    refine v_aload_n hC dX12_advance_144 rfl ?_
                    refine v_aload_n hC dX12_advance_145 rfl ?_
                    refine v_get hC fl_X12_108 m_1 e_3324 rfl dX12_advance_146 ?_
                    refine v_vi hC (rest := []) m_1 e_3324 rfl mi_X12_see ms_X12_see (p_X12_see hW_3313 k_0 (by first | omega | (simp only [Int32.lt_iff_toInt_lt, Int32.le_iff_toInt_le, Int32.reduceToInt, ← Int32.toInt_inj, true_and, and_true, or_true, true_or, false_or, or_false, false_and, and_false, not_true_eq_false, not_false_eq_true] <;> omega))) mx_X12_see ml_X12_114 (by decide) rfl (cells1 := 0) (slots1 := 0) (by decide) (by decide) (Nat.le_of_ble_eq_true rfl) (Nat.le_of_ble_eq_true rfl) rfl (Nat.le_of_ble_eq_true rfl) dX12_advance_149 (fun r_3349 L_3350 f_3351 h_3352 => ?_)
                    obtain ⟨rfl, rfl, rfl⟩ := h_3352
                    have sb_3355 := sv_b (f_3312 a_0) (f_3312 (q 4)) v_3330
                    have fe_3356 : fld (f_3312 a_0) 7 = (v_3328 : Int32).toInt := by rw [e_3324]; rfl
                    rw [fe_3356] at sb_3355
                    obtain ⟨v_3357, h_3358⟩ : ∃ v9 : Int64, (sv (f_3312 a_0) (f_3312 (q 4)) v_3330).toInt64 = v9 := ⟨_, rfl⟩
                    refine v_i2l hC dX12_advance_152 h_3358 ?_
                    have h_3359 : v_3357.toInt = (sv (f_3312 a_0) (f_3312 (q 4)) v_3330).toInt := by rw [← h_3358]; exact Int32.toInt_toInt64 _
                    refine v_ldc2 hC kl_X12_127 dX12_advance_153 ?_
                    refine v_ldc2 hC kl_X12_129 dX12_advance_156 ?_
                    refine v_si hC (rest := []) mt_X12_in (p_X12_in hW_3313) mx_X12_in ml_X12_79 (by decide) rfl (cells1 := 0) (slots1 := 0) (by decide) (by decide) (Nat.le_of_ble_eq_true rfl) (Nat.le_of_ble_eq_true rfl) rfl (Nat.le_of_ble_eq_true rfl) dX12_advance_159 (fun r_3360 L_3361 f_3362 h_3363 => ?_)
                    obtain ⟨rfl, rfl, b_3364, x_3365⟩ := h_3363
                    try simp only [Int32.reduceToInt, Int64.reduceToInt] at x_3365
                    refine v_if_eq hC dX12_advance_162 (tgt := 207) (by decide) (fun h_3368 => ?_) (fun h_3368 => ?_)
                    · simp only [Int32.lt_iff_toInt_lt, Int32.le_iff_toInt_le, Int32.reduceToInt, ← Int32.toInt_inj] at h_3368
                      refine v_aload_n hC dX12_advance_207 rfl ?_
                      refine v_iconst hC dX12_advance_208 (v := 2) (by decide) ?_
                      refine v_put hC fl_X12_120 m_1 e_3324 rfl rfl (Nat.le_of_ble_eq_true rfl) (fs' := [.int v_3325, .ref (q 1), .ref (q 2), .ref (q 3), .ref (q 4), .int v_3326, .ref (q 6), .int v_3328, .int v_3330, .int v_3332, .int 2, .int v_3336, .int v_3337, .int v_3338, .ref (q 14), .ref (q 15), .ref (q 16), .int v_3339, .ref (q 18), .ref (q 19), .int v_3341, .ref (q 21), .ref (q 22), .ref (q 23), .ref (q 24), .ref (q 25), .ref (q 26), .ref (q 27), .ref (q 28)]) rfl dX12_advance_209 (fun f_3369 hf_3370 hk_3371 => ?_)
                      have hW_3372 := hW_3313.up hf_3370 hk_3371 t_2 ⟨v_3325, v_3326, v_3328, v_3330, v_3332, 2, v_3336, v_3337, v_3338, v_3339, v_3341, rfl, (by first | omega | (simp only [Int32.lt_iff_toInt_lt, Int32.le_iff_toInt_le, Int32.reduceToInt, ← Int32.toInt_inj, true_and, and_true, or_true, true_or, false_or, or_false, false_and, and_false, not_true_eq_false, not_false_eq_true] <;> omega)), (by first | omega | (simp only [Int32.lt_iff_toInt_lt, Int32.le_iff_toInt_le, Int32.reduceToInt, ← Int32.toInt_inj, true_and, and_true, or_true, true_or, false_or, or_false, false_and, and_false, not_true_eq_false, not_false_eq_true] <;> omega)), (by first | omega | (simp only [Int32.lt_iff_toInt_lt, Int32.le_iff_toInt_le, Int32.reduceToInt, ← Int32.toInt_inj, true_and, and_true, or_true, true_or, false_or, or_false, false_and, and_false, not_true_eq_false, not_false_eq_true] <;> omega)), (by first | omega | (simp only [Int32.lt_iff_toInt_lt, Int32.le_iff_toInt_le, Int32.reduceToInt, ← Int32.toInt_inj, true_and, and_true, or_true, true_or, false_or, or_false, false_and, and_false, not_true_eq_false, not_false_eq_true] <;> omega)), (by decide), (by first | omega | (simp only [Int32.lt_iff_toInt_lt, Int32.le_iff_toInt_le, Int32.reduceToInt, ← Int32.toInt_inj, true_and, and_true, or_true, true_or, false_or, or_false, false_and, and_false, not_true_eq_false, not_false_eq_true] <;> omega)), (by first | omega | (simp only [Int32.lt_iff_toInt_lt, Int32.le_iff_toInt_le, Int32.reduceToInt, ← Int32.toInt_inj, true_and, and_true, or_true, true_or, false_or, or_false, false_and, and_false, not_true_eq_false, not_false_eq_true] <;> omega))⟩
                      have hf_3373 := (hk_3371 (q 4) (ne_kd hf_3315 e_3324 rfl)).trans hf_3315
                      have fr_3374 := FR.w hk_3371 e_3324 (k := 12) rfl
                      refine v_goto hC dX12_advance_212 (tgt := 240) (by decide) ?_
                      have fe_3375 : fld (f_3369 a_0) 8 = (v_3330 : Int32).toInt := by rw [hf_3370]; rfl
                      have fe_3376 : fld (f_3369 a_0) 9 = (v_3332 : Int32).toInt := by rw [hf_3370]; rfl
                      have fe_3377 : fld (f_3369 a_0) 8 = (v_3330 : Int32).toInt := by rw [hf_3370]; rfl
                      have fe_3378 : fld (f_3369 a_0) 9 = (v_3332 : Int32).toInt := by rw [hf_3370]; rfl
                      have fe_3379 : fld (f_3369 a_0) 10 = (2 : Int32).toInt := by rw [hf_3370]; rfl
                      simp only [Int32.reduceToInt] at fe_3379
                      have fe_3380 : fld (f_3369 a_0) 12 = (v_3337 : Int32).toInt := by rw [hf_3370]; rfl
                      have fe_3381 : fld (f_3369 a_0) 20 = (v_3341 : Int32).toInt := by rw [hf_3370]; rfl
                      exact hR _ _ _ _ _ _ dX12_advance_240 (Nat.le_of_ble_eq_true rfl) (Nat.le_of_ble_eq_true rfl) ⟨rfl, hW_3372, (((((((hF_2812.tr fr_2901).tr fr_2991).tr fr_3035).tr fr_3044).tr hF_3314).tr fr_3374).mono rfl), (by simp only [fe_3375, fe_3376, mz_41, true_and, and_true, or_true, true_or, false_or, or_false, false_and, and_false, not_true_eq_false, not_false_eq_true] <;> first | omega | (simp only [Int32.lt_iff_toInt_lt, Int32.le_iff_toInt_le, Int32.reduceToInt, ← Int32.toInt_inj, true_and, and_true, or_true, true_or, false_or, or_false, false_and, and_false, not_true_eq_false, not_false_eq_true] <;> omega)), (by simp only [fe_3377, fe_3378, fe_3379, true_and, and_true, or_true, true_or, false_or, or_false, false_and, and_false, not_true_eq_false, not_false_eq_true] <;> first | omega | (simp only [Int32.lt_iff_toInt_lt, Int32.le_iff_toInt_le, Int32.reduceToInt, ← Int32.toInt_inj, true_and, and_true, or_true, true_or, false_or, or_false, false_and, and_false, not_true_eq_false, not_false_eq_true] <;> omega)), (by simp only [fe_3380, mz_42, true_and, and_true, or_true, true_or, false_or, or_false, false_and, and_false, not_true_eq_false, not_false_eq_true] <;> first | omega | (simp only [Int32.lt_iff_toInt_lt, Int32.le_iff_toInt_le, Int32.reduceToInt, ← Int32.toInt_inj, true_and, and_true, or_true, true_or, false_or, or_false, false_and, and_false, not_true_eq_false, not_false_eq_true] <;> omega)), (by simp only [fe_3381, mz_43, true_and, and_true, or_true, true_or, false_or, or_false, false_and, and_false, not_true_eq_false, not_false_eq_true] <;> first | omega | (simp only [Int32.lt_iff_toInt_lt, Int32.le_iff_toInt_le, Int32.reduceToInt, ← Int32.toInt_inj, true_and, and_true, or_true, true_or, false_or, or_false, false_and, and_false, not_true_eq_false, not_false_eq_true] <;> omega))⟩
                    · simp only [Int32.lt_iff_toInt_lt, Int32.le_iff_toInt_le, Int32.reduceToInt, ← Int32.toInt_inj] at h_3368
                      refine v_aload_n hC dX12_advance_165 rfl ?_
                      refine v_sipush hC dX12_advance_166 (v := 9999) (by decide) ?_
                      refine v_bipush hC dX12_advance_169 (v := 10) (by decide) ?_
                      refine v_aload_n hC dX12_advance_171 rfl ?_
                      refine v_get hC fl_X12_131 m_1 e_3324 rfl dX12_advance_172 ?_
                      obtain ⟨v_3382, h_3383⟩ : ∃ v9 : Int32, (10 : Int32) * v_3336 = v9 := ⟨_, rfl⟩
                      refine v_imul hC dX12_advance_175 h_3383 ?_
                      refine v_aload_n hC dX12_advance_176 rfl ?_
                      refine v_aload_n hC dX12_advance_177 rfl ?_
                      refine v_get hC fl_X12_108 m_1 e_3324 rfl dX12_advance_178 ?_
                      refine v_vi hC (rest := [.int v_3382, .int 9999, .ref a_0]) m_1 e_3324 rfl mi_X12_see ms_X12_see (p_X12_see hW_3313 k_0 (by first | omega | (simp only [Int32.lt_iff_toInt_lt, Int32.le_iff_toInt_le, Int32.reduceToInt, ← Int32.toInt_inj, true_and, and_true, or_true, true_or, false_or, or_false, false_and, and_false, not_true_eq_false, not_false_eq_true] <;> omega))) mx_X12_see ml_X12_114 (by decide) rfl (cells1 := 0) (slots1 := 0) (by decide) (by decide) (Nat.le_of_ble_eq_true rfl) (Nat.le_of_ble_eq_true rfl) rfl (Nat.le_of_ble_eq_true rfl) dX12_advance_181 (fun r_3385 L_3386 f_3387 h_3388 => ?_)
                      obtain ⟨rfl, rfl, rfl⟩ := h_3388
                      have sb_3391 := sv_b (f_3312 a_0) (f_3312 (q 4)) v_3330
                      have fe_3392 : fld (f_3312 a_0) 7 = (v_3328 : Int32).toInt := by rw [e_3324]; rfl
                      rw [fe_3392] at sb_3391
                      obtain ⟨v_3393, h_3394⟩ : ∃ v9 : Int32, v_3382 + (sv (f_3312 a_0) (f_3312 (q 4)) v_3330) = v9 := ⟨_, rfl⟩
                      refine v_iadd hC dX12_advance_184 h_3394 ?_
                      refine v_bipush hC dX12_advance_185 (v := 48) (by decide) ?_
                      obtain ⟨v_3396, h_3397⟩ : ∃ v9 : Int32, v_3393 - 48 = v9 := ⟨_, rfl⟩
                      refine v_isub hC dX12_advance_187 h_3397 ?_
                      obtain ⟨v_3399, h_3400⟩ : ∃ v9 : Int32, (if v_3396 < (9999 : Int32) then v_3396 else (9999 : Int32)) = v9 := ⟨_, rfl⟩
                      refine v_mmin hC mm_X12_134 mm_smin mm_i mm_cmin (by decide) (Nat.le_of_ble_eq_true rfl) (Nat.le_of_ble_eq_true rfl) (Nat.le_of_ble_eq_true rfl) h_3400 dX12_advance_188 ?_
                      have b_3401 := min_v h_3400
                      try simp only [Int32.reduceToInt] at b_3401
                      refine v_put hC fl_X12_131 m_1 e_3324 rfl rfl (Nat.le_of_ble_eq_true rfl) (fs' := [.int v_3325, .ref (q 1), .ref (q 2), .ref (q 3), .ref (q 4), .int v_3326, .ref (q 6), .int v_3328, .int v_3330, .int v_3332, .int v_3334, .int v_3399, .int v_3337, .int v_3338, .ref (q 14), .ref (q 15), .ref (q 16), .int v_3339, .ref (q 18), .ref (q 19), .int v_3341, .ref (q 21), .ref (q 22), .ref (q 23), .ref (q 24), .ref (q 25), .ref (q 26), .ref (q 27), .ref (q 28)]) rfl dX12_advance_191 (fun f_3402 hf_3403 hk_3404 => ?_)
                      have hW_3405 := hW_3313.up hf_3403 hk_3404 t_2 ⟨v_3325, v_3326, v_3328, v_3330, v_3332, v_3334, v_3399, v_3337, v_3338, v_3339, v_3341, rfl, (by first | omega | (simp only [Int32.lt_iff_toInt_lt, Int32.le_iff_toInt_le, Int32.reduceToInt, ← Int32.toInt_inj, true_and, and_true, or_true, true_or, false_or, or_false, false_and, and_false, not_true_eq_false, not_false_eq_true] <;> omega)), (by first | omega | (simp only [Int32.lt_iff_toInt_lt, Int32.le_iff_toInt_le, Int32.reduceToInt, ← Int32.toInt_inj, true_and, and_true, or_true, true_or, false_or, or_false, false_and, and_false, not_true_eq_false, not_false_eq_true] <;> omega)), (by first | omega | (simp only [Int32.lt_iff_toInt_lt, Int32.le_iff_toInt_le, Int32.reduceToInt, ← Int32.toInt_inj, true_and, and_true, or_true, true_or, false_or, or_false, false_and, and_false, not_true_eq_false, not_false_eq_true] <;> omega)), (by first | omega | (simp only [Int32.lt_iff_toInt_lt, Int32.le_iff_toInt_le, Int32.reduceToInt, ← Int32.toInt_inj, true_and, and_true, or_true, true_or, false_or, or_false, false_and, and_false, not_true_eq_false, not_false_eq_true] <;> omega)), (by first | omega | (simp only [Int32.lt_iff_toInt_lt, Int32.le_iff_toInt_le, Int32.reduceToInt, ← Int32.toInt_inj, true_and, and_true, or_true, true_or, false_or, or_false, false_and, and_false, not_true_eq_false, not_false_eq_true] <;> omega)), (by first | omega | (simp only [Int32.lt_iff_toInt_lt, Int32.le_iff_toInt_le, Int32.reduceToInt, ← Int32.toInt_inj, true_and, and_true, or_true, true_or, false_or, or_false, false_and, and_false, not_true_eq_false, not_false_eq_true] <;> omega)), (by first | omega | (simp only [Int32.lt_iff_toInt_lt, Int32.le_iff_toInt_le, Int32.reduceToInt, ← Int32.toInt_inj, true_and, and_true, or_true, true_or, false_or, or_false, false_and, and_false, not_true_eq_false, not_false_eq_true] <;> omega))⟩
                      have hf_3406 := (hk_3404 (q 4) (ne_kd hf_3315 e_3324 rfl)).trans hf_3315
                      have fr_3407 := FR.w hk_3404 e_3324 (k := 12) rfl
                      refine v_aload_n hC dX12_advance_194 rfl ?_
                      refine v_dup hC dX12_advance_195 rfl ?_
                      refine v_get hC fl_X12_108 m_1 hf_3403 rfl dX12_advance_196 ?_
                      refine v_iconst hC dX12_advance_199 (v := 1) (by decide) ?_
                      obtain ⟨v_3408, h_3409⟩ : ∃ v9 : Int32, v_3330 + 1 = v9 := ⟨_, rfl⟩
                      refine v_iadd hC dX12_advance_200 h_3409 ?_
                      have h_3410 := add_v h_3409 (by first | omega | (simp only [Int32.lt_iff_toInt_lt, Int32.le_iff_toInt_le, Int32.reduceToInt, ← Int32.toInt_inj, true_and, and_true, or_true, true_or, false_or, or_false, false_and, and_false, not_true_eq_false, not_false_eq_true] <;> omega)) (by first | omega | (simp only [Int32.lt_iff_toInt_lt, Int32.le_iff_toInt_le, Int32.reduceToInt, ← Int32.toInt_inj, true_and, and_true, or_true, true_or, false_or, or_false, false_and, and_false, not_true_eq_false, not_false_eq_true] <;> omega))
                      try simp only [Int32.reduceToInt] at h_3410
                      refine v_put hC fl_X12_108 m_1 hf_3403 rfl rfl (Nat.le_of_ble_eq_true rfl) (fs' := [.int v_3325, .ref (q 1), .ref (q 2), .ref (q 3), .ref (q 4), .int v_3326, .ref (q 6), .int v_3328, .int v_3408, .int v_3332, .int v_3334, .int v_3399, .int v_3337, .int v_3338, .ref (q 14), .ref (q 15), .ref (q 16), .int v_3339, .ref (q 18), .ref (q 19), .int v_3341, .ref (q 21), .ref (q 22), .ref (q 23), .ref (q 24), .ref (q 25), .ref (q 26), .ref (q 27), .ref (q 28)]) rfl dX12_advance_201 (fun f_3411 hf_3412 hk_3413 => ?_)
                      have hW_3414 := hW_3405.up hf_3412 hk_3413 t_2 ⟨v_3325, v_3326, v_3328, v_3408, v_3332, v_3334, v_3399, v_3337, v_3338, v_3339, v_3341, rfl, (by first | omega | (simp only [Int32.lt_iff_toInt_lt, Int32.le_iff_toInt_le, Int32.reduceToInt, ← Int32.toInt_inj, true_and, and_true, or_true, true_or, false_or, or_false, false_and, and_false, not_true_eq_false, not_false_eq_true] <;> omega)), (by first | omega | (simp only [Int32.lt_iff_toInt_lt, Int32.le_iff_toInt_le, Int32.reduceToInt, ← Int32.toInt_inj, true_and, and_true, or_true, true_or, false_or, or_false, false_and, and_false, not_true_eq_false, not_false_eq_true] <;> omega)), (by first | omega | (simp only [Int32.lt_iff_toInt_lt, Int32.le_iff_toInt_le, Int32.reduceToInt, ← Int32.toInt_inj, true_and, and_true, or_true, true_or, false_or, or_false, false_and, and_false, not_true_eq_false, not_false_eq_true] <;> omega)), (by first | omega | (simp only [Int32.lt_iff_toInt_lt, Int32.le_iff_toInt_le, Int32.reduceToInt, ← Int32.toInt_inj, true_and, and_true, or_true, true_or, false_or, or_false, false_and, and_false, not_true_eq_false, not_false_eq_true] <;> omega)), (by first | omega | (simp only [Int32.lt_iff_toInt_lt, Int32.le_iff_toInt_le, Int32.reduceToInt, ← Int32.toInt_inj, true_and, and_true, or_true, true_or, false_or, or_false, false_and, and_false, not_true_eq_false, not_false_eq_true] <;> omega)), (by first | omega | (simp only [Int32.lt_iff_toInt_lt, Int32.le_iff_toInt_le, Int32.reduceToInt, ← Int32.toInt_inj, true_and, and_true, or_true, true_or, false_or, or_false, false_and, and_false, not_true_eq_false, not_false_eq_true] <;> omega)), (by first | omega | (simp only [Int32.lt_iff_toInt_lt, Int32.le_iff_toInt_le, Int32.reduceToInt, ← Int32.toInt_inj, true_and, and_true, or_true, true_or, false_or, or_false, false_and, and_false, not_true_eq_false, not_false_eq_true] <;> omega))⟩
                      have hf_3415 := (hk_3413 (q 4) (ne_kd hf_3406 hf_3403 rfl)).trans hf_3406
                      have fr_3416 := FR.w hk_3413 hf_3403 (k := 12) rfl
                      refine v_goto hC dX12_advance_204 (tgt := 144) (by decide) ?_
                      refine v_pick [0] rfl ?_
                      have fe_3417 : fld (f_3411 a_0) 9 = (v_3332 : Int32).toInt := by rw [hf_3412]; rfl
                      have fe_3418 : fld (f_3411 a_0) 8 = (v_3408 : Int32).toInt := by rw [hf_3412]; rfl
                      have fe_3419 : fld (f_3411 a_0) 9 = (v_3332 : Int32).toInt := by rw [hf_3412]; rfl
                      have fe_3420 : fld (f_3411 a_0) 12 = (v_3337 : Int32).toInt := by rw [hf_3412]; rfl
                      have fe_3421 : fld (f_3411 a_0) 20 = (v_3341 : Int32).toInt := by rw [hf_3412]; rfl
                      have h_3422 : fld (f_3411 a_0) 8 = (v_3408 : Int32).toInt := by rw [hf_3412]; rfl
                      exact ih_3322 f_3411 hW_3414 (((hF_3314.tr fr_3407).tr fr_3416).mono rfl) (by rw [fe_3417] <;> first | omega | (simp only [Int32.lt_iff_toInt_lt, Int32.le_iff_toInt_le, Int32.reduceToInt, ← Int32.toInt_inj, true_and, and_true, or_true, true_or, false_or, or_false, false_and, and_false, not_true_eq_false, not_false_eq_true] <;> omega)) (by rw [fe_3418, fe_3419] <;> first | omega | (simp only [Int32.lt_iff_toInt_lt, Int32.le_iff_toInt_le, Int32.reduceToInt, ← Int32.toInt_inj, true_and, and_true, or_true, true_or, false_or, or_false, false_and, and_false, not_true_eq_false, not_false_eq_true] <;> omega)) (by rw [fe_3420] <;> first | omega | (simp only [Int32.lt_iff_toInt_lt, Int32.le_iff_toInt_le, Int32.reduceToInt, ← Int32.toInt_inj, true_and, and_true, or_true, true_or, false_or, or_false, false_and, and_false, not_true_eq_false, not_false_eq_true] <;> omega)) (by rw [fe_3421] <;> first | omega | (simp only [Int32.lt_iff_toInt_lt, Int32.le_iff_toInt_le, Int32.reduceToInt, ← Int32.toInt_inj, true_and, and_true, or_true, true_or, false_or, or_false, false_and, and_false, not_true_eq_false, not_false_eq_true] <;> omega)) (by rw [h_3422]; omega)
                refine v_pick [1] rfl ?_
                have fe_3423 : fld (f_3039 a_0) 9 = (v_2826 : Int32).toInt := by rw [hf_3040]; rfl
                have fe_3424 : fld (f_3039 a_0) 8 = (v_3036 : Int32).toInt := by rw [hf_3040]; rfl
                have fe_3425 : fld (f_3039 a_0) 9 = (v_2826 : Int32).toInt := by rw [hf_3040]; rfl
                have fe_3426 : fld (f_3039 a_0) 12 = (v_2833 : Int32).toInt := by rw [hf_3040]; rfl
                have fe_3427 : fld (f_3039 a_0) 20 = (v_2837 : Int32).toInt := by rw [hf_3040]; rfl
                have h_3428 : fld (f_3039 a_0) 8 = (v_3036 : Int32).toInt := by rw [hf_3040]; rfl
                exact lp_3320 602 f_3039 hW_3042 FR.rf (by rw [fe_3423] <;> first | omega | (simp only [Int32.lt_iff_toInt_lt, Int32.le_iff_toInt_le, Int32.reduceToInt, ← Int32.toInt_inj, true_and, and_true, or_true, true_or, false_or, or_false, false_and, and_false, not_true_eq_false, not_false_eq_true] <;> omega)) (by rw [fe_3424, fe_3425] <;> first | omega | (simp only [Int32.lt_iff_toInt_lt, Int32.le_iff_toInt_le, Int32.reduceToInt, ← Int32.toInt_inj, true_and, and_true, or_true, true_or, false_or, or_false, false_and, and_false, not_true_eq_false, not_false_eq_true] <;> omega)) (by rw [fe_3426] <;> first | omega | (simp only [Int32.lt_iff_toInt_lt, Int32.le_iff_toInt_le, Int32.reduceToInt, ← Int32.toInt_inj, true_and, and_true, or_true, true_or, false_or, or_false, false_and, and_false, not_true_eq_false, not_false_eq_true] <;> omega)) (by rw [fe_3427] <;> first | omega | (simp only [Int32.lt_iff_toInt_lt, Int32.le_iff_toInt_le, Int32.reduceToInt, ← Int32.toInt_inj, true_and, and_true, or_true, true_or, false_or, or_false, false_and, and_false, not_true_eq_false, not_false_eq_true] <;> omega)) (by rw [h_3428]; omega)
            · simp only [Int32.lt_iff_toInt_lt, Int32.le_iff_toInt_le, Int32.reduceToInt, ← Int32.toInt_inj] at h_2928
              refine v_aload_n hC dX12_advance_83 rfl ?_
              refine v_aload_n hC dX12_advance_84 rfl ?_
              refine v_get hC fl_X12_108 m_1 hf_2898 rfl dX12_advance_85 ?_
              refine v_vi hC (rest := []) m_1 hf_2898 rfl mi_X12_see ms_X12_see (p_X12_see hW_2900 k_0 (by first | omega | (simp only [Int32.lt_iff_toInt_lt, Int32.le_iff_toInt_le, Int32.reduceToInt, ← Int32.toInt_inj, true_and, and_true, or_true, true_or, false_or, or_false, false_and, and_false, not_true_eq_false, not_false_eq_true] <;> omega))) mx_X12_see ml_X12_114 (by decide) rfl (cells1 := 0) (slots1 := 0) (by decide) (by decide) (Nat.le_of_ble_eq_true rfl) (Nat.le_of_ble_eq_true rfl) rfl (Nat.le_of_ble_eq_true rfl) dX12_advance_88 (fun r_3429 L_3430 f_3431 h_3432 => ?_)
              obtain ⟨rfl, rfl, rfl⟩ := h_3432
              have sb_3435 := sv_b (f_2897 a_0) (f_2897 (q 4)) v_2826
              have fe_3436 : fld (f_2897 a_0) 7 = (v_2824 : Int32).toInt := by rw [hf_2898]; rfl
              rw [fe_3436] at sb_3435
              obtain ⟨v_3437, h_3438⟩ : ∃ v9 : Int64, (sv (f_2897 a_0) (f_2897 (q 4)) v_2826).toInt64 = v9 := ⟨_, rfl⟩
              refine v_i2l hC dX12_advance_91 h_3438 ?_
              have h_3439 : v_3437.toInt = (sv (f_2897 a_0) (f_2897 (q 4)) v_2826).toInt := by rw [← h_3438]; exact Int32.toInt_toInt64 _
              refine v_ldc2 hC kl_X12_123 dX12_advance_92 ?_
              refine v_ldc2 hC kl_X12_125 dX12_advance_95 ?_
              refine v_si hC (rest := []) mt_X12_in (p_X12_in hW_2900) mx_X12_in ml_X12_79 (by decide) rfl (cells1 := 0) (slots1 := 0) (by decide) (by decide) (Nat.le_of_ble_eq_true rfl) (Nat.le_of_ble_eq_true rfl) rfl (Nat.le_of_ble_eq_true rfl) dX12_advance_98 (fun r_3440 L_3441 f_3442 h_3443 => ?_)
              obtain ⟨rfl, rfl, b_3444, x_3445⟩ := h_3443
              try simp only [Int32.reduceToInt, Int64.reduceToInt] at x_3445
              refine v_if_eq_f hC dX12_advance_101 (tgt := 117) (by decide) (by first | omega | (simp only [Int32.lt_iff_toInt_lt, Int32.le_iff_toInt_le, Int32.reduceToInt, ← Int32.toInt_inj, true_and, and_true, or_true, true_or, false_or, or_false, false_and, and_false, not_true_eq_false, not_false_eq_true] <;> omega)) ?_
              refine v_aload_n hC dX12_advance_104 rfl ?_
              refine v_dup hC dX12_advance_105 rfl ?_
              refine v_get hC fl_X12_108 m_1 hf_2898 rfl dX12_advance_106 ?_
              refine v_iconst hC dX12_advance_109 (v := 1) (by decide) ?_
              obtain ⟨v_3448, h_3449⟩ : ∃ v9 : Int32, v_2826 + 1 = v9 := ⟨_, rfl⟩
              refine v_iadd hC dX12_advance_110 h_3449 ?_
              have h_3450 := add_v h_3449 (by first | omega | (simp only [Int32.lt_iff_toInt_lt, Int32.le_iff_toInt_le, Int32.reduceToInt, ← Int32.toInt_inj, true_and, and_true, or_true, true_or, false_or, or_false, false_and, and_false, not_true_eq_false, not_false_eq_true] <;> omega)) (by first | omega | (simp only [Int32.lt_iff_toInt_lt, Int32.le_iff_toInt_le, Int32.reduceToInt, ← Int32.toInt_inj, true_and, and_true, or_true, true_or, false_or, or_false, false_and, and_false, not_true_eq_false, not_false_eq_true] <;> omega))
              try simp only [Int32.reduceToInt] at h_3450
              refine v_put hC fl_X12_108 m_1 hf_2898 rfl rfl (Nat.le_of_ble_eq_true rfl) (fs' := [.int v_2821, .ref (q 1), .ref (q 2), .ref (q 3), .ref (q 4), .int v_2822, .ref (q 6), .int v_2824, .int v_3448, .int v_2826, .int v_2830, .int v_2832, .int v_2833, .int v_2834, .ref (q 14), .ref (q 15), .ref (q 16), .int v_2835, .ref (q 18), .ref (q 19), .int v_2837, .ref (q 21), .ref (q 22), .ref (q 23), .ref (q 24), .ref (q 25), .ref (q 26), .ref (q 27), .ref (q 28)]) rfl dX12_advance_111 (fun f_3451 hf_3452 hk_3453 => ?_)
              have hW_3454 := hW_2900.up hf_3452 hk_3453 t_2 ⟨v_2821, v_2822, v_2824, v_3448, v_2826, v_2830, v_2832, v_2833, v_2834, v_2835, v_2837, rfl, (by first | omega | (simp only [Int32.lt_iff_toInt_lt, Int32.le_iff_toInt_le, Int32.reduceToInt, ← Int32.toInt_inj, true_and, and_true, or_true, true_or, false_or, or_false, false_and, and_false, not_true_eq_false, not_false_eq_true] <;> omega)), (by first | omega | (simp only [Int32.lt_iff_toInt_lt, Int32.le_iff_toInt_le, Int32.reduceToInt, ← Int32.toInt_inj, true_and, and_true, or_true, true_or, false_or, or_false, false_and, and_false, not_true_eq_false, not_false_eq_true] <;> omega)), (by first | omega | (simp only [Int32.lt_iff_toInt_lt, Int32.le_iff_toInt_le, Int32.reduceToInt, ← Int32.toInt_inj, true_and, and_true, or_true, true_or, false_or, or_false, false_and, and_false, not_true_eq_false, not_false_eq_true] <;> omega)), (by first | omega | (simp only [Int32.lt_iff_toInt_lt, Int32.le_iff_toInt_le, Int32.reduceToInt, ← Int32.toInt_inj, true_and, and_true, or_true, true_or, false_or, or_false, false_and, and_false, not_true_eq_false, not_false_eq_true] <;> omega)), (by first | omega | (simp only [Int32.lt_iff_toInt_lt, Int32.le_iff_toInt_le, Int32.reduceToInt, ← Int32.toInt_inj, true_and, and_true, or_true, true_or, false_or, or_false, false_and, and_false, not_true_eq_false, not_false_eq_true] <;> omega)), (by first | omega | (simp only [Int32.lt_iff_toInt_lt, Int32.le_iff_toInt_le, Int32.reduceToInt, ← Int32.toInt_inj, true_and, and_true, or_true, true_or, false_or, or_false, false_and, and_false, not_true_eq_false, not_false_eq_true] <;> omega)), (by first | omega | (simp only [Int32.lt_iff_toInt_lt, Int32.le_iff_toInt_le, Int32.reduceToInt, ← Int32.toInt_inj, true_and, and_true, or_true, true_or, false_or, or_false, false_and, and_false, not_true_eq_false, not_false_eq_true] <;> omega))⟩
              have hf_3455 := (hk_3453 (q 4) (ne_kd e_2912 hf_2898 rfl)).trans e_2912
              have fr_3456 := FR.w hk_3453 hf_2898 (k := 12) rfl
              refine v_goto hC dX12_advance_114 (tgt := 83) (by decide) ?_
              have lp_3654 : ∀ (n_3655 : Nat) (f_3646 : Nat → va_E) (hW_3647 : WT T L f_3646) (hF_3648 : FR [12] f_3451 f_3646)  (nv_3650 : v_28.toInt ≤ fld (f_3646 a_0) 9) (nv_3651 : fld (f_3646 a_0) 9 < fld (f_3646 a_0) 8) (nv_3652 : fld (f_3646 a_0) 12 = v_35.toInt) (nv_3653 : fld (f_3646 a_0) 20 = v_39.toInt) (hm_3657 : 600 - fld (f_3646 a_0) 8 < (n_3655 : Int)), V z E 2 0 0 L f_3646 83 [(0, .ref a_0)] [] := by
                intro n_3655
                induction n_3655 with
                | zero =>
                  intro f_3646 hW_3647 hF_3648 nv_3650 nv_3651 nv_3652 nv_3653 hm_3657
                  have hf_3649 := hF_3648.at hf_3455 rfl
                  obtain ⟨v_3659, v_3660, v_3662, v_3664, v_3666, v_3668, v_3670, v_3671, v_3672, v_3673, v_3675, e_3658, b_3661, b_3663, b_3665, b_3667, b_3669, b_3674, b_3676⟩ := hW_3647.at m_1 t_2
                  have fe_3677 : fld (f_3646 a_0) 9 = (v_3666 : Int32).toInt := by rw [e_3658]; rfl
                  rw [fe_3677] at nv_3650
                  have fe_3678 : fld (f_3646 a_0) 8 = (v_3664 : Int32).toInt := by rw [e_3658]; rfl
                  have fe_3679 : fld (f_3646 a_0) 9 = (v_3666 : Int32).toInt := by rw [e_3658]; rfl
                  rw [fe_3678, fe_3679] at nv_3651
                  have fe_3680 : fld (f_3646 a_0) 12 = (v_3671 : Int32).toInt := by rw [e_3658]; rfl
                  rw [fe_3680] at nv_3652
                  have fe_3681 : fld (f_3646 a_0) 20 = (v_3675 : Int32).toInt := by rw [e_3658]; rfl
                  rw [fe_3681] at nv_3653
                  have h_3682 : fld (f_3646 a_0) 8 = (v_3664 : Int32).toInt := by rw [e_3658]; rfl
                  rw [h_3682] at hm_3657
                  exfalso; omega
                | succ n_3655 ih_3656 =>
                  intro f_3646 hW_3647 hF_3648 nv_3650 nv_3651 nv_3652 nv_3653 hm_3657
                  have hf_3649 := hF_3648.at hf_3455 rfl
                  obtain ⟨v_3659, v_3660, v_3662, v_3664, v_3666, v_3668, v_3670, v_3671, v_3672, v_3673, v_3675, e_3658, b_3661, b_3663, b_3665, b_3667, b_3669, b_3674, b_3676⟩ := hW_3647.at m_1 t_2
                  have fe_3677 : fld (f_3646 a_0) 9 = (v_3666 : Int32).toInt := by rw [e_3658]; rfl
                  rw [fe_3677] at nv_3650
                  have fe_3678 : fld (f_3646 a_0) 8 = (v_3664 : Int32).toInt := by rw [e_3658]; rfl
                  have fe_3679 : fld (f_3646 a_0) 9 = (v_3666 : Int32).toInt := by rw [e_3658]; rfl
                  rw [fe_3678, fe_3679] at nv_3651
                  have fe_3680 : fld (f_3646 a_0) 12 = (v_3671 : Int32).toInt := by rw [e_3658]; rfl
                  rw [fe_3680] at nv_3652
                  have fe_3681 : fld (f_3646 a_0) 20 = (v_3675 : Int32).toInt := by rw [e_3658]; rfl
                  rw [fe_3681] at nv_3653
                  have h_3682 : fld (f_3646 a_0) 8 = (v_3664 : Int32).toInt := by rw [e_3658]; rfl
                  rw [h_3682] at hm_3657
                  refine v_aload_n hC dX12_advance_83 rfl ?_
                  refine v_aload_n hC dX12_advance_84 rfl ?_
                  refine v_get hC fl_X12_108 m_1 e_3658 rfl dX12_advance_85 ?_
                  refine v_vi hC (rest := []) m_1 e_3658 rfl mi_X12_see ms_X12_see (p_X12_see hW_3647 k_0 (by first | omega | (simp only [Int32.lt_iff_toInt_lt, Int32.le_iff_toInt_le, Int32.reduceToInt, ← Int32.toInt_inj, true_and, and_true, or_true, true_or, false_or, or_false, false_and, and_false, not_true_eq_false, not_false_eq_true] <;> omega))) mx_X12_see ml_X12_114 (by decide) rfl (cells1 := 0) (slots1 := 0) (by decide) (by decide) (Nat.le_of_ble_eq_true rfl) (Nat.le_of_ble_eq_true rfl) rfl (Nat.le_of_ble_eq_true rfl) dX12_advance_88 (fun r_3683 L_3684 f_3685 h_3686 => ?_)
                  obtain ⟨rfl, rfl, rfl⟩ := h_3686
                  have sb_3689 := sv_b (f_3646 a_0) (f_3646 (q 4)) v_3664
                  have fe_3690 : fld (f_3646 a_0) 7 = (v_3662 : Int32).toInt := by rw [e_3658]; rfl
                  rw [fe_3690] at sb_3689
                  obtain ⟨v_3691, h_3692⟩ : ∃ v9 : Int64, (sv (f_3646 a_0) (f_3646 (q 4)) v_3664).toInt64 = v9 := ⟨_, rfl⟩
                  refine v_i2l hC dX12_advance_91 h_3692 ?_
                  have h_3693 : v_3691.toInt = (sv (f_3646 a_0) (f_3646 (q 4)) v_3664).toInt := by rw [← h_3692]; exact Int32.toInt_toInt64 _
                  refine v_ldc2 hC kl_X12_123 dX12_advance_92 ?_
                  refine v_ldc2 hC kl_X12_125 dX12_advance_95 ?_
                  refine v_si hC (rest := []) mt_X12_in (p_X12_in hW_3647) mx_X12_in ml_X12_79 (by decide) rfl (cells1 := 0) (slots1 := 0) (by decide) (by decide) (Nat.le_of_ble_eq_true rfl) (Nat.le_of_ble_eq_true rfl) rfl (Nat.le_of_ble_eq_true rfl) dX12_advance_98 (fun r_3694 L_3695 f_3696 h_3697 => ?_)
                  obtain ⟨rfl, rfl, b_3698, x_3699⟩ := h_3697
                  try simp only [Int32.reduceToInt, Int64.reduceToInt] at x_3699
                  refine v_if_eq hC dX12_advance_101 (tgt := 117) (by decide) (fun h_3702 => ?_) (fun h_3702 => ?_)
                  · simp only [Int32.lt_iff_toInt_lt, Int32.le_iff_toInt_le, Int32.reduceToInt, ← Int32.toInt_inj] at h_3702
                    refine v_aload_n hC dX12_advance_117 rfl ?_
                    refine v_iconst hC dX12_advance_118 (v := 1) (by decide) ?_
                    refine v_put hC fl_X12_120 m_1 e_3658 rfl rfl (Nat.le_of_ble_eq_true rfl) (fs' := [.int v_3659, .ref (q 1), .ref (q 2), .ref (q 3), .ref (q 4), .int v_3660, .ref (q 6), .int v_3662, .int v_3664, .int v_3666, .int 1, .int v_3670, .int v_3671, .int v_3672, .ref (q 14), .ref (q 15), .ref (q 16), .int v_3673, .ref (q 18), .ref (q 19), .int v_3675, .ref (q 21), .ref (q 22), .ref (q 23), .ref (q 24), .ref (q 25), .ref (q 26), .ref (q 27), .ref (q 28)]) rfl dX12_advance_119 (fun f_3703 hf_3704 hk_3705 => ?_)
                    have hW_3706 := hW_3647.up hf_3704 hk_3705 t_2 ⟨v_3659, v_3660, v_3662, v_3664, v_3666, 1, v_3670, v_3671, v_3672, v_3673, v_3675, rfl, (by first | omega | (simp only [Int32.lt_iff_toInt_lt, Int32.le_iff_toInt_le, Int32.reduceToInt, ← Int32.toInt_inj, true_and, and_true, or_true, true_or, false_or, or_false, false_and, and_false, not_true_eq_false, not_false_eq_true] <;> omega)), (by first | omega | (simp only [Int32.lt_iff_toInt_lt, Int32.le_iff_toInt_le, Int32.reduceToInt, ← Int32.toInt_inj, true_and, and_true, or_true, true_or, false_or, or_false, false_and, and_false, not_true_eq_false, not_false_eq_true] <;> omega)), (by first | omega | (simp only [Int32.lt_iff_toInt_lt, Int32.le_iff_toInt_le, Int32.reduceToInt, ← Int32.toInt_inj, true_and, and_true, or_true, true_or, false_or, or_false, false_and, and_false, not_true_eq_false, not_false_eq_true] <;> omega)), (by first | omega | (simp only [Int32.lt_iff_toInt_lt, Int32.le_iff_toInt_le, Int32.reduceToInt, ← Int32.toInt_inj, true_and, and_true, or_true, true_or, false_or, or_false, false_and, and_false, not_true_eq_false, not_false_eq_true] <;> omega)), (by decide), (by first | omega | (simp only [Int32.lt_iff_toInt_lt, Int32.le_iff_toInt_le, Int32.reduceToInt, ← Int32.toInt_inj, true_and, and_true, or_true, true_or, false_or, or_false, false_and, and_false, not_true_eq_false, not_false_eq_true] <;> omega)), (by first | omega | (simp only [Int32.lt_iff_toInt_lt, Int32.le_iff_toInt_le, Int32.reduceToInt, ← Int32.toInt_inj, true_and, and_true, or_true, true_or, false_or, or_false, false_and, and_false, not_true_eq_false, not_false_eq_true] <;> omega))⟩
                    have hf_3707 := (hk_3705 (q 4) (ne_kd hf_3649 e_3658 rfl)).trans hf_3649
                    have fr_3708 := FR.w hk_3705 e_3658 (k := 12) rfl
                    refine v_goto hC dX12_advance_122 (tgt := 240) (by decide) ?_
                    have fe_3709 : fld (f_3703 a_0) 8 = (v_3664 : Int32).toInt := by rw [hf_3704]; rfl
                    have fe_3710 : fld (f_3703 a_0) 9 = (v_3666 : Int32).toInt := by rw [hf_3704]; rfl
                    have fe_3711 : fld (f_3703 a_0) 8 = (v_3664 : Int32).toInt := by rw [hf_3704]; rfl
                    have fe_3712 : fld (f_3703 a_0) 9 = (v_3666 : Int32).toInt := by rw [hf_3704]; rfl
                    have fe_3713 : fld (f_3703 a_0) 10 = (1 : Int32).toInt := by rw [hf_3704]; rfl
                    simp only [Int32.reduceToInt] at fe_3713
                    have fe_3714 : fld (f_3703 a_0) 12 = (v_3671 : Int32).toInt := by rw [hf_3704]; rfl
                    have fe_3715 : fld (f_3703 a_0) 20 = (v_3675 : Int32).toInt := by rw [hf_3704]; rfl
                    exact hR _ _ _ _ _ _ dX12_advance_240 (Nat.le_of_ble_eq_true rfl) (Nat.le_of_ble_eq_true rfl) ⟨rfl, hW_3706, (((((hF_2812.tr fr_2901).tr fr_3456).tr hF_3648).tr fr_3708).mono rfl), (by simp only [fe_3709, fe_3710, mz_41, true_and, and_true, or_true, true_or, false_or, or_false, false_and, and_false, not_true_eq_false, not_false_eq_true] <;> first | omega | (simp only [Int32.lt_iff_toInt_lt, Int32.le_iff_toInt_le, Int32.reduceToInt, ← Int32.toInt_inj, true_and, and_true, or_true, true_or, false_or, or_false, false_and, and_false, not_true_eq_false, not_false_eq_true] <;> omega)), (by simp only [fe_3711, fe_3712, fe_3713, true_and, and_true, or_true, true_or, false_or, or_false, false_and, and_false, not_true_eq_false, not_false_eq_true] <;> first | omega | (simp only [Int32.lt_iff_toInt_lt, Int32.le_iff_toInt_le, Int32.reduceToInt, ← Int32.toInt_inj, true_and, and_true, or_true, true_or, false_or, or_false, false_and, and_false, not_true_eq_false, not_false_eq_true] <;> omega)), (by simp only [fe_3714, mz_42, true_and, and_true, or_true, true_or, false_or, or_false, false_and, and_false, not_true_eq_false, not_false_eq_true] <;> first | omega | (simp only [Int32.lt_iff_toInt_lt, Int32.le_iff_toInt_le, Int32.reduceToInt, ← Int32.toInt_inj, true_and, and_true, or_true, true_or, false_or, or_false, false_and, and_false, not_true_eq_false, not_false_eq_true] <;> omega)), (by simp only [fe_3715, mz_43, true_and, and_true, or_true, true_or, false_or, or_false, false_and, and_false, not_true_eq_false, not_false_eq_true] <;> first | omega | (simp only [Int32.lt_iff_toInt_lt, Int32.le_iff_toInt_le, Int32.reduceToInt, ← Int32.toInt_inj, true_and, and_true, or_true, true_or, false_or, or_false, false_and, and_false, not_true_eq_false, not_false_eq_true] <;> omega))⟩
                  · simp only [Int32.lt_iff_toInt_lt, Int32.le_iff_toInt_le, Int32.reduceToInt, ← Int32.toInt_inj] at h_3702
                    refine v_aload_n hC dX12_advance_104 rfl ?_
                    refine v_dup hC dX12_advance_105 rfl ?_
                    refine v_get hC fl_X12_108 m_1 e_3658 rfl dX12_advance_106 ?_
                    refine v_iconst hC dX12_advance_109 (v := 1) (by decide) ?_
                    obtain ⟨v_3716, h_3717⟩ : ∃ v9 : Int32, v_3664 + 1 = v9 := ⟨_, rfl⟩
                    refine v_iadd hC dX12_advance_110 h_3717 ?_
                    have h_3718 := add_v h_3717 (by first | omega | (simp only [Int32.lt_iff_toInt_lt, Int32.le_iff_toInt_le, Int32.reduceToInt, ← Int32.toInt_inj, true_and, and_true, or_true, true_or, false_or, or_false, false_and, and_false, not_true_eq_false, not_false_eq_true] <;> omega)) (by first | omega | (simp only [Int32.lt_iff_toInt_lt, Int32.le_iff_toInt_le, Int32.reduceToInt, ← Int32.toInt_inj, true_and, and_true, or_true, true_or, false_or, or_false, false_and, and_false, not_true_eq_false, not_false_eq_true] <;> omega))
                    try simp only [Int32.reduceToInt] at h_3718
                    refine v_put hC fl_X12_108 m_1 e_3658 rfl rfl (Nat.le_of_ble_eq_true rfl) (fs' := [.int v_3659, .ref (q 1), .ref (q 2), .ref (q 3), .ref (q 4), .int v_3660, .ref (q 6), .int v_3662, .int v_3716, .int v_3666, .int v_3668, .int v_3670, .int v_3671, .int v_3672, .ref (q 14), .ref (q 15), .ref (q 16), .int v_3673, .ref (q 18), .ref (q 19), .int v_3675, .ref (q 21), .ref (q 22), .ref (q 23), .ref (q 24), .ref (q 25), .ref (q 26), .ref (q 27), .ref (q 28)]) rfl dX12_advance_111 (fun f_3719 hf_3720 hk_3721 => ?_)
                    have hW_3722 := hW_3647.up hf_3720 hk_3721 t_2 ⟨v_3659, v_3660, v_3662, v_3716, v_3666, v_3668, v_3670, v_3671, v_3672, v_3673, v_3675, rfl, (by first | omega | (simp only [Int32.lt_iff_toInt_lt, Int32.le_iff_toInt_le, Int32.reduceToInt, ← Int32.toInt_inj, true_and, and_true, or_true, true_or, false_or, or_false, false_and, and_false, not_true_eq_false, not_false_eq_true] <;> omega)), (by first | omega | (simp only [Int32.lt_iff_toInt_lt, Int32.le_iff_toInt_le, Int32.reduceToInt, ← Int32.toInt_inj, true_and, and_true, or_true, true_or, false_or, or_false, false_and, and_false, not_true_eq_false, not_false_eq_true] <;> omega)), (by first | omega | (simp only [Int32.lt_iff_toInt_lt, Int32.le_iff_toInt_le, Int32.reduceToInt, ← Int32.toInt_inj, true_and, and_true, or_true, true_or, false_or, or_false, false_and, and_false, not_true_eq_false, not_false_eq_true] <;> omega)), (by first | omega | (simp only [Int32.lt_iff_toInt_lt, Int32.le_iff_toInt_le, Int32.reduceToInt, ← Int32.toInt_inj, true_and, and_true, or_true, true_or, false_or, or_false, false_and, and_false, not_true_eq_false, not_false_eq_true] <;> omega)), (by first | omega | (simp only [Int32.lt_iff_toInt_lt, Int32.le_iff_toInt_le, Int32.reduceToInt, ← Int32.toInt_inj, true_and, and_true, or_true, true_or, false_or, or_false, false_and, and_false, not_true_eq_false, not_false_eq_true] <;> omega)), (by first | omega | (simp only [Int32.lt_iff_toInt_lt, Int32.le_iff_toInt_le, Int32.reduceToInt, ← Int32.toInt_inj, true_and, and_true, or_true, true_or, false_or, or_false, false_and, and_false, not_true_eq_false, not_false_eq_true] <;> omega)), (by first | omega | (simp only [Int32.lt_iff_toInt_lt, Int32.le_iff_toInt_le, Int32.reduceToInt, ← Int32.toInt_inj, true_and, and_true, or_true, true_or, false_or, or_false, false_and, and_false, not_true_eq_false, not_false_eq_true] <;> omega))⟩
                    have hf_3723 := (hk_3721 (q 4) (ne_kd hf_3649 e_3658 rfl)).trans hf_3649
                    have fr_3724 := FR.w hk_3721 e_3658 (k := 12) rfl
                    refine v_goto hC dX12_advance_114 (tgt := 83) (by decide) ?_
                    refine v_pick [0] rfl ?_
                    have fe_3725 : fld (f_3719 a_0) 9 = (v_3666 : Int32).toInt := by rw [hf_3720]; rfl
                    have fe_3726 : fld (f_3719 a_0) 8 = (v_3716 : Int32).toInt := by rw [hf_3720]; rfl
                    have fe_3727 : fld (f_3719 a_0) 9 = (v_3666 : Int32).toInt := by rw [hf_3720]; rfl
                    have fe_3728 : fld (f_3719 a_0) 12 = (v_3671 : Int32).toInt := by rw [hf_3720]; rfl
                    have fe_3729 : fld (f_3719 a_0) 20 = (v_3675 : Int32).toInt := by rw [hf_3720]; rfl
                    have h_3730 : fld (f_3719 a_0) 8 = (v_3716 : Int32).toInt := by rw [hf_3720]; rfl
                    exact ih_3656 f_3719 hW_3722 ((hF_3648.tr fr_3724).mono rfl) (by rw [fe_3725] <;> first | omega | (simp only [Int32.lt_iff_toInt_lt, Int32.le_iff_toInt_le, Int32.reduceToInt, ← Int32.toInt_inj, true_and, and_true, or_true, true_or, false_or, or_false, false_and, and_false, not_true_eq_false, not_false_eq_true] <;> omega)) (by rw [fe_3726, fe_3727] <;> first | omega | (simp only [Int32.lt_iff_toInt_lt, Int32.le_iff_toInt_le, Int32.reduceToInt, ← Int32.toInt_inj, true_and, and_true, or_true, true_or, false_or, or_false, false_and, and_false, not_true_eq_false, not_false_eq_true] <;> omega)) (by rw [fe_3728] <;> first | omega | (simp only [Int32.lt_iff_toInt_lt, Int32.le_iff_toInt_le, Int32.reduceToInt, ← Int32.toInt_inj, true_and, and_true, or_true, true_or, false_or, or_false, false_and, and_false, not_true_eq_false, not_false_eq_true] <;> omega)) (by rw [fe_3729] <;> first | omega | (simp only [Int32.lt_iff_toInt_lt, Int32.le_iff_toInt_le, Int32.reduceToInt, ← Int32.toInt_inj, true_and, and_true, or_true, true_or, false_or, or_false, false_and, and_false, not_true_eq_false, not_false_eq_true] <;> omega)) (by rw [h_3730]; omega)
              refine v_pick [1] rfl ?_
              have fe_3731 : fld (f_3451 a_0) 9 = (v_2826 : Int32).toInt := by rw [hf_3452]; rfl
              have fe_3732 : fld (f_3451 a_0) 8 = (v_3448 : Int32).toInt := by rw [hf_3452]; rfl
              have fe_3733 : fld (f_3451 a_0) 9 = (v_2826 : Int32).toInt := by rw [hf_3452]; rfl
              have fe_3734 : fld (f_3451 a_0) 12 = (v_2833 : Int32).toInt := by rw [hf_3452]; rfl
              have fe_3735 : fld (f_3451 a_0) 20 = (v_2837 : Int32).toInt := by rw [hf_3452]; rfl
              have h_3736 : fld (f_3451 a_0) 8 = (v_3448 : Int32).toInt := by rw [hf_3452]; rfl
              exact lp_3654 602 f_3451 hW_3454 FR.rf (by rw [fe_3731] <;> first | omega | (simp only [Int32.lt_iff_toInt_lt, Int32.le_iff_toInt_le, Int32.reduceToInt, ← Int32.toInt_inj, true_and, and_true, or_true, true_or, false_or, or_false, false_and, and_false, not_true_eq_false, not_false_eq_true] <;> omega)) (by rw [fe_3732, fe_3733] <;> first | omega | (simp only [Int32.lt_iff_toInt_lt, Int32.le_iff_toInt_le, Int32.reduceToInt, ← Int32.toInt_inj, true_and, and_true, or_true, true_or, false_or, or_false, false_and, and_false, not_true_eq_false, not_false_eq_true] <;> omega)) (by rw [fe_3734] <;> first | omega | (simp only [Int32.lt_iff_toInt_lt, Int32.le_iff_toInt_le, Int32.reduceToInt, ← Int32.toInt_inj, true_and, and_true, or_true, true_or, false_or, or_false, false_and, and_false, not_true_eq_false, not_false_eq_true] <;> omega)) (by rw [fe_3735] <;> first | omega | (simp only [Int32.lt_iff_toInt_lt, Int32.le_iff_toInt_le, Int32.reduceToInt, ← Int32.toInt_inj, true_and, and_true, or_true, true_or, false_or, or_false, false_and, and_false, not_true_eq_false, not_false_eq_true] <;> omega)) (by rw [h_3736]; omega)
          · simp only [Int32.lt_iff_toInt_lt, Int32.le_iff_toInt_le, Int32.reduceToInt, ← Int32.toInt_inj] at h_2916
            refine v_aload_n hC dX12_advance_61 rfl ?_
            refine v_iconst hC dX12_advance_62 (v := 0) (by decide) ?_
            refine v_put hC fl_X12_120 m_1 hf_2898 rfl rfl (Nat.le_of_ble_eq_true rfl) (fs' := [.int v_2821, .ref (q 1), .ref (q 2), .ref (q 3), .ref (q 4), .int v_2822, .ref (q 6), .int v_2824, .int v_2826, .int v_2826, .int 0, .int v_2832, .int v_2833, .int v_2834, .ref (q 14), .ref (q 15), .ref (q 16), .int v_2835, .ref (q 18), .ref (q 19), .int v_2837, .ref (q 21), .ref (q 22), .ref (q 23), .ref (q 24), .ref (q 25), .ref (q 26), .ref (q 27), .ref (q 28)]) rfl dX12_advance_63 (fun f_3737 hf_3738 hk_3739 => ?_)
            have hW_3740 := hW_2900.up hf_3738 hk_3739 t_2 ⟨v_2821, v_2822, v_2824, v_2826, v_2826, 0, v_2832, v_2833, v_2834, v_2835, v_2837, rfl, (by first | omega | (simp only [Int32.lt_iff_toInt_lt, Int32.le_iff_toInt_le, Int32.reduceToInt, ← Int32.toInt_inj, true_and, and_true, or_true, true_or, false_or, or_false, false_and, and_false, not_true_eq_false, not_false_eq_true] <;> omega)), (by first | omega | (simp only [Int32.lt_iff_toInt_lt, Int32.le_iff_toInt_le, Int32.reduceToInt, ← Int32.toInt_inj, true_and, and_true, or_true, true_or, false_or, or_false, false_and, and_false, not_true_eq_false, not_false_eq_true] <;> omega)), (by first | omega | (simp only [Int32.lt_iff_toInt_lt, Int32.le_iff_toInt_le, Int32.reduceToInt, ← Int32.toInt_inj, true_and, and_true, or_true, true_or, false_or, or_false, false_and, and_false, not_true_eq_false, not_false_eq_true] <;> omega)), (by first | omega | (simp only [Int32.lt_iff_toInt_lt, Int32.le_iff_toInt_le, Int32.reduceToInt, ← Int32.toInt_inj, true_and, and_true, or_true, true_or, false_or, or_false, false_and, and_false, not_true_eq_false, not_false_eq_true] <;> omega)), (by decide), (by first | omega | (simp only [Int32.lt_iff_toInt_lt, Int32.le_iff_toInt_le, Int32.reduceToInt, ← Int32.toInt_inj, true_and, and_true, or_true, true_or, false_or, or_false, false_and, and_false, not_true_eq_false, not_false_eq_true] <;> omega)), (by first | omega | (simp only [Int32.lt_iff_toInt_lt, Int32.le_iff_toInt_le, Int32.reduceToInt, ← Int32.toInt_inj, true_and, and_true, or_true, true_or, false_or, or_false, false_and, and_false, not_true_eq_false, not_false_eq_true] <;> omega))⟩
            have hf_3741 := (hk_3739 (q 4) (ne_kd e_2912 hf_2898 rfl)).trans e_2912
            have fr_3742 := FR.w hk_3739 hf_2898 (k := 12) rfl
            refine v_goto hC dX12_advance_66 (tgt := 240) (by decide) ?_
            have fe_3743 : fld (f_3737 a_0) 8 = (v_2826 : Int32).toInt := by rw [hf_3738]; rfl
            have fe_3744 : fld (f_3737 a_0) 9 = (v_2826 : Int32).toInt := by rw [hf_3738]; rfl
            have fe_3745 : fld (f_3737 a_0) 8 = (v_2826 : Int32).toInt := by rw [hf_3738]; rfl
            have fe_3746 : fld (f_3737 a_0) 9 = (v_2826 : Int32).toInt := by rw [hf_3738]; rfl
            have fe_3747 : fld (f_3737 a_0) 10 = (0 : Int32).toInt := by rw [hf_3738]; rfl
            simp only [Int32.reduceToInt] at fe_3747
            have fe_3748 : fld (f_3737 a_0) 12 = (v_2833 : Int32).toInt := by rw [hf_3738]; rfl
            have fe_3749 : fld (f_3737 a_0) 20 = (v_2837 : Int32).toInt := by rw [hf_3738]; rfl
            exact hR _ _ _ _ _ _ dX12_advance_240 (Nat.le_of_ble_eq_true rfl) (Nat.le_of_ble_eq_true rfl) ⟨rfl, hW_3740, (((hF_2812.tr fr_2901).tr fr_3742).mono rfl), (by simp only [fe_3743, fe_3744, mz_41, true_and, and_true, or_true, true_or, false_or, or_false, false_and, and_false, not_true_eq_false, not_false_eq_true] <;> first | omega | (simp only [Int32.lt_iff_toInt_lt, Int32.le_iff_toInt_le, Int32.reduceToInt, ← Int32.toInt_inj, true_and, and_true, or_true, true_or, false_or, or_false, false_and, and_false, not_true_eq_false, not_false_eq_true] <;> omega)), (by simp only [fe_3745, fe_3746, fe_3747, true_and, and_true, or_true, true_or, false_or, or_false, false_and, and_false, not_true_eq_false, not_false_eq_true] <;> first | omega | (simp only [Int32.lt_iff_toInt_lt, Int32.le_iff_toInt_le, Int32.reduceToInt, ← Int32.toInt_inj, true_and, and_true, or_true, true_or, false_or, or_false, false_and, and_false, not_true_eq_false, not_false_eq_true] <;> omega)), (by simp only [fe_3748, mz_42, true_and, and_true, or_true, true_or, false_or, or_false, false_and, and_false, not_true_eq_false, not_false_eq_true] <;> first | omega | (simp only [Int32.lt_iff_toInt_lt, Int32.le_iff_toInt_le, Int32.reduceToInt, ← Int32.toInt_inj, true_and, and_true, or_true, true_or, false_or, or_false, false_and, and_false, not_true_eq_false, not_false_eq_true] <;> omega)), (by simp only [fe_3749, mz_43, true_and, and_true, or_true, true_or, false_or, or_false, false_and, and_false, not_true_eq_false, not_false_eq_true] <;> first | omega | (simp only [Int32.lt_iff_toInt_lt, Int32.le_iff_toInt_le, Int32.reduceToInt, ← Int32.toInt_inj, true_and, and_true, or_true, true_or, false_or, or_false, false_and, and_false, not_true_eq_false, not_false_eq_true] <;> omega))⟩
        · simp only [Int32.lt_iff_toInt_lt, Int32.le_iff_toInt_le, Int32.reduceToInt, ← Int32.toInt_inj] at h_2884
          refine v_aload_n hC dX12_advance_26 rfl ?_
          refine v_dup hC dX12_advance_27 rfl ?_
          refine v_get hC fl_X12_108 m_1 e_2820 rfl dX12_advance_28 ?_
          refine v_iconst hC dX12_advance_31 (v := 1) (by decide) ?_
          obtain ⟨v_3750, h_3751⟩ : ∃ v9 : Int32, v_2826 + 1 = v9 := ⟨_, rfl⟩
          refine v_iadd hC dX12_advance_32 h_3751 ?_
          have h_3752 := add_v h_3751 (by first | omega | (simp only [Int32.lt_iff_toInt_lt, Int32.le_iff_toInt_le, Int32.reduceToInt, ← Int32.toInt_inj, true_and, and_true, or_true, true_or, false_or, or_false, false_and, and_false, not_true_eq_false, not_false_eq_true] <;> omega)) (by first | omega | (simp only [Int32.lt_iff_toInt_lt, Int32.le_iff_toInt_le, Int32.reduceToInt, ← Int32.toInt_inj, true_and, and_true, or_true, true_or, false_or, or_false, false_and, and_false, not_true_eq_false, not_false_eq_true] <;> omega))
          try simp only [Int32.reduceToInt] at h_3752
          refine v_put hC fl_X12_108 m_1 e_2820 rfl rfl (Nat.le_of_ble_eq_true rfl) (fs' := [.int v_2821, .ref (q 1), .ref (q 2), .ref (q 3), .ref (q 4), .int v_2822, .ref (q 6), .int v_2824, .int v_3750, .int v_2828, .int v_2830, .int v_2832, .int v_2833, .int v_2834, .ref (q 14), .ref (q 15), .ref (q 16), .int v_2835, .ref (q 18), .ref (q 19), .int v_2837, .ref (q 21), .ref (q 22), .ref (q 23), .ref (q 24), .ref (q 25), .ref (q 26), .ref (q 27), .ref (q 28)]) rfl dX12_advance_33 (fun f_3753 hf_3754 hk_3755 => ?_)
          have hW_3756 := hW_2811.up hf_3754 hk_3755 t_2 ⟨v_2821, v_2822, v_2824, v_3750, v_2828, v_2830, v_2832, v_2833, v_2834, v_2835, v_2837, rfl, (by first | omega | (simp only [Int32.lt_iff_toInt_lt, Int32.le_iff_toInt_le, Int32.reduceToInt, ← Int32.toInt_inj, true_and, and_true, or_true, true_or, false_or, or_false, false_and, and_false, not_true_eq_false, not_false_eq_true] <;> omega)), (by first | omega | (simp only [Int32.lt_iff_toInt_lt, Int32.le_iff_toInt_le, Int32.reduceToInt, ← Int32.toInt_inj, true_and, and_true, or_true, true_or, false_or, or_false, false_and, and_false, not_true_eq_false, not_false_eq_true] <;> omega)), (by first | omega | (simp only [Int32.lt_iff_toInt_lt, Int32.le_iff_toInt_le, Int32.reduceToInt, ← Int32.toInt_inj, true_and, and_true, or_true, true_or, false_or, or_false, false_and, and_false, not_true_eq_false, not_false_eq_true] <;> omega)), (by first | omega | (simp only [Int32.lt_iff_toInt_lt, Int32.le_iff_toInt_le, Int32.reduceToInt, ← Int32.toInt_inj, true_and, and_true, or_true, true_or, false_or, or_false, false_and, and_false, not_true_eq_false, not_false_eq_true] <;> omega)), (by first | omega | (simp only [Int32.lt_iff_toInt_lt, Int32.le_iff_toInt_le, Int32.reduceToInt, ← Int32.toInt_inj, true_and, and_true, or_true, true_or, false_or, or_false, false_and, and_false, not_true_eq_false, not_false_eq_true] <;> omega)), (by first | omega | (simp only [Int32.lt_iff_toInt_lt, Int32.le_iff_toInt_le, Int32.reduceToInt, ← Int32.toInt_inj, true_and, and_true, or_true, true_or, false_or, or_false, false_and, and_false, not_true_eq_false, not_false_eq_true] <;> omega)), (by first | omega | (simp only [Int32.lt_iff_toInt_lt, Int32.le_iff_toInt_le, Int32.reduceToInt, ← Int32.toInt_inj, true_and, and_true, or_true, true_or, false_or, or_false, false_and, and_false, not_true_eq_false, not_false_eq_true] <;> omega))⟩
          have fr_3757 := FR.w hk_3755 e_2820 (k := 12) rfl
          refine v_goto hC dX12_advance_36 (tgt := 0) (by decide) ?_
          refine v_pick [0] rfl ?_
          have fe_3758 : fld (f_3753 a_0) 8 = (v_3750 : Int32).toInt := by rw [hf_3754]; rfl
          have fe_3759 : fld (f_3753 a_0) 12 = (v_2833 : Int32).toInt := by rw [hf_3754]; rfl
          have fe_3760 : fld (f_3753 a_0) 20 = (v_2837 : Int32).toInt := by rw [hf_3754]; rfl
          have h_3761 : fld (f_3753 a_0) 8 = (v_3750 : Int32).toInt := by rw [hf_3754]; rfl
          exact ih_2818 f_3753 hW_3756 ((hF_2812.tr fr_3757).mono rfl) (by rw [fe_3758] <;> first | omega | (simp only [Int32.lt_iff_toInt_lt, Int32.le_iff_toInt_le, Int32.reduceToInt, ← Int32.toInt_inj, true_and, and_true, or_true, true_or, false_or, or_false, false_and, and_false, not_true_eq_false, not_false_eq_true] <;> omega)) (by rw [fe_3759] <;> first | omega | (simp only [Int32.lt_iff_toInt_lt, Int32.le_iff_toInt_le, Int32.reduceToInt, ← Int32.toInt_inj, true_and, and_true, or_true, true_or, false_or, or_false, false_and, and_false, not_true_eq_false, not_false_eq_true] <;> omega)) (by rw [fe_3760] <;> first | omega | (simp only [Int32.lt_iff_toInt_lt, Int32.le_iff_toInt_le, Int32.reduceToInt, ← Int32.toInt_inj, true_and, and_true, or_true, true_or, false_or, or_false, false_and, and_false, not_true_eq_false, not_false_eq_true] <;> omega)) (by rw [h_3761]; omega)
  refine v_pick [0] rfl ?_
  have fe_3762 : fld (f a_0) 8 = (v_28 : Int32).toInt := by rw [e_22]; rfl
  have fe_3763 : fld (f a_0) 12 = (v_35 : Int32).toInt := by rw [e_22]; rfl
  have fe_3764 : fld (f a_0) 20 = (v_39 : Int32).toInt := by rw [e_22]; rfl
  have h_3765 : fld (f a_0) 8 = (v_28 : Int32).toInt := by rw [e_22]; rfl
  exact lp_2816 602 f hW FR.rf (by rw [fe_3762] <;> first | omega | (simp only [Int32.lt_iff_toInt_lt, Int32.le_iff_toInt_le, Int32.reduceToInt, ← Int32.toInt_inj, true_and, and_true, or_true, true_or, false_or, or_false, false_and, and_false, not_true_eq_false, not_false_eq_true] <;> omega)) (by rw [fe_3763] <;> first | omega | (simp only [Int32.lt_iff_toInt_lt, Int32.le_iff_toInt_le, Int32.reduceToInt, ← Int32.toInt_inj, true_and, and_true, or_true, true_or, false_or, or_false, false_and, and_false, not_true_eq_false, not_false_eq_true] <;> omega)) (by rw [fe_3764] <;> first | omega | (simp only [Int32.lt_iff_toInt_lt, Int32.le_iff_toInt_le, Int32.reduceToInt, ← Int32.toInt_inj, true_and, and_true, or_true, true_or, false_or, or_false, false_and, and_false, not_true_eq_false, not_false_eq_true] <;> omega)) (by rw [h_3765]; omega)
set_option maxRecDepth 100000 in
set_option maxHeartbeats 4000000 in
theorem p_X12_good {l : Launch} {E : Ez} {L : List Nat} {f : Nat → va_E} {T : Nat → va_E → Prop} {a_0 : Nat} {q : Nat → Nat} (hW : WT T L f) (k_0 : isM T L E a_0 q) : CI l yX12_good cX12_good 1 .boolean 0 0 0 E [.ref a_0] L f (fun r L1 f1 => L = L1 ∧ f = f1 ∧ (0 ≤ r.toInt ∧ r.toInt ≤ 1) ∧ ((r.toInt = 1 ∧ fld (f a_0) 12 = 0) ∨ (r.toInt = 0 ∧ ¬ fld (f a_0) 12 = 0))) := by
  refine ci_of (by decide) (Nat.le_of_ble_eq_true rfl) (fun z hz hnm hC hR => ?_)
  have hC : Cx z E cX12_good RX12 1 0 0 0 := hC
  subst hz
  show V z E 1 0 0 L f 0 [(0, .ref a_0)] []
  obtain ⟨m_1, t_2, nq_21, k_3, k_4, k_5, k_6, k_7, k_8, k_9, k_10, k_11, k_12, k_13, k_14, k_15, k_16, k_17, k_18, k_19, k_20⟩ := id k_0
  obtain ⟨v_23, v_24, v_26, v_28, v_30, v_32, v_34, v_35, v_36, v_37, v_39, e_22, b_25, b_27, b_29, b_31, b_33, b_38, b_40⟩ := hW.at m_1 t_2
  have mz_41 : fld (f a_0) 12 = v_35.toInt := by rw [e_22]; rfl
  refine v_aload_n hC dX12_good_0 rfl ?_
  refine v_get hC fl_X12_111 m_1 e_22 rfl dX12_good_1 ?_
  refine v_if_ne hC dX12_good_4 (tgt := 11) (by decide) (fun h_42 => ?_) (fun h_42 => ?_)
  · simp only [Int32.lt_iff_toInt_lt, Int32.le_iff_toInt_le, Int32.reduceToInt, ← Int32.toInt_inj] at h_42
    refine v_iconst hC dX12_good_11 (v := 0) (by decide) ?_
    exact hR _ _ _ _ _ _ _ dX12_good_12 rfl (Nat.le_of_ble_eq_true rfl) (Nat.le_of_ble_eq_true rfl) ⟨rfl, rfl, (by decide), (by simp only [mz_41, true_and, and_true, or_true, true_or, false_or, or_false, false_and, and_false, not_true_eq_false, not_false_eq_true] <;> first | omega | (simp only [Int32.lt_iff_toInt_lt, Int32.le_iff_toInt_le, Int32.reduceToInt, ← Int32.toInt_inj, true_and, and_true, or_true, true_or, false_or, or_false, false_and, and_false, not_true_eq_false, not_false_eq_true] <;> omega))⟩
  · simp only [Int32.lt_iff_toInt_lt, Int32.le_iff_toInt_le, Int32.reduceToInt, ← Int32.toInt_inj] at h_42
    refine v_iconst hC dX12_good_7 (v := 1) (by decide) ?_
    refine v_goto hC dX12_good_8 (tgt := 12) (by decide) ?_
    exact hR _ _ _ _ _ _ _ dX12_good_12 rfl (Nat.le_of_ble_eq_true rfl) (Nat.le_of_ble_eq_true rfl) ⟨rfl, rfl, (by decide), (by simp only [mz_41, true_and, and_true, or_true, true_or, false_or, or_false, false_and, and_false, not_true_eq_false, not_false_eq_true] <;> first | omega | (simp only [Int32.lt_iff_toInt_lt, Int32.le_iff_toInt_le, Int32.reduceToInt, ← Int32.toInt_inj, true_and, and_true, or_true, true_or, false_or, or_false, false_and, and_false, not_true_eq_false, not_false_eq_true] <;> omega))⟩
set_option maxRecDepth 100000 in
set_option maxHeartbeats 4000000 in
theorem p_J0_coder_7d493 {l : Launch} {E : Ez} {L : List Nat} {f : Nat → va_E} {T : Nat → va_E → Prop} {a_0 : Nat} (hW : WT T L f) (ha_0 : a_0 < 77) : CI l yJ0_coder_7d493 cJ0_coder_7d493 1 .byte 0 0 0 E [.ref (eK E a_0)] L f (fun r L1 f1 => L = L1 ∧ f = f1 ∧ (0 ≤ r.toInt ∧ r.toInt ≤ 0) ∧ narrow .byte (.int r) = .int r) := by
  refine ci_of (by decide) (Nat.le_of_ble_eq_true rfl) (fun z hz hnm hC hR => ?_)
  have hC : Cx z E cJ0_coder_7d493 RJ0 1 0 0 0 := hC
  subst hz
  show V z E 1 0 0 L f 0 [(0, .ref (eK E a_0))] []
  refine v_getCS hC sf_J0_38 dJ0_coder_7d493_0 ?_
  refine v_if_eq_f hC dJ0_coder_7d493_3 (tgt := 13) (by decide) (by decide) ?_
  refine v_aload_n hC dJ0_coder_7d493_6 rfl ?_
  refine v_getSc hC ha_0 sf_J0_15 dJ0_coder_7d493_7 ?_
  refine v_goto hC dJ0_coder_7d493_10 (tgt := 14) (by decide) ?_
  exact hR _ _ _ _ _ _ _ dJ0_coder_7d493_14 rfl (Nat.le_of_ble_eq_true rfl) (Nat.le_of_ble_eq_true rfl) ⟨rfl, rfl, (by decide), rfl⟩
set_option maxRecDepth 100000 in
set_option maxHeartbeats 4000000 in
theorem p_J0_length_8abf5 {l : Launch} {E : Ez} {L : List Nat} {f : Nat → va_E} {T : Nat → va_E → Prop} {a_0 : Nat} (hW : WT T L f) (ha_0 : a_0 < 77) : CI l yJ0_length_8abf5 cJ0_length_8abf5 1 .int 1 0 0 E [.ref (eK E a_0)] L f (fun r L1 f1 => L = L1 ∧ f = f1 ∧ (0 ≤ r.toInt ∧ r.toInt ≤ 40) ∧ r.toInt = ((bytStr.getD a_0 []).length : Int)) := by
  refine ci_of (by decide) (Nat.le_of_ble_eq_true rfl) (fun z hz hnm hC hR => ?_)
  have hC : Cx z E cJ0_length_8abf5 RJ0 1 1 0 0 := hC
  subst hz
  show V z E 1 0 0 L f 0 [(0, .ref (eK E a_0))] []
  refine v_aload_n hC dJ0_length_8abf5_0 rfl ?_
  refine v_getSv hC ha_0 sf_J0_9 dJ0_length_8abf5_1 ?_
  obtain ⟨v_1, h_2⟩ : ∃ v9 : Int32, nI (bytStr.getD a_0 []).length = v9 := ⟨_, rfl⟩
  refine v_alenS hC ha_0 dJ0_length_8abf5_4 ?_
  have b_3 := len_v ha_0
  rw [h_2] at b_3 ⊢
  refine v_aload_n hC dJ0_length_8abf5_5 rfl ?_
  refine v_viS hC (rest := [.int v_1]) ha_0 rfl mi_J0_coder_7d493 ms_J0_coder_7d493 (p_J0_coder_7d493 hW ha_0) mx_J0_coder_7d493 ml_J0_335 (by decide) rfl (cells1 := 0) (slots1 := 0) (by decide) (by decide) (Nat.le_of_ble_eq_true rfl) (Nat.le_of_ble_eq_true rfl) rfl (Nat.le_of_ble_eq_true rfl) dJ0_length_8abf5_6 (fun r_4 L_5 f_6 h_7 => ?_)
  obtain ⟨rfl, rfl, b_8, nr_9⟩ := h_7
  obtain rfl : r_4 = 0 := Int32.toInt_inj.mp (by simp only [Int32.reduceToInt]; omega)
  refine v_ishr hC dJ0_length_8abf5_9 (sb_shr0 _) ?_
  exact hR _ _ _ _ _ _ _ dJ0_length_8abf5_10 rfl (Nat.le_of_ble_eq_true rfl) (Nat.le_of_ble_eq_true rfl) ⟨rfl, rfl, (by first | omega | (simp only [Int32.lt_iff_toInt_lt, Int32.le_iff_toInt_le, Int32.reduceToInt, ← Int32.toInt_inj, true_and, and_true, or_true, true_or, false_or, or_false, false_and, and_false, not_true_eq_false, not_false_eq_true] <;> omega)), (by first | omega | (simp only [Int32.lt_iff_toInt_lt, Int32.le_iff_toInt_le, Int32.reduceToInt, ← Int32.toInt_inj, true_and, and_true, or_true, true_or, false_or, or_false, false_and, and_false, not_true_eq_false, not_false_eq_true] <;> omega))⟩
set_option maxRecDepth 100000 in
set_option maxHeartbeats 4000000 in
theorem p_J0_isLatin1_aae02 {l : Launch} {E : Ez} {L : List Nat} {f : Nat → va_E} {T : Nat → va_E → Prop} {a_0 : Nat} (hW : WT T L f) (ha_0 : a_0 < 77) : CI l yJ0_isLatin1_aae02 cJ0_isLatin1_aae02 1 .boolean 0 0 0 E [.ref (eK E a_0)] L f (fun r L1 f1 => L = L1 ∧ f = f1 ∧ (1 ≤ r.toInt ∧ r.toInt ≤ 1)) := by
  refine ci_of (by decide) (Nat.le_of_ble_eq_true rfl) (fun z hz hnm hC hR => ?_)
  have hC : Cx z E cJ0_isLatin1_aae02 RJ0 1 0 0 0 := hC
  subst hz
  show V z E 1 0 0 L f 0 [(0, .ref (eK E a_0))] []
  refine v_getCS hC sf_J0_38 dJ0_isLatin1_aae02_0 ?_
  refine v_if_eq_f hC dJ0_isLatin1_aae02_3 (tgt := 17) (by decide) (by decide) ?_
  refine v_aload_n hC dJ0_isLatin1_aae02_6 rfl ?_
  refine v_getSc hC ha_0 sf_J0_15 dJ0_isLatin1_aae02_7 ?_
  refine v_if_ne_f hC dJ0_isLatin1_aae02_10 (tgt := 17) (by decide) (by decide) ?_
  refine v_iconst hC dJ0_isLatin1_aae02_13 (v := 1) (by decide) ?_
  refine v_goto hC dJ0_isLatin1_aae02_14 (tgt := 18) (by decide) ?_
  exact hR _ _ _ _ _ _ _ dJ0_isLatin1_aae02_18 rfl (Nat.le_of_ble_eq_true rfl) (Nat.le_of_ble_eq_true rfl) ⟨rfl, rfl, (by decide)⟩
set_option maxRecDepth 100000 in
set_option maxHeartbeats 4000000 in
theorem p_J3_checkIndex_8e157 {l : Launch} {E : Ez} {L : List Nat} {f : Nat → va_E} {T : Nat → va_E → Prop} {a_0 : Int32} {a_1 : Int32} (hW : WT T L f) (hlen : 0 ≤ a_0.toInt ∧ a_0.toInt < a_1.toInt) : CI l yJ3_checkIndex_8e157 cJ3_checkIndex_8e157 3 .int 0 0 0 E [.int a_0, .int a_1, .null] L f (fun r L1 f1 => L = L1 ∧ f = f1) := by
  refine ci_of (by decide) (Nat.le_of_ble_eq_true rfl) (fun z hz hnm hC hR => ?_)
  have hC : Cx z E cJ3_checkIndex_8e157 RJ3 3 0 0 0 := hC
  subst hz
  show V z E 3 0 0 L f 0 [(0, .int a_0), (1, .int a_1), (2, .null)] []
  refine v_iload_n hC dJ3_checkIndex_8e157_0 rfl ?_
  refine v_if_lt_f hC dJ3_checkIndex_8e157_1 (tgt := 9) (by decide) (by first | omega | (simp only [Int32.lt_iff_toInt_lt, Int32.le_iff_toInt_le, Int32.reduceToInt, ← Int32.toInt_inj, true_and, and_true, or_true, true_or, false_or, or_false, false_and, and_false, not_true_eq_false, not_false_eq_true] <;> omega)) ?_
  refine v_iload_n hC dJ3_checkIndex_8e157_4 rfl ?_
  refine v_iload_n hC dJ3_checkIndex_8e157_5 rfl ?_
  refine v_icmp_lt_t hC dJ3_checkIndex_8e157_6 (tgt := 16) (by decide) (by first | omega | (simp only [Int32.lt_iff_toInt_lt, Int32.le_iff_toInt_le, Int32.reduceToInt, ← Int32.toInt_inj, true_and, and_true, or_true, true_or, false_or, or_false, false_and, and_false, not_true_eq_false, not_false_eq_true] <;> omega)) ?_
  refine v_iload_n hC dJ3_checkIndex_8e157_16 rfl ?_
  exact hR _ _ _ _ _ _ _ dJ3_checkIndex_8e157_17 rfl (Nat.le_of_ble_eq_true rfl) (Nat.le_of_ble_eq_true rfl) ⟨rfl, rfl⟩
set_option maxRecDepth 100000 in
set_option maxHeartbeats 4000000 in
theorem p_J3_checkIndex_8e157_13 {l : Launch} {E : Ez} {L : List Nat} {f : Nat → va_E} {T : Nat → va_E → Prop} {a_0 : Int32} {a_1 : Int32} {a_2 : Nat} (hW : WT T L f) (hlen : 0 ≤ a_0.toInt ∧ a_0.toInt < a_1.toInt) : CI l yJ3_checkIndex_8e157 cJ3_checkIndex_8e157 3 .int 0 0 0 E [.int a_0, .int a_1, .ref a_2] L f (fun r L1 f1 => L = L1 ∧ f = f1) := by
  refine ci_of (by decide) (Nat.le_of_ble_eq_true rfl) (fun z hz hnm hC hR => ?_)
  have hC : Cx z E cJ3_checkIndex_8e157 RJ3 3 0 0 0 := hC
  subst hz
  show V z E 3 0 0 L f 0 [(0, .int a_0), (1, .int a_1), (2, .ref a_2)] []
  refine v_iload_n hC dJ3_checkIndex_8e157_0 rfl ?_
  refine v_if_lt_f hC dJ3_checkIndex_8e157_1 (tgt := 9) (by decide) (by first | omega | (simp only [Int32.lt_iff_toInt_lt, Int32.le_iff_toInt_le, Int32.reduceToInt, ← Int32.toInt_inj, true_and, and_true, or_true, true_or, false_or, or_false, false_and, and_false, not_true_eq_false, not_false_eq_true] <;> omega)) ?_
  refine v_iload_n hC dJ3_checkIndex_8e157_4 rfl ?_
  refine v_iload_n hC dJ3_checkIndex_8e157_5 rfl ?_
  refine v_icmp_lt_t hC dJ3_checkIndex_8e157_6 (tgt := 16) (by decide) (by first | omega | (simp only [Int32.lt_iff_toInt_lt, Int32.le_iff_toInt_le, Int32.reduceToInt, ← Int32.toInt_inj, true_and, and_true, or_true, true_or, false_or, or_false, false_and, and_false, not_true_eq_false, not_false_eq_true] <;> omega)) ?_
  refine v_iload_n hC dJ3_checkIndex_8e157_16 rfl ?_
  exact hR _ _ _ _ _ _ _ dJ3_checkIndex_8e157_17 rfl (Nat.le_of_ble_eq_true rfl) (Nat.le_of_ble_eq_true rfl) ⟨rfl, rfl⟩
set_option maxRecDepth 100000 in
set_option maxHeartbeats 4000000 in
theorem p_J0_checkIndex_df160 {l : Launch} {E : Ez} {L : List Nat} {f : Nat → va_E} {T : Nat → va_E → Prop} {a_0 : Int32} {a_1 : Int32} (hW : WT T L f) (hlen : 0 ≤ a_0.toInt ∧ a_0.toInt < a_1.toInt) : CV l yJ0_checkIndex_df160 cJ0_checkIndex_df160 2 1 0 0 E [.int a_0, .int a_1] L f (fun L1 f1 => L = L1 ∧ f = f1) := by
  refine cv_of (by decide) (Nat.le_of_ble_eq_true rfl) (fun z hz hnm hC hR => ?_)
  have hC : Cx z E cJ0_checkIndex_df160 RJ0 2 1 0 0 := hC
  subst hz
  show V z E 2 0 0 L f 0 [(0, .int a_0), (1, .int a_1)] []
  refine v_iload_n hC dJ0_checkIndex_df160_0 rfl ?_
  refine v_iload_n hC dJ0_checkIndex_df160_1 rfl ?_
  refine v_getSF hC sf_J0_1053 dJ0_checkIndex_df160_2 ?_ (fun o_1 => ?_)
  · refine v_si hC (rest := []) mt_J3_checkIndex_8e157 (p_J3_checkIndex_8e157 hW (by first | omega | (simp only [Int32.lt_iff_toInt_lt, Int32.le_iff_toInt_le, Int32.reduceToInt, ← Int32.toInt_inj, true_and, and_true, or_true, true_or, false_or, or_false, false_and, and_false, not_true_eq_false, not_false_eq_true] <;> omega))) mx_J3_checkIndex_8e157 ml_J0_1059 (by decide) rfl (cells1 := 0) (slots1 := 0) (by decide) (by decide) (Nat.le_of_ble_eq_true rfl) (Nat.le_of_ble_eq_true rfl) rfl (Nat.le_of_ble_eq_true rfl) dJ0_checkIndex_df160_5 (fun r_2 L_3 f_4 h_5 => ?_)
    obtain ⟨rfl, rfl⟩ := h_5
    refine v_pop hC dJ0_checkIndex_df160_8 rfl ?_
    exact hR _ _ _ _ _ _ dJ0_checkIndex_df160_9 (Nat.le_of_ble_eq_true rfl) (Nat.le_of_ble_eq_true rfl) ⟨rfl, rfl⟩
  · refine v_si hC (rest := []) mt_J3_checkIndex_8e157 (p_J3_checkIndex_8e157_13 hW (by first | omega | (simp only [Int32.lt_iff_toInt_lt, Int32.le_iff_toInt_le, Int32.reduceToInt, ← Int32.toInt_inj, true_and, and_true, or_true, true_or, false_or, or_false, false_and, and_false, not_true_eq_false, not_false_eq_true] <;> omega))) mx_J3_checkIndex_8e157 ml_J0_1059 (by decide) rfl (cells1 := 0) (slots1 := 0) (by decide) (by decide) (Nat.le_of_ble_eq_true rfl) (Nat.le_of_ble_eq_true rfl) rfl (Nat.le_of_ble_eq_true rfl) dJ0_checkIndex_df160_5 (fun r_8 L_9 f_10 h_11 => ?_)
    obtain ⟨rfl, rfl⟩ := h_11
    refine v_pop hC dJ0_checkIndex_df160_8 rfl ?_
    exact hR _ _ _ _ _ _ dJ0_checkIndex_df160_9 (Nat.le_of_ble_eq_true rfl) (Nat.le_of_ble_eq_true rfl) ⟨rfl, rfl⟩
set_option maxRecDepth 100000 in
set_option maxHeartbeats 4000000 in
theorem p_J1_charAt_3b067 {l : Launch} {E : Ez} {L : List Nat} {f : Nat → va_E} {T : Nat → va_E → Prop} {a_0 : Nat} {a_1 : Int32} (hW : WT T L f) (ha_0 : a_0 < 77) (hlen : 0 ≤ a_1.toInt ∧ a_1.toInt < ((bytStr.getD a_0 []).length : Int)) : CI l yJ1_charAt_3b067 cJ1_charAt_3b067 2 .char 2 0 0 E [.ref (eV E a_0), .int a_1] L f (fun r L1 f1 => L = L1 ∧ f = f1 ∧ r = (chv a_0 a_1) ∧ narrow .char (.int r) = .int r) := by
  refine ci_of (by decide) (Nat.le_of_ble_eq_true rfl) (fun z hz hnm hC hR => ?_)
  have hC : Cx z E cJ1_charAt_3b067 RJ1 2 2 0 0 := hC
  subst hz
  show V z E 2 0 0 L f 0 [(0, .ref (eV E a_0)), (1, .int a_1)] []
  refine v_iload_n hC dJ1_charAt_3b067_0 rfl ?_
  refine v_aload_n hC dJ1_charAt_3b067_1 rfl ?_
  obtain ⟨v_1, h_2⟩ : ∃ v9 : Int32, nI (bytStr.getD a_0 []).length = v9 := ⟨_, rfl⟩
  refine v_alenS hC ha_0 dJ1_charAt_3b067_2 ?_
  have b_3 := len_v ha_0
  rw [h_2] at b_3 ⊢
  refine v_sv hC (rest := []) mt_J0_checkIndex_df160 (p_J0_checkIndex_df160 hW (by first | omega | (simp only [Int32.lt_iff_toInt_lt, Int32.le_iff_toInt_le, Int32.reduceToInt, ← Int32.toInt_inj, true_and, and_true, or_true, true_or, false_or, or_false, false_and, and_false, not_true_eq_false, not_false_eq_true] <;> omega))) mx_J0_checkIndex_df160 ml_J1_9 (by decide) rfl (cells1 := 0) (slots1 := 0) (by decide) (by decide) (Nat.le_of_ble_eq_true rfl) (Nat.le_of_ble_eq_true rfl) rfl (Nat.le_of_ble_eq_true rfl) dJ1_charAt_3b067_3 (fun L_5 f_6 h_7 => ?_)
  obtain ⟨rfl, rfl⟩ := h_7
  refine v_aload_n hC dJ1_charAt_3b067_6 rfl ?_
  refine v_iload_n hC dJ1_charAt_3b067_7 rfl ?_
  obtain ⟨v_10, h_11⟩ : ∃ v9 : Int32, (bytStr.getD a_0 []).getD (a_1 : Int32).toNatClampNeg 0 = v9 := ⟨_, rfl⟩
  refine v_baldS hC ha_0 (vp_in_iff.mpr (by first | omega | (simp only [Int32.lt_iff_toInt_lt, Int32.le_iff_toInt_le, Int32.reduceToInt, ← Int32.toInt_inj, true_and, and_true, or_true, true_or, false_or, or_false, false_and, and_false, not_true_eq_false, not_false_eq_true] <;> omega))) h_11 dJ1_charAt_3b067_8 ?_
  refine v_sipush hC dJ1_charAt_3b067_9 (v := 255) (by decide) ?_
  obtain ⟨v_12, h_13⟩ : ∃ v9 : Int32, v_10 &&& 255 = v9 := ⟨_, rfl⟩
  refine v_iand hC dJ1_charAt_3b067_12 h_13 ?_
  have h_14 := and_v h_13 (by decide)
  try simp only [Int32.reduceToInt] at h_14
  obtain ⟨v_15, h_16⟩ : ∃ v9 : Int32, (v_12.toUInt32 % 65536).toInt32 = v9 := ⟨_, rfl⟩
  refine v_i2c hC dJ1_charAt_3b067_13 h_16 ?_
  exact hR _ _ _ _ _ _ _ dJ1_charAt_3b067_14 (by rw [← h_16]; exact pk_nc _) (Nat.le_of_ble_eq_true rfl) (Nat.le_of_ble_eq_true rfl) ⟨rfl, rfl, (by rw [← h_16, ← h_13, ← h_11]; rfl), (by rw [← h_16]; exact pk_nc _)⟩
set_option maxRecDepth 100000 in
set_option maxHeartbeats 4000000 in
theorem p_J0_charAt_5068e {l : Launch} {E : Ez} {L : List Nat} {f : Nat → va_E} {T : Nat → va_E → Prop} {a_0 : Nat} {a_1 : Int32} (hW : WT T L f) (ha_0 : a_0 < 77) (hlen : 0 ≤ a_1.toInt ∧ a_1.toInt < ((bytStr.getD a_0 []).length : Int)) : CI l yJ0_charAt_5068e cJ0_charAt_5068e 2 .char 3 0 0 E [.ref (eK E a_0), .int a_1] L f (fun r L1 f1 => L = L1 ∧ f = f1 ∧ r = (chv a_0 a_1) ∧ narrow .char (.int r) = .int r) := by
  refine ci_of (by decide) (Nat.le_of_ble_eq_true rfl) (fun z hz hnm hC hR => ?_)
  have hC : Cx z E cJ0_charAt_5068e RJ0 2 3 0 0 := hC
  subst hz
  show V z E 2 0 0 L f 0 [(0, .ref (eK E a_0)), (1, .int a_1)] []
  refine v_aload_n hC dJ0_charAt_5068e_0 rfl ?_
  refine v_viS hC (rest := []) ha_0 rfl mi_J0_isLatin1_aae02 ms_J0_isLatin1_aae02 (p_J0_isLatin1_aae02 hW ha_0) mx_J0_isLatin1_aae02 ml_J0_492 (by decide) rfl (cells1 := 0) (slots1 := 0) (by decide) (by decide) (Nat.le_of_ble_eq_true rfl) (Nat.le_of_ble_eq_true rfl) rfl (Nat.le_of_ble_eq_true rfl) dJ0_charAt_5068e_1 (fun r_1 L_2 f_3 h_4 => ?_)
  obtain ⟨rfl, rfl, b_5⟩ := h_4
  obtain rfl : r_1 = 1 := Int32.toInt_inj.mp (by simp only [Int32.reduceToInt]; omega)
  refine v_if_eq_f hC dJ0_charAt_5068e_4 (tgt := 16) (by decide) (by decide) ?_
  refine v_aload_n hC dJ0_charAt_5068e_7 rfl ?_
  refine v_getSv hC ha_0 sf_J0_9 dJ0_charAt_5068e_8 ?_
  refine v_iload_n hC dJ0_charAt_5068e_11 rfl ?_
  refine v_si hC (rest := []) mt_J1_charAt_3b067 (p_J1_charAt_3b067 hW ha_0 (by first | omega | (simp only [Int32.lt_iff_toInt_lt, Int32.le_iff_toInt_le, Int32.reduceToInt, ← Int32.toInt_inj, true_and, and_true, or_true, true_or, false_or, or_false, false_and, and_false, not_true_eq_false, not_false_eq_true] <;> omega))) mx_J1_charAt_3b067 ml_J0_495 (by decide) rfl (cells1 := 0) (slots1 := 0) (by decide) (by decide) (Nat.le_of_ble_eq_true rfl) (Nat.le_of_ble_eq_true rfl) rfl (Nat.le_of_ble_eq_true rfl) dJ0_charAt_5068e_12 (fun r_8 L_9 f_10 h_11 => ?_)
  obtain ⟨rfl, rfl, rfl, nr_12⟩ := h_11
  exact hR _ _ _ _ _ _ _ dJ0_charAt_5068e_15 nr_12 (Nat.le_of_ble_eq_true rfl) (Nat.le_of_ble_eq_true rfl) ⟨rfl, rfl, rfl, nr_12⟩
set_option maxRecDepth 100000 in
set_option maxHeartbeats 4000000 in
theorem p_X12_is {l : Launch} {E : Ez} {L : List Nat} {f : Nat → va_E} {T : Nat → va_E → Prop} {a_0 : Nat} {a_1 : Nat} {q : Nat → Nat} (hW : WT T L f) (k_0 : isM T L E a_0 q) (ha_1 : a_1 < 77) : CI l yX12_is cX12_is 4 .boolean 4 0 0 E [.ref a_0, .ref (eK E a_1)] L f (fun r L1 f1 => L = L1 ∧ f = f1 ∧ r = (iw (f a_0) (f (q 4)) a_1)) := by
  refine ci_of (by decide) (Nat.le_of_ble_eq_true rfl) (fun z hz hnm hC hR => ?_)
  have hC : Cx z E cX12_is RX12 4 4 0 0 := hC
  subst hz
  show V z E 4 0 0 L f 0 [(0, .ref a_0), (1, .ref (eK E a_1))] []
  obtain ⟨m_1, t_2, nq_21, k_3, k_4, k_5, k_6, k_7, k_8, k_9, k_10, k_11, k_12, k_13, k_14, k_15, k_16, k_17, k_18, k_19, k_20⟩ := id k_0
  refine v_aload_n hC dX12_is_0 rfl ?_
  obtain ⟨v_23, v_24, v_26, v_28, v_30, v_32, v_34, v_35, v_36, v_37, v_39, e_22, b_25, b_27, b_29, b_31, b_33, b_38, b_40⟩ := hW.at m_1 t_2
  refine v_vi hC (rest := []) m_1 e_22 rfl mi_X12_good ms_X12_good (p_X12_good hW k_0) mx_X12_good ml_X12_139 (by decide) rfl (cells1 := 0) (slots1 := 0) (by decide) (by decide) (Nat.le_of_ble_eq_true rfl) (Nat.le_of_ble_eq_true rfl) rfl (Nat.le_of_ble_eq_true rfl) dX12_is_1 (fun r_41 L_42 f_43 h_44 => ?_)
  obtain ⟨rfl, rfl, b_45, x_46⟩ := h_44
  have fe_49 : fld (f a_0) 12 = (v_35 : Int32).toInt := by rw [e_22]; rfl
  rw [fe_49] at x_46
  try simp only [Int32.reduceToInt, Int64.reduceToInt] at x_46
  refine v_if_eq hC dX12_is_4 (tgt := 35) (by decide) (fun h_50 => ?_) (fun h_50 => ?_)
  · simp only [Int32.lt_iff_toInt_lt, Int32.le_iff_toInt_le, Int32.reduceToInt, ← Int32.toInt_inj] at h_50
    refine v_iconst hC dX12_is_35 (v := 0) (by decide) ?_
    refine v_istore_n hC dX12_is_36 (by decide) (lv' := [(2, .int 0), (0, .ref a_0), (1, .ref (eK E a_1))]) rfl ?_
    refine v_iconst hC dX12_is_37 (v := 0) (by decide) ?_
    refine v_istore_n hC dX12_is_38 (by decide) (lv' := [(3, .int 0), (2, .int 0), (0, .ref a_0), (1, .ref (eK E a_1))]) rfl ?_
    have lp_178 : ∀ (n_179 : Nat) (i_173 : Int32) (b_175 : (0 ≤ i_173.toInt ∧ i_173.toInt ≤ 40)) (i_174 : Int32) (b_176 : (0 ≤ i_174.toInt ∧ i_174.toInt ≤ 1)) (cv_177 : IWI (f a_0) (f (q 4)) a_1 i_174 i_173) (hm_181 : 40 - i_173.toInt < (n_179 : Int)), V z E 4 0 0 L f 39 [(3, .int i_173), (2, .int i_174), (0, .ref a_0), (1, .ref (eK E a_1))] [] := by
      intro n_179
      induction n_179 with
      | zero =>
        intro i_173 b_175 i_174 b_176 cv_177 hm_181
        have bs_182 := cv_177.bs
        have fe_183 : fld (f a_0) 8 = (v_28 : Int32).toInt := by rw [e_22]; rfl
        have fe_184 : fld (f a_0) 9 = (v_30 : Int32).toInt := by rw [e_22]; rfl
        have fe_185 : fld (f a_0) 10 = (v_32 : Int32).toInt := by rw [e_22]; rfl
        have fe_186 : fld (f a_0) 12 = (v_35 : Int32).toInt := by rw [e_22]; rfl
        rw [fe_183, fe_184, fe_185, fe_186] at bs_182
        exfalso; omega
      | succ n_179 ih_180 =>
        intro i_173 b_175 i_174 b_176 cv_177 hm_181
        have bs_182 := cv_177.bs
        have fe_183 : fld (f a_0) 8 = (v_28 : Int32).toInt := by rw [e_22]; rfl
        have fe_184 : fld (f a_0) 9 = (v_30 : Int32).toInt := by rw [e_22]; rfl
        have fe_185 : fld (f a_0) 10 = (v_32 : Int32).toInt := by rw [e_22]; rfl
        have fe_186 : fld (f a_0) 12 = (v_35 : Int32).toInt := by rw [e_22]; rfl
        rw [fe_183, fe_184, fe_185, fe_186] at bs_182
        refine v_iload_n hC dX12_is_39 rfl ?_
        refine v_aload_n hC dX12_is_40 rfl ?_
        refine v_viS hC (rest := [.int i_173]) ha_1 rfl mi_J0_length_8abf5 ms_J0_length_8abf5 (p_J0_length_8abf5 hW ha_1) mx_J0_length_8abf5 ml_X12_143 (by decide) rfl (cells1 := 0) (slots1 := 0) (by decide) (by decide) (Nat.le_of_ble_eq_true rfl) (Nat.le_of_ble_eq_true rfl) rfl (Nat.le_of_ble_eq_true rfl) dX12_is_41 (fun r_187 L_188 f_189 h_190 => ?_)
        obtain ⟨rfl, rfl, b_191, x_192⟩ := h_190
        try simp only [Int32.reduceToInt, Int64.reduceToInt] at x_192
        refine v_icmp_ge hC dX12_is_44 (tgt := 82) (by decide) (fun h_195 => ?_) (fun h_195 => ?_)
        · simp only [Int32.lt_iff_toInt_lt, Int32.le_iff_toInt_le, Int32.reduceToInt, ← Int32.toInt_inj] at h_195
          refine v_iload_n hC dX12_is_82 rfl ?_
          exact hR _ _ _ _ _ _ _ dX12_is_83 (nar01 (by first | omega | (simp only [Int32.lt_iff_toInt_lt, Int32.le_iff_toInt_le, Int32.reduceToInt, ← Int32.toInt_inj, true_and, and_true, or_true, true_or, false_or, or_false, false_and, and_false, not_true_eq_false, not_false_eq_true] <;> omega))) (Nat.le_of_ble_eq_true rfl) (Nat.le_of_ble_eq_true rfl) ⟨rfl, rfl, (cv_177.fin (by first | (left; omega) | (right; omega)))⟩
        · simp only [Int32.lt_iff_toInt_lt, Int32.le_iff_toInt_le, Int32.reduceToInt, ← Int32.toInt_inj] at h_195
          refine v_iload_n hC dX12_is_47 rfl ?_
          refine v_if_eq hC dX12_is_48 (tgt := 82) (by decide) (fun h_196 => ?_) (fun h_196 => ?_)
          · simp only [Int32.lt_iff_toInt_lt, Int32.le_iff_toInt_le, Int32.reduceToInt, ← Int32.toInt_inj] at h_196
            refine v_iload_n hC dX12_is_82 rfl ?_
            exact hR _ _ _ _ _ _ _ dX12_is_83 (nar01 (by first | omega | (simp only [Int32.lt_iff_toInt_lt, Int32.le_iff_toInt_le, Int32.reduceToInt, ← Int32.toInt_inj, true_and, and_true, or_true, true_or, false_or, or_false, false_and, and_false, not_true_eq_false, not_false_eq_true] <;> omega))) (Nat.le_of_ble_eq_true rfl) (Nat.le_of_ble_eq_true rfl) ⟨rfl, rfl, (cv_177.fin (by first | (left; omega) | (right; omega)))⟩
          · simp only [Int32.lt_iff_toInt_lt, Int32.le_iff_toInt_le, Int32.reduceToInt, ← Int32.toInt_inj] at h_196
            refine v_aload_n hC dX12_is_51 rfl ?_
            refine v_get hC fl_X12_24 m_1 e_22 rfl dX12_is_52 ?_
            refine v_aload_n hC dX12_is_55 rfl ?_
            refine v_get hC fl_X12_117 m_1 e_22 rfl dX12_is_56 ?_
            refine v_iload_n hC dX12_is_59 rfl ?_
            obtain ⟨v_197, h_198⟩ : ∃ v9 : Int32, v_30 + i_173 = v9 := ⟨_, rfl⟩
            refine v_iadd hC dX12_is_60 h_198 ?_
            have h_199 := add_v h_198 (by first | omega | (simp only [Int32.lt_iff_toInt_lt, Int32.le_iff_toInt_le, Int32.reduceToInt, ← Int32.toInt_inj, true_and, and_true, or_true, true_or, false_or, or_false, false_and, and_false, not_true_eq_false, not_false_eq_true] <;> omega)) (by first | omega | (simp only [Int32.lt_iff_toInt_lt, Int32.le_iff_toInt_le, Int32.reduceToInt, ← Int32.toInt_inj, true_and, and_true, or_true, true_or, false_or, or_false, false_and, and_false, not_true_eq_false, not_false_eq_true] <;> omega))
            obtain ⟨m_200, t_201⟩ := id k_6
            obtain ⟨g_203, e_202, fit_204⟩ := hW.at m_200 t_201
            obtain ⟨v_205, h_206⟩ : ∃ v9 : Int32, g_203 (v_197 : Int32).toNatClampNeg = v9 := ⟨_, rfl⟩
            refine v_bald hC m_200 e_202 (vp_in_iff.mpr (by first | omega | (simp only [Int32.lt_iff_toInt_lt, Int32.le_iff_toInt_le, Int32.reduceToInt, ← Int32.toInt_inj, true_and, and_true, or_true, true_or, false_or, or_false, false_and, and_false, not_true_eq_false, not_false_eq_true] <;> omega))) h_206 dX12_is_61 ?_
            refine v_aload_n hC dX12_is_62 rfl ?_
            refine v_iload_n hC dX12_is_63 rfl ?_
            refine v_viS hC (rest := [.int v_205]) ha_1 rfl mi_J0_charAt_5068e ms_J0_charAt_5068e (p_J0_charAt_5068e hW ha_1 (by first | omega | (simp only [Int32.lt_iff_toInt_lt, Int32.le_iff_toInt_le, Int32.reduceToInt, ← Int32.toInt_inj, true_and, and_true, or_true, true_or, false_or, or_false, false_and, and_false, not_true_eq_false, not_false_eq_true] <;> omega))) mx_J0_charAt_5068e ml_X12_148 (by decide) rfl (cells1 := 0) (slots1 := 0) (by decide) (by decide) (Nat.le_of_ble_eq_true rfl) (Nat.le_of_ble_eq_true rfl) rfl (Nat.le_of_ble_eq_true rfl) dX12_is_64 (fun r_207 L_208 f_209 h_210 => ?_)
            obtain ⟨rfl, rfl, rfl, nr_211⟩ := h_210
            refine v_icmp_ne hC dX12_is_67 (tgt := 74) (by decide) (fun h_214 => ?_) (fun h_214 => ?_)
            · simp only [Int32.lt_iff_toInt_lt, Int32.le_iff_toInt_le, Int32.reduceToInt, ← Int32.toInt_inj] at h_214
              refine v_iconst hC dX12_is_74 (v := 0) (by decide) ?_
              refine v_istore_n hC dX12_is_75 (by decide) (lv' := [(2, .int 0), (3, .int i_173), (0, .ref a_0), (1, .ref (eK E a_1))]) rfl ?_
              obtain ⟨v_215, h_216⟩ : ∃ v9 : Int32, i_173 + Int32.ofInt 1 = v9 := ⟨_, rfl⟩
              have h_217 := add_v (b := 1) h_216 (by first | omega | (simp only [Int32.lt_iff_toInt_lt, Int32.le_iff_toInt_le, Int32.reduceToInt, ← Int32.toInt_inj, true_and, and_true, or_true, true_or, false_or, or_false, false_and, and_false, not_true_eq_false, not_false_eq_true] <;> omega)) (by first | omega | (simp only [Int32.lt_iff_toInt_lt, Int32.le_iff_toInt_le, Int32.reduceToInt, ← Int32.toInt_inj, true_and, and_true, or_true, true_or, false_or, or_false, false_and, and_false, not_true_eq_false, not_false_eq_true] <;> omega))
              simp only [Int32.reduceToInt] at h_217
              refine v_iinc hC dX12_is_76 (k := 1) rfl (v := v_215) h_216 (by decide) (lv' := [(3, .int v_215), (2, .int 0), (0, .ref a_0), (1, .ref (eK E a_1))]) rfl ?_
              refine v_goto hC dX12_is_79 (tgt := 39) (by decide) ?_
              refine v_pick [0, 1, 2, 3] rfl ?_
              have fe_218 : fld (f a_0) 9 = (v_30 : Int32).toInt := by rw [e_22]; rfl
              exact ih_180 v_215 (by first | omega | (simp only [Int32.lt_iff_toInt_lt, Int32.le_iff_toInt_le, Int32.reduceToInt, ← Int32.toInt_inj, true_and, and_true, or_true, true_or, false_or, or_false, false_and, and_false, not_true_eq_false, not_false_eq_true] <;> omega)) 0 (by decide) (cv_177.no (by omega) (by omega) (by omega) (fun q9 => h_214 (congrArg Int32.toInt ((bat_at (t := f (q 4)) e_202 h_206 (k := i_173) (F := fld (f a_0) 9) (by rw [fe_218]; omega) (by rw [fe_218]; omega) (by omega)).symm.trans q9)))) (by first | omega | (simp only [Int32.lt_iff_toInt_lt, Int32.le_iff_toInt_le, Int32.reduceToInt, ← Int32.toInt_inj, true_and, and_true, or_true, true_or, false_or, or_false, false_and, and_false, not_true_eq_false, not_false_eq_true] <;> omega))
            · simp only [Int32.lt_iff_toInt_lt, Int32.le_iff_toInt_le, Int32.reduceToInt, ← Int32.toInt_inj] at h_214
              refine v_iconst hC dX12_is_70 (v := 1) (by decide) ?_
              refine v_goto hC dX12_is_71 (tgt := 75) (by decide) ?_
              refine v_istore_n hC dX12_is_75 (by decide) (lv' := [(2, .int 1), (3, .int i_173), (0, .ref a_0), (1, .ref (eK E a_1))]) rfl ?_
              obtain ⟨v_219, h_220⟩ : ∃ v9 : Int32, i_173 + Int32.ofInt 1 = v9 := ⟨_, rfl⟩
              have h_221 := add_v (b := 1) h_220 (by first | omega | (simp only [Int32.lt_iff_toInt_lt, Int32.le_iff_toInt_le, Int32.reduceToInt, ← Int32.toInt_inj, true_and, and_true, or_true, true_or, false_or, or_false, false_and, and_false, not_true_eq_false, not_false_eq_true] <;> omega)) (by first | omega | (simp only [Int32.lt_iff_toInt_lt, Int32.le_iff_toInt_le, Int32.reduceToInt, ← Int32.toInt_inj, true_and, and_true, or_true, true_or, false_or, or_false, false_and, and_false, not_true_eq_false, not_false_eq_true] <;> omega))
              simp only [Int32.reduceToInt] at h_221
              refine v_iinc hC dX12_is_76 (k := 1) rfl (v := v_219) h_220 (by decide) (lv' := [(3, .int v_219), (2, .int 1), (0, .ref a_0), (1, .ref (eK E a_1))]) rfl ?_
              refine v_goto hC dX12_is_79 (tgt := 39) (by decide) ?_
              refine v_pick [0, 1, 2, 3] rfl ?_
              have fe_222 : fld (f a_0) 9 = (v_30 : Int32).toInt := by rw [e_22]; rfl
              exact ih_180 v_219 (by first | omega | (simp only [Int32.lt_iff_toInt_lt, Int32.le_iff_toInt_le, Int32.reduceToInt, ← Int32.toInt_inj, true_and, and_true, or_true, true_or, false_or, or_false, false_and, and_false, not_true_eq_false, not_false_eq_true] <;> omega)) 1 (by decide) (cv_177.yes (by omega) (by omega) (by omega) ((bat_at (t := f (q 4)) e_202 h_206 (k := i_173) (F := fld (f a_0) 9) (by rw [fe_222]; omega) (by rw [fe_222]; omega) (by omega)).trans (Int32.toInt_inj.mp (by omega)))) (by first | omega | (simp only [Int32.lt_iff_toInt_lt, Int32.le_iff_toInt_le, Int32.reduceToInt, ← Int32.toInt_inj, true_and, and_true, or_true, true_or, false_or, or_false, false_and, and_false, not_true_eq_false, not_false_eq_true] <;> omega))
    refine v_pick [0, 1, 2, 3] rfl ?_
    have fe_223 : fld (f a_0) 8 = (v_28 : Int32).toInt := by rw [e_22]; rfl
    have fe_224 : fld (f a_0) 9 = (v_30 : Int32).toInt := by rw [e_22]; rfl
    have fe_225 : fld (f a_0) 10 = (v_32 : Int32).toInt := by rw [e_22]; rfl
    have fe_226 : fld (f a_0) 12 = (v_35 : Int32).toInt := by rw [e_22]; rfl
    exact lp_178 42 0 (by decide) 0 (by decide) (IWI.s0 (by intro q9; rw [fe_223, fe_224, fe_225, fe_226] at q9; omega)) (by decide)
  · simp only [Int32.lt_iff_toInt_lt, Int32.le_iff_toInt_le, Int32.reduceToInt, ← Int32.toInt_inj] at h_50
    refine v_aload_n hC dX12_is_7 rfl ?_
    refine v_get hC fl_X12_120 m_1 e_22 rfl dX12_is_8 ?_
    refine v_iconst hC dX12_is_11 (v := 1) (by decide) ?_
    refine v_icmp_ne hC dX12_is_12 (tgt := 35) (by decide) (fun h_227 => ?_) (fun h_227 => ?_)
    · simp only [Int32.lt_iff_toInt_lt, Int32.le_iff_toInt_le, Int32.reduceToInt, ← Int32.toInt_inj] at h_227
      refine v_iconst hC dX12_is_35 (v := 0) (by decide) ?_
      refine v_istore_n hC dX12_is_36 (by decide) (lv' := [(2, .int 0), (0, .ref a_0), (1, .ref (eK E a_1))]) rfl ?_
      refine v_iconst hC dX12_is_37 (v := 0) (by decide) ?_
      refine v_istore_n hC dX12_is_38 (by decide) (lv' := [(3, .int 0), (2, .int 0), (0, .ref a_0), (1, .ref (eK E a_1))]) rfl ?_
      have lp_355 : ∀ (n_356 : Nat) (i_350 : Int32) (b_352 : (0 ≤ i_350.toInt ∧ i_350.toInt ≤ 40)) (i_351 : Int32) (b_353 : (0 ≤ i_351.toInt ∧ i_351.toInt ≤ 1)) (cv_354 : IWI (f a_0) (f (q 4)) a_1 i_351 i_350) (hm_358 : 40 - i_350.toInt < (n_356 : Int)), V z E 4 0 0 L f 39 [(3, .int i_350), (2, .int i_351), (0, .ref a_0), (1, .ref (eK E a_1))] [] := by
        intro n_356
        induction n_356 with
        | zero =>
          intro i_350 b_352 i_351 b_353 cv_354 hm_358
          have bs_359 := cv_354.bs
          have fe_360 : fld (f a_0) 8 = (v_28 : Int32).toInt := by rw [e_22]; rfl
          have fe_361 : fld (f a_0) 9 = (v_30 : Int32).toInt := by rw [e_22]; rfl
          have fe_362 : fld (f a_0) 10 = (v_32 : Int32).toInt := by rw [e_22]; rfl
          have fe_363 : fld (f a_0) 12 = (v_35 : Int32).toInt := by rw [e_22]; rfl
          rw [fe_360, fe_361, fe_362, fe_363] at bs_359
          exfalso; omega
        | succ n_356 ih_357 =>
          intro i_350 b_352 i_351 b_353 cv_354 hm_358
          have bs_359 := cv_354.bs
          have fe_360 : fld (f a_0) 8 = (v_28 : Int32).toInt := by rw [e_22]; rfl
          have fe_361 : fld (f a_0) 9 = (v_30 : Int32).toInt := by rw [e_22]; rfl
          have fe_362 : fld (f a_0) 10 = (v_32 : Int32).toInt := by rw [e_22]; rfl
          have fe_363 : fld (f a_0) 12 = (v_35 : Int32).toInt := by rw [e_22]; rfl
          rw [fe_360, fe_361, fe_362, fe_363] at bs_359
          refine v_iload_n hC dX12_is_39 rfl ?_
          refine v_aload_n hC dX12_is_40 rfl ?_
          refine v_viS hC (rest := [.int i_350]) ha_1 rfl mi_J0_length_8abf5 ms_J0_length_8abf5 (p_J0_length_8abf5 hW ha_1) mx_J0_length_8abf5 ml_X12_143 (by decide) rfl (cells1 := 0) (slots1 := 0) (by decide) (by decide) (Nat.le_of_ble_eq_true rfl) (Nat.le_of_ble_eq_true rfl) rfl (Nat.le_of_ble_eq_true rfl) dX12_is_41 (fun r_364 L_365 f_366 h_367 => ?_)
          obtain ⟨rfl, rfl, b_368, x_369⟩ := h_367
          try simp only [Int32.reduceToInt, Int64.reduceToInt] at x_369
          refine v_icmp_ge hC dX12_is_44 (tgt := 82) (by decide) (fun h_372 => ?_) (fun h_372 => ?_)
          · simp only [Int32.lt_iff_toInt_lt, Int32.le_iff_toInt_le, Int32.reduceToInt, ← Int32.toInt_inj] at h_372
            refine v_iload_n hC dX12_is_82 rfl ?_
            exact hR _ _ _ _ _ _ _ dX12_is_83 (nar01 (by first | omega | (simp only [Int32.lt_iff_toInt_lt, Int32.le_iff_toInt_le, Int32.reduceToInt, ← Int32.toInt_inj, true_and, and_true, or_true, true_or, false_or, or_false, false_and, and_false, not_true_eq_false, not_false_eq_true] <;> omega))) (Nat.le_of_ble_eq_true rfl) (Nat.le_of_ble_eq_true rfl) ⟨rfl, rfl, (cv_354.fin (by first | (left; omega) | (right; omega)))⟩
          · simp only [Int32.lt_iff_toInt_lt, Int32.le_iff_toInt_le, Int32.reduceToInt, ← Int32.toInt_inj] at h_372
            refine v_iload_n hC dX12_is_47 rfl ?_
            refine v_if_eq hC dX12_is_48 (tgt := 82) (by decide) (fun h_373 => ?_) (fun h_373 => ?_)
            · simp only [Int32.lt_iff_toInt_lt, Int32.le_iff_toInt_le, Int32.reduceToInt, ← Int32.toInt_inj] at h_373
              refine v_iload_n hC dX12_is_82 rfl ?_
              exact hR _ _ _ _ _ _ _ dX12_is_83 (nar01 (by first | omega | (simp only [Int32.lt_iff_toInt_lt, Int32.le_iff_toInt_le, Int32.reduceToInt, ← Int32.toInt_inj, true_and, and_true, or_true, true_or, false_or, or_false, false_and, and_false, not_true_eq_false, not_false_eq_true] <;> omega))) (Nat.le_of_ble_eq_true rfl) (Nat.le_of_ble_eq_true rfl) ⟨rfl, rfl, (cv_354.fin (by first | (left; omega) | (right; omega)))⟩
            · simp only [Int32.lt_iff_toInt_lt, Int32.le_iff_toInt_le, Int32.reduceToInt, ← Int32.toInt_inj] at h_373
              refine v_aload_n hC dX12_is_51 rfl ?_
              refine v_get hC fl_X12_24 m_1 e_22 rfl dX12_is_52 ?_
              refine v_aload_n hC dX12_is_55 rfl ?_
              refine v_get hC fl_X12_117 m_1 e_22 rfl dX12_is_56 ?_
              refine v_iload_n hC dX12_is_59 rfl ?_
              obtain ⟨v_374, h_375⟩ : ∃ v9 : Int32, v_30 + i_350 = v9 := ⟨_, rfl⟩
              refine v_iadd hC dX12_is_60 h_375 ?_
              have h_376 := add_v h_375 (by first | omega | (simp only [Int32.lt_iff_toInt_lt, Int32.le_iff_toInt_le, Int32.reduceToInt, ← Int32.toInt_inj, true_and, and_true, or_true, true_or, false_or, or_false, false_and, and_false, not_true_eq_false, not_false_eq_true] <;> omega)) (by first | omega | (simp only [Int32.lt_iff_toInt_lt, Int32.le_iff_toInt_le, Int32.reduceToInt, ← Int32.toInt_inj, true_and, and_true, or_true, true_or, false_or, or_false, false_and, and_false, not_true_eq_false, not_false_eq_true] <;> omega))
              obtain ⟨m_377, t_378⟩ := id k_6
              obtain ⟨g_380, e_379, fit_381⟩ := hW.at m_377 t_378
              obtain ⟨v_382, h_383⟩ : ∃ v9 : Int32, g_380 (v_374 : Int32).toNatClampNeg = v9 := ⟨_, rfl⟩
              refine v_bald hC m_377 e_379 (vp_in_iff.mpr (by first | omega | (simp only [Int32.lt_iff_toInt_lt, Int32.le_iff_toInt_le, Int32.reduceToInt, ← Int32.toInt_inj, true_and, and_true, or_true, true_or, false_or, or_false, false_and, and_false, not_true_eq_false, not_false_eq_true] <;> omega))) h_383 dX12_is_61 ?_
              refine v_aload_n hC dX12_is_62 rfl ?_
              refine v_iload_n hC dX12_is_63 rfl ?_
              refine v_viS hC (rest := [.int v_382]) ha_1 rfl mi_J0_charAt_5068e ms_J0_charAt_5068e (p_J0_charAt_5068e hW ha_1 (by first | omega | (simp only [Int32.lt_iff_toInt_lt, Int32.le_iff_toInt_le, Int32.reduceToInt, ← Int32.toInt_inj, true_and, and_true, or_true, true_or, false_or, or_false, false_and, and_false, not_true_eq_false, not_false_eq_true] <;> omega))) mx_J0_charAt_5068e ml_X12_148 (by decide) rfl (cells1 := 0) (slots1 := 0) (by decide) (by decide) (Nat.le_of_ble_eq_true rfl) (Nat.le_of_ble_eq_true rfl) rfl (Nat.le_of_ble_eq_true rfl) dX12_is_64 (fun r_384 L_385 f_386 h_387 => ?_)
              obtain ⟨rfl, rfl, rfl, nr_388⟩ := h_387
              refine v_icmp_ne hC dX12_is_67 (tgt := 74) (by decide) (fun h_391 => ?_) (fun h_391 => ?_)
              · simp only [Int32.lt_iff_toInt_lt, Int32.le_iff_toInt_le, Int32.reduceToInt, ← Int32.toInt_inj] at h_391
                refine v_iconst hC dX12_is_74 (v := 0) (by decide) ?_
                refine v_istore_n hC dX12_is_75 (by decide) (lv' := [(2, .int 0), (3, .int i_350), (0, .ref a_0), (1, .ref (eK E a_1))]) rfl ?_
                obtain ⟨v_392, h_393⟩ : ∃ v9 : Int32, i_350 + Int32.ofInt 1 = v9 := ⟨_, rfl⟩
                have h_394 := add_v (b := 1) h_393 (by first | omega | (simp only [Int32.lt_iff_toInt_lt, Int32.le_iff_toInt_le, Int32.reduceToInt, ← Int32.toInt_inj, true_and, and_true, or_true, true_or, false_or, or_false, false_and, and_false, not_true_eq_false, not_false_eq_true] <;> omega)) (by first | omega | (simp only [Int32.lt_iff_toInt_lt, Int32.le_iff_toInt_le, Int32.reduceToInt, ← Int32.toInt_inj, true_and, and_true, or_true, true_or, false_or, or_false, false_and, and_false, not_true_eq_false, not_false_eq_true] <;> omega))
                simp only [Int32.reduceToInt] at h_394
                refine v_iinc hC dX12_is_76 (k := 1) rfl (v := v_392) h_393 (by decide) (lv' := [(3, .int v_392), (2, .int 0), (0, .ref a_0), (1, .ref (eK E a_1))]) rfl ?_
                refine v_goto hC dX12_is_79 (tgt := 39) (by decide) ?_
                refine v_pick [0, 1, 2, 3] rfl ?_
                have fe_395 : fld (f a_0) 9 = (v_30 : Int32).toInt := by rw [e_22]; rfl
                exact ih_357 v_392 (by first | omega | (simp only [Int32.lt_iff_toInt_lt, Int32.le_iff_toInt_le, Int32.reduceToInt, ← Int32.toInt_inj, true_and, and_true, or_true, true_or, false_or, or_false, false_and, and_false, not_true_eq_false, not_false_eq_true] <;> omega)) 0 (by decide) (cv_354.no (by omega) (by omega) (by omega) (fun q9 => h_391 (congrArg Int32.toInt ((bat_at (t := f (q 4)) e_379 h_383 (k := i_350) (F := fld (f a_0) 9) (by rw [fe_395]; omega) (by rw [fe_395]; omega) (by omega)).symm.trans q9)))) (by first | omega | (simp only [Int32.lt_iff_toInt_lt, Int32.le_iff_toInt_le, Int32.reduceToInt, ← Int32.toInt_inj, true_and, and_true, or_true, true_or, false_or, or_false, false_and, and_false, not_true_eq_false, not_false_eq_true] <;> omega))
              · simp only [Int32.lt_iff_toInt_lt, Int32.le_iff_toInt_le, Int32.reduceToInt, ← Int32.toInt_inj] at h_391
                refine v_iconst hC dX12_is_70 (v := 1) (by decide) ?_
                refine v_goto hC dX12_is_71 (tgt := 75) (by decide) ?_
                refine v_istore_n hC dX12_is_75 (by decide) (lv' := [(2, .int 1), (3, .int i_350), (0, .ref a_0), (1, .ref (eK E a_1))]) rfl ?_
                obtain ⟨v_396, h_397⟩ : ∃ v9 : Int32, i_350 + Int32.ofInt 1 = v9 := ⟨_, rfl⟩
                have h_398 := add_v (b := 1) h_397 (by first | omega | (simp only [Int32.lt_iff_toInt_lt, Int32.le_iff_toInt_le, Int32.reduceToInt, ← Int32.toInt_inj, true_and, and_true, or_true, true_or, false_or, or_false, false_and, and_false, not_true_eq_false, not_false_eq_true] <;> omega)) (by first | omega | (simp only [Int32.lt_iff_toInt_lt, Int32.le_iff_toInt_le, Int32.reduceToInt, ← Int32.toInt_inj, true_and, and_true, or_true, true_or, false_or, or_false, false_and, and_false, not_true_eq_false, not_false_eq_true] <;> omega))
                simp only [Int32.reduceToInt] at h_398
                refine v_iinc hC dX12_is_76 (k := 1) rfl (v := v_396) h_397 (by decide) (lv' := [(3, .int v_396), (2, .int 1), (0, .ref a_0), (1, .ref (eK E a_1))]) rfl ?_
                refine v_goto hC dX12_is_79 (tgt := 39) (by decide) ?_
                refine v_pick [0, 1, 2, 3] rfl ?_
                have fe_399 : fld (f a_0) 9 = (v_30 : Int32).toInt := by rw [e_22]; rfl
                exact ih_357 v_396 (by first | omega | (simp only [Int32.lt_iff_toInt_lt, Int32.le_iff_toInt_le, Int32.reduceToInt, ← Int32.toInt_inj, true_and, and_true, or_true, true_or, false_or, or_false, false_and, and_false, not_true_eq_false, not_false_eq_true] <;> omega)) 1 (by decide) (cv_354.yes (by omega) (by omega) (by omega) ((bat_at (t := f (q 4)) e_379 h_383 (k := i_350) (F := fld (f a_0) 9) (by rw [fe_399]; omega) (by rw [fe_399]; omega) (by omega)).trans (Int32.toInt_inj.mp (by omega)))) (by first | omega | (simp only [Int32.lt_iff_toInt_lt, Int32.le_iff_toInt_le, Int32.reduceToInt, ← Int32.toInt_inj, true_and, and_true, or_true, true_or, false_or, or_false, false_and, and_false, not_true_eq_false, not_false_eq_true] <;> omega))
      refine v_pick [0, 1, 2, 3] rfl ?_
      have fe_400 : fld (f a_0) 8 = (v_28 : Int32).toInt := by rw [e_22]; rfl
      have fe_401 : fld (f a_0) 9 = (v_30 : Int32).toInt := by rw [e_22]; rfl
      have fe_402 : fld (f a_0) 10 = (v_32 : Int32).toInt := by rw [e_22]; rfl
      have fe_403 : fld (f a_0) 12 = (v_35 : Int32).toInt := by rw [e_22]; rfl
      exact lp_355 42 0 (by decide) 0 (by decide) (IWI.s0 (by intro q9; rw [fe_400, fe_401, fe_402, fe_403] at q9; omega)) (by decide)
    · simp only [Int32.lt_iff_toInt_lt, Int32.le_iff_toInt_le, Int32.reduceToInt, ← Int32.toInt_inj] at h_227
      refine v_aload_n hC dX12_is_15 rfl ?_
      refine v_get hC fl_X12_108 m_1 e_22 rfl dX12_is_16 ?_
      refine v_aload_n hC dX12_is_19 rfl ?_
      refine v_get hC fl_X12_117 m_1 e_22 rfl dX12_is_20 ?_
      obtain ⟨v_404, h_405⟩ : ∃ v9 : Int32, v_28 - v_30 = v9 := ⟨_, rfl⟩
      refine v_isub hC dX12_is_23 h_405 ?_
      have h_406 := sub_v h_405 (by first | omega | (simp only [Int32.lt_iff_toInt_lt, Int32.le_iff_toInt_le, Int32.reduceToInt, ← Int32.toInt_inj, true_and, and_true, or_true, true_or, false_or, or_false, false_and, and_false, not_true_eq_false, not_false_eq_true] <;> omega)) (by first | omega | (simp only [Int32.lt_iff_toInt_lt, Int32.le_iff_toInt_le, Int32.reduceToInt, ← Int32.toInt_inj, true_and, and_true, or_true, true_or, false_or, or_false, false_and, and_false, not_true_eq_false, not_false_eq_true] <;> omega))
      refine v_aload_n hC dX12_is_24 rfl ?_
      refine v_viS hC (rest := [.int v_404]) ha_1 rfl mi_J0_length_8abf5 ms_J0_length_8abf5 (p_J0_length_8abf5 hW ha_1) mx_J0_length_8abf5 ml_X12_143 (by decide) rfl (cells1 := 0) (slots1 := 0) (by decide) (by decide) (Nat.le_of_ble_eq_true rfl) (Nat.le_of_ble_eq_true rfl) rfl (Nat.le_of_ble_eq_true rfl) dX12_is_25 (fun r_407 L_408 f_409 h_410 => ?_)
      obtain ⟨rfl, rfl, b_411, x_412⟩ := h_410
      try simp only [Int32.reduceToInt, Int64.reduceToInt] at x_412
      refine v_icmp_ne hC dX12_is_28 (tgt := 35) (by decide) (fun h_415 => ?_) (fun h_415 => ?_)
      · simp only [Int32.lt_iff_toInt_lt, Int32.le_iff_toInt_le, Int32.reduceToInt, ← Int32.toInt_inj] at h_415
        refine v_iconst hC dX12_is_35 (v := 0) (by decide) ?_
        refine v_istore_n hC dX12_is_36 (by decide) (lv' := [(2, .int 0), (0, .ref a_0), (1, .ref (eK E a_1))]) rfl ?_
        refine v_iconst hC dX12_is_37 (v := 0) (by decide) ?_
        refine v_istore_n hC dX12_is_38 (by decide) (lv' := [(3, .int 0), (2, .int 0), (0, .ref a_0), (1, .ref (eK E a_1))]) rfl ?_
        have lp_543 : ∀ (n_544 : Nat) (i_538 : Int32) (b_540 : (0 ≤ i_538.toInt ∧ i_538.toInt ≤ 40)) (i_539 : Int32) (b_541 : (0 ≤ i_539.toInt ∧ i_539.toInt ≤ 1)) (cv_542 : IWI (f a_0) (f (q 4)) a_1 i_539 i_538) (hm_546 : 40 - i_538.toInt < (n_544 : Int)), V z E 4 0 0 L f 39 [(3, .int i_538), (2, .int i_539), (0, .ref a_0), (1, .ref (eK E a_1))] [] := by
          intro n_544
          induction n_544 with
          | zero =>
            intro i_538 b_540 i_539 b_541 cv_542 hm_546
            have bs_547 := cv_542.bs
            have fe_548 : fld (f a_0) 8 = (v_28 : Int32).toInt := by rw [e_22]; rfl
            have fe_549 : fld (f a_0) 9 = (v_30 : Int32).toInt := by rw [e_22]; rfl
            have fe_550 : fld (f a_0) 10 = (v_32 : Int32).toInt := by rw [e_22]; rfl
            have fe_551 : fld (f a_0) 12 = (v_35 : Int32).toInt := by rw [e_22]; rfl
            rw [fe_548, fe_549, fe_550, fe_551] at bs_547
            exfalso; omega
          | succ n_544 ih_545 =>
            intro i_538 b_540 i_539 b_541 cv_542 hm_546
            have bs_547 := cv_542.bs
            have fe_548 : fld (f a_0) 8 = (v_28 : Int32).toInt := by rw [e_22]; rfl
            have fe_549 : fld (f a_0) 9 = (v_30 : Int32).toInt := by rw [e_22]; rfl
            have fe_550 : fld (f a_0) 10 = (v_32 : Int32).toInt := by rw [e_22]; rfl
            have fe_551 : fld (f a_0) 12 = (v_35 : Int32).toInt := by rw [e_22]; rfl
            rw [fe_548, fe_549, fe_550, fe_551] at bs_547
            refine v_iload_n hC dX12_is_39 rfl ?_
            refine v_aload_n hC dX12_is_40 rfl ?_
            refine v_viS hC (rest := [.int i_538]) ha_1 rfl mi_J0_length_8abf5 ms_J0_length_8abf5 (p_J0_length_8abf5 hW ha_1) mx_J0_length_8abf5 ml_X12_143 (by decide) rfl (cells1 := 0) (slots1 := 0) (by decide) (by decide) (Nat.le_of_ble_eq_true rfl) (Nat.le_of_ble_eq_true rfl) rfl (Nat.le_of_ble_eq_true rfl) dX12_is_41 (fun r_552 L_553 f_554 h_555 => ?_)
            obtain ⟨rfl, rfl, b_556, x_557⟩ := h_555
            try simp only [Int32.reduceToInt, Int64.reduceToInt] at x_557
            refine v_icmp_ge hC dX12_is_44 (tgt := 82) (by decide) (fun h_560 => ?_) (fun h_560 => ?_)
            · simp only [Int32.lt_iff_toInt_lt, Int32.le_iff_toInt_le, Int32.reduceToInt, ← Int32.toInt_inj] at h_560
              refine v_iload_n hC dX12_is_82 rfl ?_
              exact hR _ _ _ _ _ _ _ dX12_is_83 (nar01 (by first | omega | (simp only [Int32.lt_iff_toInt_lt, Int32.le_iff_toInt_le, Int32.reduceToInt, ← Int32.toInt_inj, true_and, and_true, or_true, true_or, false_or, or_false, false_and, and_false, not_true_eq_false, not_false_eq_true] <;> omega))) (Nat.le_of_ble_eq_true rfl) (Nat.le_of_ble_eq_true rfl) ⟨rfl, rfl, (cv_542.fin (by first | (left; omega) | (right; omega)))⟩
            · simp only [Int32.lt_iff_toInt_lt, Int32.le_iff_toInt_le, Int32.reduceToInt, ← Int32.toInt_inj] at h_560
              refine v_iload_n hC dX12_is_47 rfl ?_
              refine v_if_eq hC dX12_is_48 (tgt := 82) (by decide) (fun h_561 => ?_) (fun h_561 => ?_)
              · simp only [Int32.lt_iff_toInt_lt, Int32.le_iff_toInt_le, Int32.reduceToInt, ← Int32.toInt_inj] at h_561
                refine v_iload_n hC dX12_is_82 rfl ?_
                exact hR _ _ _ _ _ _ _ dX12_is_83 (nar01 (by first | omega | (simp only [Int32.lt_iff_toInt_lt, Int32.le_iff_toInt_le, Int32.reduceToInt, ← Int32.toInt_inj, true_and, and_true, or_true, true_or, false_or, or_false, false_and, and_false, not_true_eq_false, not_false_eq_true] <;> omega))) (Nat.le_of_ble_eq_true rfl) (Nat.le_of_ble_eq_true rfl) ⟨rfl, rfl, (cv_542.fin (by first | (left; omega) | (right; omega)))⟩
              · simp only [Int32.lt_iff_toInt_lt, Int32.le_iff_toInt_le, Int32.reduceToInt, ← Int32.toInt_inj] at h_561
                refine v_aload_n hC dX12_is_51 rfl ?_
                refine v_get hC fl_X12_24 m_1 e_22 rfl dX12_is_52 ?_
                refine v_aload_n hC dX12_is_55 rfl ?_
                refine v_get hC fl_X12_117 m_1 e_22 rfl dX12_is_56 ?_
                refine v_iload_n hC dX12_is_59 rfl ?_
                obtain ⟨v_562, h_563⟩ : ∃ v9 : Int32, v_30 + i_538 = v9 := ⟨_, rfl⟩
                refine v_iadd hC dX12_is_60 h_563 ?_
                have h_564 := add_v h_563 (by first | omega | (simp only [Int32.lt_iff_toInt_lt, Int32.le_iff_toInt_le, Int32.reduceToInt, ← Int32.toInt_inj, true_and, and_true, or_true, true_or, false_or, or_false, false_and, and_false, not_true_eq_false, not_false_eq_true] <;> omega)) (by first | omega | (simp only [Int32.lt_iff_toInt_lt, Int32.le_iff_toInt_le, Int32.reduceToInt, ← Int32.toInt_inj, true_and, and_true, or_true, true_or, false_or, or_false, false_and, and_false, not_true_eq_false, not_false_eq_true] <;> omega))
                obtain ⟨m_565, t_566⟩ := id k_6
                obtain ⟨g_568, e_567, fit_569⟩ := hW.at m_565 t_566
                obtain ⟨v_570, h_571⟩ : ∃ v9 : Int32, g_568 (v_562 : Int32).toNatClampNeg = v9 := ⟨_, rfl⟩
                refine v_bald hC m_565 e_567 (vp_in_iff.mpr (by first | omega | (simp only [Int32.lt_iff_toInt_lt, Int32.le_iff_toInt_le, Int32.reduceToInt, ← Int32.toInt_inj, true_and, and_true, or_true, true_or, false_or, or_false, false_and, and_false, not_true_eq_false, not_false_eq_true] <;> omega))) h_571 dX12_is_61 ?_
                refine v_aload_n hC dX12_is_62 rfl ?_
                refine v_iload_n hC dX12_is_63 rfl ?_
                refine v_viS hC (rest := [.int v_570]) ha_1 rfl mi_J0_charAt_5068e ms_J0_charAt_5068e (p_J0_charAt_5068e hW ha_1 (by first | omega | (simp only [Int32.lt_iff_toInt_lt, Int32.le_iff_toInt_le, Int32.reduceToInt, ← Int32.toInt_inj, true_and, and_true, or_true, true_or, false_or, or_false, false_and, and_false, not_true_eq_false, not_false_eq_true] <;> omega))) mx_J0_charAt_5068e ml_X12_148 (by decide) rfl (cells1 := 0) (slots1 := 0) (by decide) (by decide) (Nat.le_of_ble_eq_true rfl) (Nat.le_of_ble_eq_true rfl) rfl (Nat.le_of_ble_eq_true rfl) dX12_is_64 (fun r_572 L_573 f_574 h_575 => ?_)
                obtain ⟨rfl, rfl, rfl, nr_576⟩ := h_575
                refine v_icmp_ne hC dX12_is_67 (tgt := 74) (by decide) (fun h_579 => ?_) (fun h_579 => ?_)
                · simp only [Int32.lt_iff_toInt_lt, Int32.le_iff_toInt_le, Int32.reduceToInt, ← Int32.toInt_inj] at h_579
                  refine v_iconst hC dX12_is_74 (v := 0) (by decide) ?_
                  refine v_istore_n hC dX12_is_75 (by decide) (lv' := [(2, .int 0), (3, .int i_538), (0, .ref a_0), (1, .ref (eK E a_1))]) rfl ?_
                  obtain ⟨v_580, h_581⟩ : ∃ v9 : Int32, i_538 + Int32.ofInt 1 = v9 := ⟨_, rfl⟩
                  have h_582 := add_v (b := 1) h_581 (by first | omega | (simp only [Int32.lt_iff_toInt_lt, Int32.le_iff_toInt_le, Int32.reduceToInt, ← Int32.toInt_inj, true_and, and_true, or_true, true_or, false_or, or_false, false_and, and_false, not_true_eq_false, not_false_eq_true] <;> omega)) (by first | omega | (simp only [Int32.lt_iff_toInt_lt, Int32.le_iff_toInt_le, Int32.reduceToInt, ← Int32.toInt_inj, true_and, and_true, or_true, true_or, false_or, or_false, false_and, and_false, not_true_eq_false, not_false_eq_true] <;> omega))
                  simp only [Int32.reduceToInt] at h_582
                  refine v_iinc hC dX12_is_76 (k := 1) rfl (v := v_580) h_581 (by decide) (lv' := [(3, .int v_580), (2, .int 0), (0, .ref a_0), (1, .ref (eK E a_1))]) rfl ?_
                  refine v_goto hC dX12_is_79 (tgt := 39) (by decide) ?_
                  refine v_pick [0, 1, 2, 3] rfl ?_
                  have fe_583 : fld (f a_0) 9 = (v_30 : Int32).toInt := by rw [e_22]; rfl
                  exact ih_545 v_580 (by first | omega | (simp only [Int32.lt_iff_toInt_lt, Int32.le_iff_toInt_le, Int32.reduceToInt, ← Int32.toInt_inj, true_and, and_true, or_true, true_or, false_or, or_false, false_and, and_false, not_true_eq_false, not_false_eq_true] <;> omega)) 0 (by decide) (cv_542.no (by omega) (by omega) (by omega) (fun q9 => h_579 (congrArg Int32.toInt ((bat_at (t := f (q 4)) e_567 h_571 (k := i_538) (F := fld (f a_0) 9) (by rw [fe_583]; omega) (by rw [fe_583]; omega) (by omega)).symm.trans q9)))) (by first | omega | (simp only [Int32.lt_iff_toInt_lt, Int32.le_iff_toInt_le, Int32.reduceToInt, ← Int32.toInt_inj, true_and, and_true, or_true, true_or, false_or, or_false, false_and, and_false, not_true_eq_false, not_false_eq_true] <;> omega))
                · simp only [Int32.lt_iff_toInt_lt, Int32.le_iff_toInt_le, Int32.reduceToInt, ← Int32.toInt_inj] at h_579
                  refine v_iconst hC dX12_is_70 (v := 1) (by decide) ?_
                  refine v_goto hC dX12_is_71 (tgt := 75) (by decide) ?_
                  refine v_istore_n hC dX12_is_75 (by decide) (lv' := [(2, .int 1), (3, .int i_538), (0, .ref a_0), (1, .ref (eK E a_1))]) rfl ?_
                  obtain ⟨v_584, h_585⟩ : ∃ v9 : Int32, i_538 + Int32.ofInt 1 = v9 := ⟨_, rfl⟩
                  have h_586 := add_v (b := 1) h_585 (by first | omega | (simp only [Int32.lt_iff_toInt_lt, Int32.le_iff_toInt_le, Int32.reduceToInt, ← Int32.toInt_inj, true_and, and_true, or_true, true_or, false_or, or_false, false_and, and_false, not_true_eq_false, not_false_eq_true] <;> omega)) (by first | omega | (simp only [Int32.lt_iff_toInt_lt, Int32.le_iff_toInt_le, Int32.reduceToInt, ← Int32.toInt_inj, true_and, and_true, or_true, true_or, false_or, or_false, false_and, and_false, not_true_eq_false, not_false_eq_true] <;> omega))
                  simp only [Int32.reduceToInt] at h_586
                  refine v_iinc hC dX12_is_76 (k := 1) rfl (v := v_584) h_585 (by decide) (lv' := [(3, .int v_584), (2, .int 1), (0, .ref a_0), (1, .ref (eK E a_1))]) rfl ?_
                  refine v_goto hC dX12_is_79 (tgt := 39) (by decide) ?_
                  refine v_pick [0, 1, 2, 3] rfl ?_
                  have fe_587 : fld (f a_0) 9 = (v_30 : Int32).toInt := by rw [e_22]; rfl
                  exact ih_545 v_584 (by first | omega | (simp only [Int32.lt_iff_toInt_lt, Int32.le_iff_toInt_le, Int32.reduceToInt, ← Int32.toInt_inj, true_and, and_true, or_true, true_or, false_or, or_false, false_and, and_false, not_true_eq_false, not_false_eq_true] <;> omega)) 1 (by decide) (cv_542.yes (by omega) (by omega) (by omega) ((bat_at (t := f (q 4)) e_567 h_571 (k := i_538) (F := fld (f a_0) 9) (by rw [fe_587]; omega) (by rw [fe_587]; omega) (by omega)).trans (Int32.toInt_inj.mp (by omega)))) (by first | omega | (simp only [Int32.lt_iff_toInt_lt, Int32.le_iff_toInt_le, Int32.reduceToInt, ← Int32.toInt_inj, true_and, and_true, or_true, true_or, false_or, or_false, false_and, and_false, not_true_eq_false, not_false_eq_true] <;> omega))
        refine v_pick [0, 1, 2, 3] rfl ?_
        have fe_588 : fld (f a_0) 8 = (v_28 : Int32).toInt := by rw [e_22]; rfl
        have fe_589 : fld (f a_0) 9 = (v_30 : Int32).toInt := by rw [e_22]; rfl
        have fe_590 : fld (f a_0) 10 = (v_32 : Int32).toInt := by rw [e_22]; rfl
        have fe_591 : fld (f a_0) 12 = (v_35 : Int32).toInt := by rw [e_22]; rfl
        exact lp_543 42 0 (by decide) 0 (by decide) (IWI.s0 (by intro q9; rw [fe_588, fe_589, fe_590, fe_591] at q9; omega)) (by decide)
      · simp only [Int32.lt_iff_toInt_lt, Int32.le_iff_toInt_le, Int32.reduceToInt, ← Int32.toInt_inj] at h_415
        refine v_iconst hC dX12_is_31 (v := 1) (by decide) ?_
        refine v_goto hC dX12_is_32 (tgt := 36) (by decide) ?_
        refine v_istore_n hC dX12_is_36 (by decide) (lv' := [(2, .int 1), (0, .ref a_0), (1, .ref (eK E a_1))]) rfl ?_
        refine v_iconst hC dX12_is_37 (v := 0) (by decide) ?_
        refine v_istore_n hC dX12_is_38 (by decide) (lv' := [(3, .int 0), (2, .int 1), (0, .ref a_0), (1, .ref (eK E a_1))]) rfl ?_
        have lp_719 : ∀ (n_720 : Nat) (i_714 : Int32) (b_716 : (0 ≤ i_714.toInt ∧ i_714.toInt ≤ 40)) (i_715 : Int32) (b_717 : (0 ≤ i_715.toInt ∧ i_715.toInt ≤ 1)) (cv_718 : IWI (f a_0) (f (q 4)) a_1 i_715 i_714) (hm_722 : 40 - i_714.toInt < (n_720 : Int)), V z E 4 0 0 L f 39 [(3, .int i_714), (2, .int i_715), (0, .ref a_0), (1, .ref (eK E a_1))] [] := by
          intro n_720
          induction n_720 with
          | zero =>
            intro i_714 b_716 i_715 b_717 cv_718 hm_722
            have bs_723 := cv_718.bs
            have fe_724 : fld (f a_0) 8 = (v_28 : Int32).toInt := by rw [e_22]; rfl
            have fe_725 : fld (f a_0) 9 = (v_30 : Int32).toInt := by rw [e_22]; rfl
            have fe_726 : fld (f a_0) 10 = (v_32 : Int32).toInt := by rw [e_22]; rfl
            have fe_727 : fld (f a_0) 12 = (v_35 : Int32).toInt := by rw [e_22]; rfl
            rw [fe_724, fe_725, fe_726, fe_727] at bs_723
            exfalso; omega
          | succ n_720 ih_721 =>
            intro i_714 b_716 i_715 b_717 cv_718 hm_722
            have bs_723 := cv_718.bs
            have fe_724 : fld (f a_0) 8 = (v_28 : Int32).toInt := by rw [e_22]; rfl
            have fe_725 : fld (f a_0) 9 = (v_30 : Int32).toInt := by rw [e_22]; rfl
            have fe_726 : fld (f a_0) 10 = (v_32 : Int32).toInt := by rw [e_22]; rfl
            have fe_727 : fld (f a_0) 12 = (v_35 : Int32).toInt := by rw [e_22]; rfl
            rw [fe_724, fe_725, fe_726, fe_727] at bs_723
            refine v_iload_n hC dX12_is_39 rfl ?_
            refine v_aload_n hC dX12_is_40 rfl ?_
            refine v_viS hC (rest := [.int i_714]) ha_1 rfl mi_J0_length_8abf5 ms_J0_length_8abf5 (p_J0_length_8abf5 hW ha_1) mx_J0_length_8abf5 ml_X12_143 (by decide) rfl (cells1 := 0) (slots1 := 0) (by decide) (by decide) (Nat.le_of_ble_eq_true rfl) (Nat.le_of_ble_eq_true rfl) rfl (Nat.le_of_ble_eq_true rfl) dX12_is_41 (fun r_728 L_729 f_730 h_731 => ?_)
            obtain ⟨rfl, rfl, b_732, x_733⟩ := h_731
            try simp only [Int32.reduceToInt, Int64.reduceToInt] at x_733
            refine v_icmp_ge hC dX12_is_44 (tgt := 82) (by decide) (fun h_736 => ?_) (fun h_736 => ?_)
            · simp only [Int32.lt_iff_toInt_lt, Int32.le_iff_toInt_le, Int32.reduceToInt, ← Int32.toInt_inj] at h_736
              refine v_iload_n hC dX12_is_82 rfl ?_
              exact hR _ _ _ _ _ _ _ dX12_is_83 (nar01 (by first | omega | (simp only [Int32.lt_iff_toInt_lt, Int32.le_iff_toInt_le, Int32.reduceToInt, ← Int32.toInt_inj, true_and, and_true, or_true, true_or, false_or, or_false, false_and, and_false, not_true_eq_false, not_false_eq_true] <;> omega))) (Nat.le_of_ble_eq_true rfl) (Nat.le_of_ble_eq_true rfl) ⟨rfl, rfl, (cv_718.fin (by first | (left; omega) | (right; omega)))⟩
            · simp only [Int32.lt_iff_toInt_lt, Int32.le_iff_toInt_le, Int32.reduceToInt, ← Int32.toInt_inj] at h_736
              refine v_iload_n hC dX12_is_47 rfl ?_
              refine v_if_eq hC dX12_is_48 (tgt := 82) (by decide) (fun h_737 => ?_) (fun h_737 => ?_)
              · simp only [Int32.lt_iff_toInt_lt, Int32.le_iff_toInt_le, Int32.reduceToInt, ← Int32.toInt_inj] at h_737
                refine v_iload_n hC dX12_is_82 rfl ?_
                exact hR _ _ _ _ _ _ _ dX12_is_83 (nar01 (by first | omega | (simp only [Int32.lt_iff_toInt_lt, Int32.le_iff_toInt_le, Int32.reduceToInt, ← Int32.toInt_inj, true_and, and_true, or_true, true_or, false_or, or_false, false_and, and_false, not_true_eq_false, not_false_eq_true] <;> omega))) (Nat.le_of_ble_eq_true rfl) (Nat.le_of_ble_eq_true rfl) ⟨rfl, rfl, (cv_718.fin (by first | (left; omega) | (right; omega)))⟩
              · simp only [Int32.lt_iff_toInt_lt, Int32.le_iff_toInt_le, Int32.reduceToInt, ← Int32.toInt_inj] at h_737
                refine v_aload_n hC dX12_is_51 rfl ?_
                refine v_get hC fl_X12_24 m_1 e_22 rfl dX12_is_52 ?_
                refine v_aload_n hC dX12_is_55 rfl ?_
                refine v_get hC fl_X12_117 m_1 e_22 rfl dX12_is_56 ?_
                refine v_iload_n hC dX12_is_59 rfl ?_
                obtain ⟨v_738, h_739⟩ : ∃ v9 : Int32, v_30 + i_714 = v9 := ⟨_, rfl⟩
                refine v_iadd hC dX12_is_60 h_739 ?_
                have h_740 := add_v h_739 (by first | omega | (simp only [Int32.lt_iff_toInt_lt, Int32.le_iff_toInt_le, Int32.reduceToInt, ← Int32.toInt_inj, true_and, and_true, or_true, true_or, false_or, or_false, false_and, and_false, not_true_eq_false, not_false_eq_true] <;> omega)) (by first | omega | (simp only [Int32.lt_iff_toInt_lt, Int32.le_iff_toInt_le, Int32.reduceToInt, ← Int32.toInt_inj, true_and, and_true, or_true, true_or, false_or, or_false, false_and, and_false, not_true_eq_false, not_false_eq_true] <;> omega))
                obtain ⟨m_741, t_742⟩ := id k_6
                obtain ⟨g_744, e_743, fit_745⟩ := hW.at m_741 t_742
                obtain ⟨v_746, h_747⟩ : ∃ v9 : Int32, g_744 (v_738 : Int32).toNatClampNeg = v9 := ⟨_, rfl⟩
                refine v_bald hC m_741 e_743 (vp_in_iff.mpr (by first | omega | (simp only [Int32.lt_iff_toInt_lt, Int32.le_iff_toInt_le, Int32.reduceToInt, ← Int32.toInt_inj, true_and, and_true, or_true, true_or, false_or, or_false, false_and, and_false, not_true_eq_false, not_false_eq_true] <;> omega))) h_747 dX12_is_61 ?_
                refine v_aload_n hC dX12_is_62 rfl ?_
                refine v_iload_n hC dX12_is_63 rfl ?_
                refine v_viS hC (rest := [.int v_746]) ha_1 rfl mi_J0_charAt_5068e ms_J0_charAt_5068e (p_J0_charAt_5068e hW ha_1 (by first | omega | (simp only [Int32.lt_iff_toInt_lt, Int32.le_iff_toInt_le, Int32.reduceToInt, ← Int32.toInt_inj, true_and, and_true, or_true, true_or, false_or, or_false, false_and, and_false, not_true_eq_false, not_false_eq_true] <;> omega))) mx_J0_charAt_5068e ml_X12_148 (by decide) rfl (cells1 := 0) (slots1 := 0) (by decide) (by decide) (Nat.le_of_ble_eq_true rfl) (Nat.le_of_ble_eq_true rfl) rfl (Nat.le_of_ble_eq_true rfl) dX12_is_64 (fun r_748 L_749 f_750 h_751 => ?_)
                obtain ⟨rfl, rfl, rfl, nr_752⟩ := h_751
                refine v_icmp_ne hC dX12_is_67 (tgt := 74) (by decide) (fun h_755 => ?_) (fun h_755 => ?_)
                · simp only [Int32.lt_iff_toInt_lt, Int32.le_iff_toInt_le, Int32.reduceToInt, ← Int32.toInt_inj] at h_755
                  refine v_iconst hC dX12_is_74 (v := 0) (by decide) ?_
                  refine v_istore_n hC dX12_is_75 (by decide) (lv' := [(2, .int 0), (3, .int i_714), (0, .ref a_0), (1, .ref (eK E a_1))]) rfl ?_
                  obtain ⟨v_756, h_757⟩ : ∃ v9 : Int32, i_714 + Int32.ofInt 1 = v9 := ⟨_, rfl⟩
                  have h_758 := add_v (b := 1) h_757 (by first | omega | (simp only [Int32.lt_iff_toInt_lt, Int32.le_iff_toInt_le, Int32.reduceToInt, ← Int32.toInt_inj, true_and, and_true, or_true, true_or, false_or, or_false, false_and, and_false, not_true_eq_false, not_false_eq_true] <;> omega)) (by first | omega | (simp only [Int32.lt_iff_toInt_lt, Int32.le_iff_toInt_le, Int32.reduceToInt, ← Int32.toInt_inj, true_and, and_true, or_true, true_or, false_or, or_false, false_and, and_false, not_true_eq_false, not_false_eq_true] <;> omega))
                  simp only [Int32.reduceToInt] at h_758
                  refine v_iinc hC dX12_is_76 (k := 1) rfl (v := v_756) h_757 (by decide) (lv' := [(3, .int v_756), (2, .int 0), (0, .ref a_0), (1, .ref (eK E a_1))]) rfl ?_
                  refine v_goto hC dX12_is_79 (tgt := 39) (by decide) ?_
                  refine v_pick [0, 1, 2, 3] rfl ?_
                  have fe_759 : fld (f a_0) 9 = (v_30 : Int32).toInt := by rw [e_22]; rfl
                  exact ih_721 v_756 (by first | omega | (simp only [Int32.lt_iff_toInt_lt, Int32.le_iff_toInt_le, Int32.reduceToInt, ← Int32.toInt_inj, true_and, and_true, or_true, true_or, false_or, or_false, false_and, and_false, not_true_eq_false, not_false_eq_true] <;> omega)) 0 (by decide) (cv_718.no (by omega) (by omega) (by omega) (fun q9 => h_755 (congrArg Int32.toInt ((bat_at (t := f (q 4)) e_743 h_747 (k := i_714) (F := fld (f a_0) 9) (by rw [fe_759]; omega) (by rw [fe_759]; omega) (by omega)).symm.trans q9)))) (by first | omega | (simp only [Int32.lt_iff_toInt_lt, Int32.le_iff_toInt_le, Int32.reduceToInt, ← Int32.toInt_inj, true_and, and_true, or_true, true_or, false_or, or_false, false_and, and_false, not_true_eq_false, not_false_eq_true] <;> omega))
                · simp only [Int32.lt_iff_toInt_lt, Int32.le_iff_toInt_le, Int32.reduceToInt, ← Int32.toInt_inj] at h_755
                  refine v_iconst hC dX12_is_70 (v := 1) (by decide) ?_
                  refine v_goto hC dX12_is_71 (tgt := 75) (by decide) ?_
                  refine v_istore_n hC dX12_is_75 (by decide) (lv' := [(2, .int 1), (3, .int i_714), (0, .ref a_0), (1, .ref (eK E a_1))]) rfl ?_
                  obtain ⟨v_760, h_761⟩ : ∃ v9 : Int32, i_714 + Int32.ofInt 1 = v9 := ⟨_, rfl⟩
                  have h_762 := add_v (b := 1) h_761 (by first | omega | (simp only [Int32.lt_iff_toInt_lt, Int32.le_iff_toInt_le, Int32.reduceToInt, ← Int32.toInt_inj, true_and, and_true, or_true, true_or, false_or, or_false, false_and, and_false, not_true_eq_false, not_false_eq_true] <;> omega)) (by first | omega | (simp only [Int32.lt_iff_toInt_lt, Int32.le_iff_toInt_le, Int32.reduceToInt, ← Int32.toInt_inj, true_and, and_true, or_true, true_or, false_or, or_false, false_and, and_false, not_true_eq_false, not_false_eq_true] <;> omega))
                  simp only [Int32.reduceToInt] at h_762
                  refine v_iinc hC dX12_is_76 (k := 1) rfl (v := v_760) h_761 (by decide) (lv' := [(3, .int v_760), (2, .int 1), (0, .ref a_0), (1, .ref (eK E a_1))]) rfl ?_
                  refine v_goto hC dX12_is_79 (tgt := 39) (by decide) ?_
                  refine v_pick [0, 1, 2, 3] rfl ?_
                  have fe_763 : fld (f a_0) 9 = (v_30 : Int32).toInt := by rw [e_22]; rfl
                  exact ih_721 v_760 (by first | omega | (simp only [Int32.lt_iff_toInt_lt, Int32.le_iff_toInt_le, Int32.reduceToInt, ← Int32.toInt_inj, true_and, and_true, or_true, true_or, false_or, or_false, false_and, and_false, not_true_eq_false, not_false_eq_true] <;> omega)) 1 (by decide) (cv_718.yes (by omega) (by omega) (by omega) ((bat_at (t := f (q 4)) e_743 h_747 (k := i_714) (F := fld (f a_0) 9) (by rw [fe_763]; omega) (by rw [fe_763]; omega) (by omega)).trans (Int32.toInt_inj.mp (by omega)))) (by first | omega | (simp only [Int32.lt_iff_toInt_lt, Int32.le_iff_toInt_le, Int32.reduceToInt, ← Int32.toInt_inj, true_and, and_true, or_true, true_or, false_or, or_false, false_and, and_false, not_true_eq_false, not_false_eq_true] <;> omega))
        refine v_pick [0, 1, 2, 3] rfl ?_
        have fe_764 : fld (f a_0) 8 = (v_28 : Int32).toInt := by rw [e_22]; rfl
        have fe_765 : fld (f a_0) 9 = (v_30 : Int32).toInt := by rw [e_22]; rfl
        have fe_766 : fld (f a_0) 10 = (v_32 : Int32).toInt := by rw [e_22]; rfl
        have fe_767 : fld (f a_0) 12 = (v_35 : Int32).toInt := by rw [e_22]; rfl
        exact lp_719 42 0 (by decide) 1 (by decide) (IWI.s1 (by rw [fe_767]; omega) (by rw [fe_766]; omega) (by rw [fe_764, fe_765]; omega)) (by decide)
set_option maxRecDepth 100000 in
set_option maxHeartbeats 4000000 in
theorem p_X12_takes {l : Launch} {E : Ez} {L : List Nat} {f : Nat → va_E} {T : Nat → va_E → Prop} {a_0 : Nat} {a_1 : Nat} {q : Nat → Nat} (hW : WT T L f) (k_0 : isM T L E a_0 q) (ha_1 : a_1 < 77) : CI l yX12_takes cX12_takes 3 .boolean 5 0 0 E [.ref a_0, .ref (eK E a_1)] L f (fun r L1 f1 => L = L1 ∧ WT T L f1 ∧ FR [12] f f1 ∧ r = (iw (f a_0) (f (q 4)) a_1) ∧ ((iw (f a_0) (f (q 4)) a_1).toInt = 0 ∨ ((fld (f a_0) 8 ≤ fld (f1 a_0) 9 ∧ fld (f1 a_0) 9 ≤ fld (f1 a_0) 8) ∧ (fld (f1 a_0) 10 = 0 ∨ fld (f1 a_0) 9 < fld (f1 a_0) 8))) ∧ (¬ (iw (f a_0) (f (q 4)) a_1).toInt = 0 ∨ (fld (f1 a_0) 8 = fld (f a_0) 8 ∧ fld (f1 a_0) 9 = fld (f a_0) 9 ∧ fld (f1 a_0) 10 = fld (f a_0) 10)) ∧ fld (f1 a_0) 12 = fld (f a_0) 12 ∧ fld (f1 a_0) 20 = fld (f a_0) 20) := by
  refine ci_of (by decide) (Nat.le_of_ble_eq_true rfl) (fun z hz hnm hC hR => ?_)
  have hC : Cx z E cX12_takes RX12 3 5 0 0 := hC
  subst hz
  show V z E 3 0 0 L f 0 [(0, .ref a_0), (1, .ref (eK E a_1))] []
  obtain ⟨m_1, t_2, nq_21, k_3, k_4, k_5, k_6, k_7, k_8, k_9, k_10, k_11, k_12, k_13, k_14, k_15, k_16, k_17, k_18, k_19, k_20⟩ := id k_0
  obtain ⟨v_23, v_24, v_26, v_28, v_30, v_32, v_34, v_35, v_36, v_37, v_39, e_22, b_25, b_27, b_29, b_31, b_33, b_38, b_40⟩ := hW.at m_1 t_2
  have mz_41 : fld (f a_0) 8 = v_28.toInt := by rw [e_22]; rfl
  have mz_42 : fld (f a_0) 9 = v_30.toInt := by rw [e_22]; rfl
  have mz_43 : fld (f a_0) 10 = v_32.toInt := by rw [e_22]; rfl
  have mz_44 : fld (f a_0) 12 = v_35.toInt := by rw [e_22]; rfl
  have mz_45 : fld (f a_0) 20 = v_39.toInt := by rw [e_22]; rfl
  refine v_aload_n hC dX12_takes_0 rfl ?_
  refine v_aload_n hC dX12_takes_1 rfl ?_
  refine v_vi hC (rest := []) m_1 e_22 rfl mi_X12_is ms_X12_is (p_X12_is hW k_0 ha_1) mx_X12_is ml_X12_152 (by decide) rfl (cells1 := 0) (slots1 := 0) (by decide) (by decide) (Nat.le_of_ble_eq_true rfl) (Nat.le_of_ble_eq_true rfl) rfl (Nat.le_of_ble_eq_true rfl) dX12_takes_2 (fun r_46 L_47 f_48 h_49 => ?_)
  obtain ⟨rfl, rfl, rfl⟩ := h_49
  have ib_52 := iw_b (f a_0) (f (q 4)) a_1
  have fe_53 : fld (f a_0) 8 = (v_28 : Int32).toInt := by rw [e_22]; rfl
  have fe_54 : fld (f a_0) 9 = (v_30 : Int32).toInt := by rw [e_22]; rfl
  have fe_55 : fld (f a_0) 10 = (v_32 : Int32).toInt := by rw [e_22]; rfl
  have fe_56 : fld (f a_0) 12 = (v_35 : Int32).toInt := by rw [e_22]; rfl
  rw [fe_53, fe_54, fe_55, fe_56] at ib_52
  refine v_istore_n hC dX12_takes_5 (by decide) (lv' := [(2, .int (iw (f a_0) (f (q 4)) a_1)), (0, .ref a_0), (1, .ref (eK E a_1))]) rfl ?_
  refine v_iload_n hC dX12_takes_6 rfl ?_
  refine v_if_eq hC dX12_takes_7 (tgt := 14) (by decide) (fun h_57 => ?_) (fun h_57 => ?_)
  · simp only [Int32.lt_iff_toInt_lt, Int32.le_iff_toInt_le, Int32.reduceToInt, ← Int32.toInt_inj] at h_57
    refine v_iload_n hC dX12_takes_14 rfl ?_
    have fe_58 : fld (f a_0) 8 = (v_28 : Int32).toInt := by rw [e_22]; rfl
    have fe_59 : fld (f a_0) 9 = (v_30 : Int32).toInt := by rw [e_22]; rfl
    have fe_60 : fld (f a_0) 10 = (v_32 : Int32).toInt := by rw [e_22]; rfl
    have fe_61 : fld (f a_0) 8 = (v_28 : Int32).toInt := by rw [e_22]; rfl
    have fe_62 : fld (f a_0) 9 = (v_30 : Int32).toInt := by rw [e_22]; rfl
    have fe_63 : fld (f a_0) 10 = (v_32 : Int32).toInt := by rw [e_22]; rfl
    have fe_64 : fld (f a_0) 12 = (v_35 : Int32).toInt := by rw [e_22]; rfl
    have fe_65 : fld (f a_0) 20 = (v_39 : Int32).toInt := by rw [e_22]; rfl
    exact hR _ _ _ _ _ _ _ dX12_takes_15 (nar01 (by first | omega | (simp only [Int32.lt_iff_toInt_lt, Int32.le_iff_toInt_le, Int32.reduceToInt, ← Int32.toInt_inj, true_and, and_true, or_true, true_or, false_or, or_false, false_and, and_false, not_true_eq_false, not_false_eq_true] <;> omega))) (Nat.le_of_ble_eq_true rfl) (Nat.le_of_ble_eq_true rfl) ⟨rfl, hW, FR.rf, rfl, (by simp only [fe_58, fe_59, fe_60, mz_41, true_and, and_true, or_true, true_or, false_or, or_false, false_and, and_false, not_true_eq_false, not_false_eq_true] <;> first | omega | (simp only [Int32.lt_iff_toInt_lt, Int32.le_iff_toInt_le, Int32.reduceToInt, ← Int32.toInt_inj, true_and, and_true, or_true, true_or, false_or, or_false, false_and, and_false, not_true_eq_false, not_false_eq_true] <;> omega)), (by simp only [fe_61, fe_62, fe_63, mz_41, mz_42, mz_43, true_and, and_true, or_true, true_or, false_or, or_false, false_and, and_false, not_true_eq_false, not_false_eq_true] <;> first | omega | (simp only [Int32.lt_iff_toInt_lt, Int32.le_iff_toInt_le, Int32.reduceToInt, ← Int32.toInt_inj, true_and, and_true, or_true, true_or, false_or, or_false, false_and, and_false, not_true_eq_false, not_false_eq_true] <;> omega)), (by simp only [fe_64, mz_44, true_and, and_true, or_true, true_or, false_or, or_false, false_and, and_false, not_true_eq_false, not_false_eq_true] <;> first | omega | (simp only [Int32.lt_iff_toInt_lt, Int32.le_iff_toInt_le, Int32.reduceToInt, ← Int32.toInt_inj, true_and, and_true, or_true, true_or, false_or, or_false, false_and, and_false, not_true_eq_false, not_false_eq_true] <;> omega)), (by simp only [fe_65, mz_45, true_and, and_true, or_true, true_or, false_or, or_false, false_and, and_false, not_true_eq_false, not_false_eq_true] <;> first | omega | (simp only [Int32.lt_iff_toInt_lt, Int32.le_iff_toInt_le, Int32.reduceToInt, ← Int32.toInt_inj, true_and, and_true, or_true, true_or, false_or, or_false, false_and, and_false, not_true_eq_false, not_false_eq_true] <;> omega))⟩
  · simp only [Int32.lt_iff_toInt_lt, Int32.le_iff_toInt_le, Int32.reduceToInt, ← Int32.toInt_inj] at h_57
    refine v_aload_n hC dX12_takes_10 rfl ?_
    refine v_vv hC (rest := []) m_1 e_22 rfl mi_X12_advance ms_X12_advance (p_X12_advance hW k_0) mx_X12_advance ml_X12_156 (by decide) rfl (cells1 := 0) (slots1 := 0) (by decide) (by decide) (Nat.le_of_ble_eq_true rfl) (Nat.le_of_ble_eq_true rfl) rfl (Nat.le_of_ble_eq_true rfl) dX12_takes_11 (fun L_67 f_68 h_69 => ?_)
    obtain ⟨rfl, hW_74, hF_75, x_70, x_71, x_72, x_73⟩ := h_69
    have fe_76 : fld (f a_0) 8 = (v_28 : Int32).toInt := by rw [e_22]; rfl
    have fe_77 : fld (f a_0) 12 = (v_35 : Int32).toInt := by rw [e_22]; rfl
    have fe_78 : fld (f a_0) 20 = (v_39 : Int32).toInt := by rw [e_22]; rfl
    rw [fe_76] at x_70
    obtain ⟨v_80, v_81, v_83, v_85, v_87, v_89, v_91, v_92, v_93, v_94, v_96, e_79, b_82, b_84, b_86, b_88, b_90, b_95, b_97⟩ := hW_74.at m_1 t_2
    have fe_98 : fld (f_68 a_0) 8 = (v_85 : Int32).toInt := by rw [e_79]; rfl
    have fe_99 : fld (f_68 a_0) 9 = (v_87 : Int32).toInt := by rw [e_79]; rfl
    rw [fe_98, fe_99] at x_70
    have fe_100 : fld (f_68 a_0) 8 = (v_85 : Int32).toInt := by rw [e_79]; rfl
    have fe_101 : fld (f_68 a_0) 9 = (v_87 : Int32).toInt := by rw [e_79]; rfl
    have fe_102 : fld (f_68 a_0) 10 = (v_89 : Int32).toInt := by rw [e_79]; rfl
    rw [fe_100, fe_101, fe_102] at x_71
    rw [fe_77] at x_72
    have fe_103 : fld (f_68 a_0) 12 = (v_92 : Int32).toInt := by rw [e_79]; rfl
    rw [fe_103] at x_72
    rw [fe_78] at x_73
    have fe_104 : fld (f_68 a_0) 20 = (v_96 : Int32).toInt := by rw [e_79]; rfl
    rw [fe_104] at x_73
    refine v_iload_n hC dX12_takes_14 rfl ?_
    have fe_105 : fld (f_68 a_0) 8 = (v_85 : Int32).toInt := by rw [e_79]; rfl
    have fe_106 : fld (f_68 a_0) 9 = (v_87 : Int32).toInt := by rw [e_79]; rfl
    have fe_107 : fld (f_68 a_0) 10 = (v_89 : Int32).toInt := by rw [e_79]; rfl
    have fe_108 : fld (f_68 a_0) 8 = (v_85 : Int32).toInt := by rw [e_79]; rfl
    have fe_109 : fld (f_68 a_0) 9 = (v_87 : Int32).toInt := by rw [e_79]; rfl
    have fe_110 : fld (f_68 a_0) 10 = (v_89 : Int32).toInt := by rw [e_79]; rfl
    have fe_111 : fld (f_68 a_0) 12 = (v_92 : Int32).toInt := by rw [e_79]; rfl
    have fe_112 : fld (f_68 a_0) 20 = (v_96 : Int32).toInt := by rw [e_79]; rfl
    exact hR _ _ _ _ _ _ _ dX12_takes_15 (nar01 (by first | omega | (simp only [Int32.lt_iff_toInt_lt, Int32.le_iff_toInt_le, Int32.reduceToInt, ← Int32.toInt_inj, true_and, and_true, or_true, true_or, false_or, or_false, false_and, and_false, not_true_eq_false, not_false_eq_true] <;> omega))) (Nat.le_of_ble_eq_true rfl) (Nat.le_of_ble_eq_true rfl) ⟨rfl, hW_74, (hF_75.mono rfl), rfl, (by simp only [fe_105, fe_106, fe_107, mz_41, true_and, and_true, or_true, true_or, false_or, or_false, false_and, and_false, not_true_eq_false, not_false_eq_true] <;> first | omega | (simp only [Int32.lt_iff_toInt_lt, Int32.le_iff_toInt_le, Int32.reduceToInt, ← Int32.toInt_inj, true_and, and_true, or_true, true_or, false_or, or_false, false_and, and_false, not_true_eq_false, not_false_eq_true] <;> omega)), (by simp only [fe_108, fe_109, fe_110, mz_41, mz_42, mz_43, true_and, and_true, or_true, true_or, false_or, or_false, false_and, and_false, not_true_eq_false, not_false_eq_true] <;> first | omega | (simp only [Int32.lt_iff_toInt_lt, Int32.le_iff_toInt_le, Int32.reduceToInt, ← Int32.toInt_inj, true_and, and_true, or_true, true_or, false_or, or_false, false_and, and_false, not_true_eq_false, not_false_eq_true] <;> omega)), (by simp only [fe_111, mz_44, true_and, and_true, or_true, true_or, false_or, or_false, false_and, and_false, not_true_eq_false, not_false_eq_true] <;> first | omega | (simp only [Int32.lt_iff_toInt_lt, Int32.le_iff_toInt_le, Int32.reduceToInt, ← Int32.toInt_inj, true_and, and_true, or_true, true_or, false_or, or_false, false_and, and_false, not_true_eq_false, not_false_eq_true] <;> omega)), (by simp only [fe_112, mz_45, true_and, and_true, or_true, true_or, false_or, or_false, false_and, and_false, not_true_eq_false, not_false_eq_true] <;> first | omega | (simp only [Int32.lt_iff_toInt_lt, Int32.le_iff_toInt_le, Int32.reduceToInt, ← Int32.toInt_inj, true_and, and_true, or_true, true_or, false_or, or_false, false_and, and_false, not_true_eq_false, not_false_eq_true] <;> omega))⟩
set_option maxRecDepth 100000 in
set_option maxHeartbeats 4000000 in
theorem p_X12_errs {l : Launch} {E : Ez} {L : List Nat} {f : Nat → va_E} {T : Nat → va_E → Prop} {a_0 : Nat} {a_1 : Int32} {q : Nat → Nat} (hW : WT T L f) (k_0 : isM T L E a_0 q) (g_1 : (1 ≤ a_1.toInt ∧ a_1.toInt ≤ 3)) : CV l yX12_errs cX12_errs 2 1 0 0 E [.ref a_0, .int a_1] L f (fun L1 f1 => L = L1 ∧ WT T L f1 ∧ FR [12] f f1 ∧ ¬ fld (f1 a_0) 12 = 0 ∧ fld (f1 a_0) 8 = fld (f a_0) 8 ∧ fld (f1 a_0) 9 = fld (f a_0) 9 ∧ fld (f1 a_0) 10 = fld (f a_0) 10 ∧ fld (f1 a_0) 20 = fld (f a_0) 20) := by
  refine cv_of (by decide) (Nat.le_of_ble_eq_true rfl) (fun z hz hnm hC hR => ?_)
  have hC : Cx z E cX12_errs RX12 2 1 0 0 := hC
  subst hz
  show V z E 2 0 0 L f 0 [(0, .ref a_0), (1, .int a_1)] []
  obtain ⟨m_1, t_2, nq_21, k_3, k_4, k_5, k_6, k_7, k_8, k_9, k_10, k_11, k_12, k_13, k_14, k_15, k_16, k_17, k_18, k_19, k_20⟩ := id k_0
  obtain ⟨v_23, v_24, v_26, v_28, v_30, v_32, v_34, v_35, v_36, v_37, v_39, e_22, b_25, b_27, b_29, b_31, b_33, b_38, b_40⟩ := hW.at m_1 t_2
  have mz_41 : fld (f a_0) 8 = v_28.toInt := by rw [e_22]; rfl
  have mz_42 : fld (f a_0) 9 = v_30.toInt := by rw [e_22]; rfl
  have mz_43 : fld (f a_0) 10 = v_32.toInt := by rw [e_22]; rfl
  have mz_44 : fld (f a_0) 20 = v_39.toInt := by rw [e_22]; rfl
  refine v_aload_n hC dX12_errs_0 rfl ?_
  refine v_vi hC (rest := []) m_1 e_22 rfl mi_X12_good ms_X12_good (p_X12_good hW k_0) mx_X12_good ml_X12_139 (by decide) rfl (cells1 := 0) (slots1 := 0) (by decide) (by decide) (Nat.le_of_ble_eq_true rfl) (Nat.le_of_ble_eq_true rfl) rfl (Nat.le_of_ble_eq_true rfl) dX12_errs_1 (fun r_45 L_46 f_47 h_48 => ?_)
  obtain ⟨rfl, rfl, b_49, x_50⟩ := h_48
  have fe_53 : fld (f a_0) 12 = (v_35 : Int32).toInt := by rw [e_22]; rfl
  rw [fe_53] at x_50
  try simp only [Int32.reduceToInt, Int64.reduceToInt] at x_50
  refine v_if_ne hC dX12_errs_4 (tgt := 8) (by decide) (fun h_54 => ?_) (fun h_54 => ?_)
  · simp only [Int32.lt_iff_toInt_lt, Int32.le_iff_toInt_le, Int32.reduceToInt, ← Int32.toInt_inj] at h_54
    refine v_aload_n hC dX12_errs_8 rfl ?_
    refine v_iload_n hC dX12_errs_9 rfl ?_
    refine v_put hC fl_X12_111 m_1 e_22 rfl rfl (Nat.le_of_ble_eq_true rfl) (fs' := [.int v_23, .ref (q 1), .ref (q 2), .ref (q 3), .ref (q 4), .int v_24, .ref (q 6), .int v_26, .int v_28, .int v_30, .int v_32, .int v_34, .int a_1, .int v_36, .ref (q 14), .ref (q 15), .ref (q 16), .int v_37, .ref (q 18), .ref (q 19), .int v_39, .ref (q 21), .ref (q 22), .ref (q 23), .ref (q 24), .ref (q 25), .ref (q 26), .ref (q 27), .ref (q 28)]) rfl dX12_errs_10 (fun f_55 hf_56 hk_57 => ?_)
    have hW_58 := hW.up hf_56 hk_57 t_2 ⟨v_23, v_24, v_26, v_28, v_30, v_32, v_34, a_1, v_36, v_37, v_39, rfl, (by first | omega | (simp only [Int32.lt_iff_toInt_lt, Int32.le_iff_toInt_le, Int32.reduceToInt, ← Int32.toInt_inj, true_and, and_true, or_true, true_or, false_or, or_false, false_and, and_false, not_true_eq_false, not_false_eq_true] <;> omega)), (by first | omega | (simp only [Int32.lt_iff_toInt_lt, Int32.le_iff_toInt_le, Int32.reduceToInt, ← Int32.toInt_inj, true_and, and_true, or_true, true_or, false_or, or_false, false_and, and_false, not_true_eq_false, not_false_eq_true] <;> omega)), (by first | omega | (simp only [Int32.lt_iff_toInt_lt, Int32.le_iff_toInt_le, Int32.reduceToInt, ← Int32.toInt_inj, true_and, and_true, or_true, true_or, false_or, or_false, false_and, and_false, not_true_eq_false, not_false_eq_true] <;> omega)), (by first | omega | (simp only [Int32.lt_iff_toInt_lt, Int32.le_iff_toInt_le, Int32.reduceToInt, ← Int32.toInt_inj, true_and, and_true, or_true, true_or, false_or, or_false, false_and, and_false, not_true_eq_false, not_false_eq_true] <;> omega)), (by first | omega | (simp only [Int32.lt_iff_toInt_lt, Int32.le_iff_toInt_le, Int32.reduceToInt, ← Int32.toInt_inj, true_and, and_true, or_true, true_or, false_or, or_false, false_and, and_false, not_true_eq_false, not_false_eq_true] <;> omega)), (by first | omega | (simp only [Int32.lt_iff_toInt_lt, Int32.le_iff_toInt_le, Int32.reduceToInt, ← Int32.toInt_inj, true_and, and_true, or_true, true_or, false_or, or_false, false_and, and_false, not_true_eq_false, not_false_eq_true] <;> omega)), (by first | omega | (simp only [Int32.lt_iff_toInt_lt, Int32.le_iff_toInt_le, Int32.reduceToInt, ← Int32.toInt_inj, true_and, and_true, or_true, true_or, false_or, or_false, false_and, and_false, not_true_eq_false, not_false_eq_true] <;> omega))⟩
    have fr_59 := FR.w hk_57 e_22 (k := 12) rfl
    refine v_aload_n hC dX12_errs_13 rfl ?_
    refine v_aload_n hC dX12_errs_14 rfl ?_
    refine v_get hC fl_X12_117 m_1 hf_56 rfl dX12_errs_15 ?_
    refine v_put hC fl_X12_31 m_1 hf_56 rfl rfl (Nat.le_of_ble_eq_true rfl) (fs' := [.int v_23, .ref (q 1), .ref (q 2), .ref (q 3), .ref (q 4), .int v_24, .ref (q 6), .int v_26, .int v_28, .int v_30, .int v_32, .int v_34, .int a_1, .int v_30, .ref (q 14), .ref (q 15), .ref (q 16), .int v_37, .ref (q 18), .ref (q 19), .int v_39, .ref (q 21), .ref (q 22), .ref (q 23), .ref (q 24), .ref (q 25), .ref (q 26), .ref (q 27), .ref (q 28)]) rfl dX12_errs_18 (fun f_60 hf_61 hk_62 => ?_)
    have hW_63 := hW_58.up hf_61 hk_62 t_2 ⟨v_23, v_24, v_26, v_28, v_30, v_32, v_34, a_1, v_30, v_37, v_39, rfl, (by first | omega | (simp only [Int32.lt_iff_toInt_lt, Int32.le_iff_toInt_le, Int32.reduceToInt, ← Int32.toInt_inj, true_and, and_true, or_true, true_or, false_or, or_false, false_and, and_false, not_true_eq_false, not_false_eq_true] <;> omega)), (by first | omega | (simp only [Int32.lt_iff_toInt_lt, Int32.le_iff_toInt_le, Int32.reduceToInt, ← Int32.toInt_inj, true_and, and_true, or_true, true_or, false_or, or_false, false_and, and_false, not_true_eq_false, not_false_eq_true] <;> omega)), (by first | omega | (simp only [Int32.lt_iff_toInt_lt, Int32.le_iff_toInt_le, Int32.reduceToInt, ← Int32.toInt_inj, true_and, and_true, or_true, true_or, false_or, or_false, false_and, and_false, not_true_eq_false, not_false_eq_true] <;> omega)), (by first | omega | (simp only [Int32.lt_iff_toInt_lt, Int32.le_iff_toInt_le, Int32.reduceToInt, ← Int32.toInt_inj, true_and, and_true, or_true, true_or, false_or, or_false, false_and, and_false, not_true_eq_false, not_false_eq_true] <;> omega)), (by first | omega | (simp only [Int32.lt_iff_toInt_lt, Int32.le_iff_toInt_le, Int32.reduceToInt, ← Int32.toInt_inj, true_and, and_true, or_true, true_or, false_or, or_false, false_and, and_false, not_true_eq_false, not_false_eq_true] <;> omega)), (by first | omega | (simp only [Int32.lt_iff_toInt_lt, Int32.le_iff_toInt_le, Int32.reduceToInt, ← Int32.toInt_inj, true_and, and_true, or_true, true_or, false_or, or_false, false_and, and_false, not_true_eq_false, not_false_eq_true] <;> omega)), (by first | omega | (simp only [Int32.lt_iff_toInt_lt, Int32.le_iff_toInt_le, Int32.reduceToInt, ← Int32.toInt_inj, true_and, and_true, or_true, true_or, false_or, or_false, false_and, and_false, not_true_eq_false, not_false_eq_true] <;> omega))⟩
    have fr_64 := FR.w hk_62 hf_56 (k := 12) rfl
    have fe_65 : fld (f_60 a_0) 12 = (a_1 : Int32).toInt := by rw [hf_61]; rfl
    have fe_66 : fld (f_60 a_0) 8 = (v_28 : Int32).toInt := by rw [hf_61]; rfl
    have fe_67 : fld (f_60 a_0) 9 = (v_30 : Int32).toInt := by rw [hf_61]; rfl
    have fe_68 : fld (f_60 a_0) 10 = (v_32 : Int32).toInt := by rw [hf_61]; rfl
    have fe_69 : fld (f_60 a_0) 20 = (v_39 : Int32).toInt := by rw [hf_61]; rfl
    exact hR _ _ _ _ _ _ dX12_errs_21 (Nat.le_of_ble_eq_true rfl) (Nat.le_of_ble_eq_true rfl) ⟨rfl, hW_63, ((fr_59.tr fr_64).mono rfl), (by simp only [fe_65, true_and, and_true, or_true, true_or, false_or, or_false, false_and, and_false, not_true_eq_false, not_false_eq_true] <;> first | omega | (simp only [Int32.lt_iff_toInt_lt, Int32.le_iff_toInt_le, Int32.reduceToInt, ← Int32.toInt_inj, true_and, and_true, or_true, true_or, false_or, or_false, false_and, and_false, not_true_eq_false, not_false_eq_true] <;> omega)), (by simp only [fe_66, mz_41, true_and, and_true, or_true, true_or, false_or, or_false, false_and, and_false, not_true_eq_false, not_false_eq_true] <;> first | omega | (simp only [Int32.lt_iff_toInt_lt, Int32.le_iff_toInt_le, Int32.reduceToInt, ← Int32.toInt_inj, true_and, and_true, or_true, true_or, false_or, or_false, false_and, and_false, not_true_eq_false, not_false_eq_true] <;> omega)), (by simp only [fe_67, mz_42, true_and, and_true, or_true, true_or, false_or, or_false, false_and, and_false, not_true_eq_false, not_false_eq_true] <;> first | omega | (simp only [Int32.lt_iff_toInt_lt, Int32.le_iff_toInt_le, Int32.reduceToInt, ← Int32.toInt_inj, true_and, and_true, or_true, true_or, false_or, or_false, false_and, and_false, not_true_eq_false, not_false_eq_true] <;> omega)), (by simp only [fe_68, mz_43, true_and, and_true, or_true, true_or, false_or, or_false, false_and, and_false, not_true_eq_false, not_false_eq_true] <;> first | omega | (simp only [Int32.lt_iff_toInt_lt, Int32.le_iff_toInt_le, Int32.reduceToInt, ← Int32.toInt_inj, true_and, and_true, or_true, true_or, false_or, or_false, false_and, and_false, not_true_eq_false, not_false_eq_true] <;> omega)), (by simp only [fe_69, mz_44, true_and, and_true, or_true, true_or, false_or, or_false, false_and, and_false, not_true_eq_false, not_false_eq_true] <;> first | omega | (simp only [Int32.lt_iff_toInt_lt, Int32.le_iff_toInt_le, Int32.reduceToInt, ← Int32.toInt_inj, true_and, and_true, or_true, true_or, false_or, or_false, false_and, and_false, not_true_eq_false, not_false_eq_true] <;> omega))⟩
  · simp only [Int32.lt_iff_toInt_lt, Int32.le_iff_toInt_le, Int32.reduceToInt, ← Int32.toInt_inj] at h_54
    have fe_70 : fld (f a_0) 12 = (v_35 : Int32).toInt := by rw [e_22]; rfl
    have fe_71 : fld (f a_0) 8 = (v_28 : Int32).toInt := by rw [e_22]; rfl
    have fe_72 : fld (f a_0) 9 = (v_30 : Int32).toInt := by rw [e_22]; rfl
    have fe_73 : fld (f a_0) 10 = (v_32 : Int32).toInt := by rw [e_22]; rfl
    have fe_74 : fld (f a_0) 20 = (v_39 : Int32).toInt := by rw [e_22]; rfl
    exact hR _ _ _ _ _ _ dX12_errs_7 (Nat.le_of_ble_eq_true rfl) (Nat.le_of_ble_eq_true rfl) ⟨rfl, hW, FR.rf, (by simp only [fe_70, true_and, and_true, or_true, true_or, false_or, or_false, false_and, and_false, not_true_eq_false, not_false_eq_true] <;> first | omega | (simp only [Int32.lt_iff_toInt_lt, Int32.le_iff_toInt_le, Int32.reduceToInt, ← Int32.toInt_inj, true_and, and_true, or_true, true_or, false_or, or_false, false_and, and_false, not_true_eq_false, not_false_eq_true] <;> omega)), (by simp only [fe_71, mz_41, true_and, and_true, or_true, true_or, false_or, or_false, false_and, and_false, not_true_eq_false, not_false_eq_true] <;> first | omega | (simp only [Int32.lt_iff_toInt_lt, Int32.le_iff_toInt_le, Int32.reduceToInt, ← Int32.toInt_inj, true_and, and_true, or_true, true_or, false_or, or_false, false_and, and_false, not_true_eq_false, not_false_eq_true] <;> omega)), (by simp only [fe_72, mz_42, true_and, and_true, or_true, true_or, false_or, or_false, false_and, and_false, not_true_eq_false, not_false_eq_true] <;> first | omega | (simp only [Int32.lt_iff_toInt_lt, Int32.le_iff_toInt_le, Int32.reduceToInt, ← Int32.toInt_inj, true_and, and_true, or_true, true_or, false_or, or_false, false_and, and_false, not_true_eq_false, not_false_eq_true] <;> omega)), (by simp only [fe_73, mz_43, true_and, and_true, or_true, true_or, false_or, or_false, false_and, and_false, not_true_eq_false, not_false_eq_true] <;> first | omega | (simp only [Int32.lt_iff_toInt_lt, Int32.le_iff_toInt_le, Int32.reduceToInt, ← Int32.toInt_inj, true_and, and_true, or_true, true_or, false_or, or_false, false_and, and_false, not_true_eq_false, not_false_eq_true] <;> omega)), (by simp only [fe_74, mz_44, true_and, and_true, or_true, true_or, false_or, or_false, false_and, and_false, not_true_eq_false, not_false_eq_true] <;> first | omega | (simp only [Int32.lt_iff_toInt_lt, Int32.le_iff_toInt_le, Int32.reduceToInt, ← Int32.toInt_inj, true_and, and_true, or_true, true_or, false_or, or_false, false_and, and_false, not_true_eq_false, not_false_eq_true] <;> omega))⟩
set_option maxRecDepth 100000 in
set_option maxHeartbeats 4000000 in
theorem p_X12_needs {l : Launch} {E : Ez} {L : List Nat} {f : Nat → va_E} {T : Nat → va_E → Prop} {a_0 : Nat} {a_1 : Nat} {q : Nat → Nat} (hW : WT T L f) (k_0 : isM T L E a_0 q) (ha_1 : a_1 < 77) : CV l yX12_needs cX12_needs 2 6 0 0 E [.ref a_0, .ref (eK E a_1)] L f (fun L1 f1 => L = L1 ∧ WT T L f1 ∧ FR [12] f f1 ∧ (¬ fld (f1 a_0) 12 = 0 ∨ ((iw (f a_0) (f (q 4)) a_1).toInt = 1 ∧ (fld (f a_0) 8 ≤ fld (f1 a_0) 9 ∧ fld (f1 a_0) 9 ≤ fld (f1 a_0) 8) ∧ (fld (f1 a_0) 10 = 0 ∨ fld (f1 a_0) 9 < fld (f1 a_0) 8))) ∧ (¬ fld (f1 a_0) 12 = 0 ∨ fld (f a_0) 12 = 0) ∧ fld (f1 a_0) 20 = fld (f a_0) 20) := by
  refine cv_of (by decide) (Nat.le_of_ble_eq_true rfl) (fun z hz hnm hC hR => ?_)
  have hC : Cx z E cX12_needs RX12 2 6 0 0 := hC
  subst hz
  show V z E 2 0 0 L f 0 [(0, .ref a_0), (1, .ref (eK E a_1))] []
  obtain ⟨m_1, t_2, nq_21, k_3, k_4, k_5, k_6, k_7, k_8, k_9, k_10, k_11, k_12, k_13, k_14, k_15, k_16, k_17, k_18, k_19, k_20⟩ := id k_0
  obtain ⟨v_23, v_24, v_26, v_28, v_30, v_32, v_34, v_35, v_36, v_37, v_39, e_22, b_25, b_27, b_29, b_31, b_33, b_38, b_40⟩ := hW.at m_1 t_2
  have mz_41 : fld (f a_0) 8 = v_28.toInt := by rw [e_22]; rfl
  have mz_42 : fld (f a_0) 12 = v_35.toInt := by rw [e_22]; rfl
  have mz_43 : fld (f a_0) 20 = v_39.toInt := by rw [e_22]; rfl
  refine v_aload_n hC dX12_needs_0 rfl ?_
  refine v_aload_n hC dX12_needs_1 rfl ?_
  refine v_vi hC (rest := []) m_1 e_22 rfl mi_X12_takes ms_X12_takes (p_X12_takes hW k_0 ha_1) mx_X12_takes ml_X12_159 (by decide) rfl (cells1 := 0) (slots1 := 0) (by decide) (by decide) (Nat.le_of_ble_eq_true rfl) (Nat.le_of_ble_eq_true rfl) rfl (Nat.le_of_ble_eq_true rfl) dX12_needs_2 (fun r_44 L_45 f_46 h_47 => ?_)
  obtain ⟨rfl, hW_52, hF_53, rfl, x_48, x_49, x_50, x_51⟩ := h_47
  have ib_54 := iw_b (f a_0) (f (q 4)) a_1
  have fe_55 : fld (f a_0) 8 = (v_28 : Int32).toInt := by rw [e_22]; rfl
  have fe_56 : fld (f a_0) 9 = (v_30 : Int32).toInt := by rw [e_22]; rfl
  have fe_57 : fld (f a_0) 10 = (v_32 : Int32).toInt := by rw [e_22]; rfl
  have fe_58 : fld (f a_0) 12 = (v_35 : Int32).toInt := by rw [e_22]; rfl
  rw [fe_55, fe_56, fe_57, fe_58] at ib_54
  have fe_59 : fld (f a_0) 8 = (v_28 : Int32).toInt := by rw [e_22]; rfl
  have fe_60 : fld (f a_0) 8 = (v_28 : Int32).toInt := by rw [e_22]; rfl
  have fe_61 : fld (f a_0) 9 = (v_30 : Int32).toInt := by rw [e_22]; rfl
  have fe_62 : fld (f a_0) 10 = (v_32 : Int32).toInt := by rw [e_22]; rfl
  have fe_63 : fld (f a_0) 12 = (v_35 : Int32).toInt := by rw [e_22]; rfl
  have fe_64 : fld (f a_0) 20 = (v_39 : Int32).toInt := by rw [e_22]; rfl
  rw [fe_59] at x_48
  obtain ⟨v_66, v_67, v_69, v_71, v_73, v_75, v_77, v_78, v_79, v_80, v_82, e_65, b_68, b_70, b_72, b_74, b_76, b_81, b_83⟩ := hW_52.at m_1 t_2
  have fe_84 : fld (f_46 a_0) 8 = (v_71 : Int32).toInt := by rw [e_65]; rfl
  have fe_85 : fld (f_46 a_0) 9 = (v_73 : Int32).toInt := by rw [e_65]; rfl
  have fe_86 : fld (f_46 a_0) 10 = (v_75 : Int32).toInt := by rw [e_65]; rfl
  rw [fe_84, fe_85, fe_86] at x_48
  rw [fe_60, fe_61, fe_62] at x_49
  have fe_87 : fld (f_46 a_0) 8 = (v_71 : Int32).toInt := by rw [e_65]; rfl
  have fe_88 : fld (f_46 a_0) 9 = (v_73 : Int32).toInt := by rw [e_65]; rfl
  have fe_89 : fld (f_46 a_0) 10 = (v_75 : Int32).toInt := by rw [e_65]; rfl
  rw [fe_87, fe_88, fe_89] at x_49
  rw [fe_63] at x_50
  have fe_90 : fld (f_46 a_0) 12 = (v_78 : Int32).toInt := by rw [e_65]; rfl
  rw [fe_90] at x_50
  rw [fe_64] at x_51
  have fe_91 : fld (f_46 a_0) 20 = (v_82 : Int32).toInt := by rw [e_65]; rfl
  rw [fe_91] at x_51
  try simp only [Int32.reduceToInt, Int64.reduceToInt] at x_48
  try simp only [Int32.reduceToInt, Int64.reduceToInt] at x_49
  try simp only [Int32.reduceToInt, Int64.reduceToInt] at x_50
  try simp only [Int32.reduceToInt, Int64.reduceToInt] at x_51
  refine v_if_ne hC dX12_needs_5 (tgt := 13) (by decide) (fun h_92 => ?_) (fun h_92 => ?_)
  · simp only [Int32.lt_iff_toInt_lt, Int32.le_iff_toInt_le, Int32.reduceToInt, ← Int32.toInt_inj] at h_92
    have fe_93 : fld (f_46 a_0) 8 = (v_71 : Int32).toInt := by rw [e_65]; rfl
    have fe_94 : fld (f_46 a_0) 9 = (v_73 : Int32).toInt := by rw [e_65]; rfl
    have fe_95 : fld (f_46 a_0) 10 = (v_75 : Int32).toInt := by rw [e_65]; rfl
    have fe_96 : fld (f_46 a_0) 12 = (v_78 : Int32).toInt := by rw [e_65]; rfl
    have fe_97 : fld (f_46 a_0) 12 = (v_78 : Int32).toInt := by rw [e_65]; rfl
    have fe_98 : fld (f_46 a_0) 20 = (v_82 : Int32).toInt := by rw [e_65]; rfl
    exact hR _ _ _ _ _ _ dX12_needs_13 (Nat.le_of_ble_eq_true rfl) (Nat.le_of_ble_eq_true rfl) ⟨rfl, hW_52, (hF_53.mono rfl), (by simp only [fe_93, fe_94, fe_95, fe_96, mz_41, true_and, and_true, or_true, true_or, false_or, or_false, false_and, and_false, not_true_eq_false, not_false_eq_true] <;> first | omega | (simp only [Int32.lt_iff_toInt_lt, Int32.le_iff_toInt_le, Int32.reduceToInt, ← Int32.toInt_inj, true_and, and_true, or_true, true_or, false_or, or_false, false_and, and_false, not_true_eq_false, not_false_eq_true] <;> omega)), (by simp only [fe_97, mz_42, true_and, and_true, or_true, true_or, false_or, or_false, false_and, and_false, not_true_eq_false, not_false_eq_true] <;> first | omega | (simp only [Int32.lt_iff_toInt_lt, Int32.le_iff_toInt_le, Int32.reduceToInt, ← Int32.toInt_inj, true_and, and_true, or_true, true_or, false_or, or_false, false_and, and_false, not_true_eq_false, not_false_eq_true] <;> omega)), (by simp only [fe_98, mz_43, true_and, and_true, or_true, true_or, false_or, or_false, false_and, and_false, not_true_eq_false, not_false_eq_true] <;> first | omega | (simp only [Int32.lt_iff_toInt_lt, Int32.le_iff_toInt_le, Int32.reduceToInt, ← Int32.toInt_inj, true_and, and_true, or_true, true_or, false_or, or_false, false_and, and_false, not_true_eq_false, not_false_eq_true] <;> omega))⟩
  · simp only [Int32.lt_iff_toInt_lt, Int32.le_iff_toInt_le, Int32.reduceToInt, ← Int32.toInt_inj] at h_92
    refine v_aload_n hC dX12_needs_8 rfl ?_
    refine v_iconst hC dX12_needs_9 (v := 1) (by decide) ?_
    refine v_vv hC (rest := []) m_1 e_65 rfl mi_X12_errs ms_X12_errs (p_X12_errs hW_52 k_0 (by decide)) mx_X12_errs ml_X12_162 (by decide) rfl (cells1 := 0) (slots1 := 0) (by decide) (by decide) (Nat.le_of_ble_eq_true rfl) (Nat.le_of_ble_eq_true rfl) rfl (Nat.le_of_ble_eq_true rfl) dX12_needs_10 (fun L_100 f_101 h_102 => ?_)
    obtain ⟨rfl, hW_108, hF_109, x_103, x_104, x_105, x_106, x_107⟩ := h_102
    have fe_110 : fld (f_46 a_0) 8 = (v_71 : Int32).toInt := by rw [e_65]; rfl
    have fe_111 : fld (f_46 a_0) 9 = (v_73 : Int32).toInt := by rw [e_65]; rfl
    have fe_112 : fld (f_46 a_0) 10 = (v_75 : Int32).toInt := by rw [e_65]; rfl
    have fe_113 : fld (f_46 a_0) 20 = (v_82 : Int32).toInt := by rw [e_65]; rfl
    obtain ⟨v_115, v_116, v_118, v_120, v_122, v_124, v_126, v_127, v_128, v_129, v_131, e_114, b_117, b_119, b_121, b_123, b_125, b_130, b_132⟩ := hW_108.at m_1 t_2
    have fe_133 : fld (f_101 a_0) 12 = (v_127 : Int32).toInt := by rw [e_114]; rfl
    rw [fe_133] at x_103
    rw [fe_110] at x_104
    have fe_134 : fld (f_101 a_0) 8 = (v_120 : Int32).toInt := by rw [e_114]; rfl
    rw [fe_134] at x_104
    rw [fe_111] at x_105
    have fe_135 : fld (f_101 a_0) 9 = (v_122 : Int32).toInt := by rw [e_114]; rfl
    rw [fe_135] at x_105
    rw [fe_112] at x_106
    have fe_136 : fld (f_101 a_0) 10 = (v_124 : Int32).toInt := by rw [e_114]; rfl
    rw [fe_136] at x_106
    rw [fe_113] at x_107
    have fe_137 : fld (f_101 a_0) 20 = (v_131 : Int32).toInt := by rw [e_114]; rfl
    rw [fe_137] at x_107
    have fe_138 : fld (f_101 a_0) 8 = (v_120 : Int32).toInt := by rw [e_114]; rfl
    have fe_139 : fld (f_101 a_0) 9 = (v_122 : Int32).toInt := by rw [e_114]; rfl
    have fe_140 : fld (f_101 a_0) 10 = (v_124 : Int32).toInt := by rw [e_114]; rfl
    have fe_141 : fld (f_101 a_0) 12 = (v_127 : Int32).toInt := by rw [e_114]; rfl
    have fe_142 : fld (f_101 a_0) 12 = (v_127 : Int32).toInt := by rw [e_114]; rfl
    have fe_143 : fld (f_101 a_0) 20 = (v_131 : Int32).toInt := by rw [e_114]; rfl
    exact hR _ _ _ _ _ _ dX12_needs_13 (Nat.le_of_ble_eq_true rfl) (Nat.le_of_ble_eq_true rfl) ⟨rfl, hW_108, ((hF_53.tr hF_109).mono rfl), (by simp only [fe_138, fe_139, fe_140, fe_141, mz_41, true_and, and_true, or_true, true_or, false_or, or_false, false_and, and_false, not_true_eq_false, not_false_eq_true] <;> first | omega | (simp only [Int32.lt_iff_toInt_lt, Int32.le_iff_toInt_le, Int32.reduceToInt, ← Int32.toInt_inj, true_and, and_true, or_true, true_or, false_or, or_false, false_and, and_false, not_true_eq_false, not_false_eq_true] <;> omega)), (by simp only [fe_142, mz_42, true_and, and_true, or_true, true_or, false_or, or_false, false_and, and_false, not_true_eq_false, not_false_eq_true] <;> first | omega | (simp only [Int32.lt_iff_toInt_lt, Int32.le_iff_toInt_le, Int32.reduceToInt, ← Int32.toInt_inj, true_and, and_true, or_true, true_or, false_or, or_false, false_and, and_false, not_true_eq_false, not_false_eq_true] <;> omega)), (by simp only [fe_143, mz_43, true_and, and_true, or_true, true_or, false_or, or_false, false_and, and_false, not_true_eq_false, not_false_eq_true] <;> first | omega | (simp only [Int32.lt_iff_toInt_lt, Int32.le_iff_toInt_le, Int32.reduceToInt, ← Int32.toInt_inj, true_and, and_true, or_true, true_or, false_or, or_false, false_and, and_false, not_true_eq_false, not_false_eq_true] <;> omega))⟩
set_option maxRecDepth 100000 in
set_option maxHeartbeats 4000000 in
theorem p_X12_number {l : Launch} {E : Ez} {L : List Nat} {f : Nat → va_E} {T : Nat → va_E → Prop} {a_0 : Nat} {a_1 : Int32} {a_2 : Int32} {q : Nat → Nat} (hW : WT T L f) (k_0 : isM T L E a_0 q) : CI l yX12_number cX12_number 4 .int 2 0 0 E [.ref a_0, .int a_1, .int a_2] L f (fun r L1 f1 => L = L1 ∧ WT T L f1 ∧ FR [12] f f1 ∧ (¬ fld (f1 a_0) 12 = 0 ∨ (fld (f a_0) 12 = 0 ∧ fld (f a_0) 10 = 2 ∧ (a_1.toInt ≤ r.toInt ∧ r.toInt ≤ a_2.toInt) ∧ (fld (f a_0) 8 ≤ fld (f1 a_0) 9 ∧ fld (f1 a_0) 9 ≤ fld (f1 a_0) 8) ∧ (fld (f1 a_0) 10 = 0 ∨ fld (f1 a_0) 9 < fld (f1 a_0) 8))) ∧ (fld (f1 a_0) 12 = 0 ∨ r.toInt = 0) ∧ fld (f1 a_0) 20 = fld (f a_0) 20) := by
  refine ci_of (by decide) (Nat.le_of_ble_eq_true rfl) (fun z hz hnm hC hR => ?_)
  have hC : Cx z E cX12_number RX12 4 2 0 0 := hC
  subst hz
  show V z E 4 0 0 L f 0 [(0, .ref a_0), (1, .int a_1), (2, .int a_2)] []
  obtain ⟨m_1, t_2, nq_21, k_3, k_4, k_5, k_6, k_7, k_8, k_9, k_10, k_11, k_12, k_13, k_14, k_15, k_16, k_17, k_18, k_19, k_20⟩ := id k_0
  obtain ⟨v_23, v_24, v_26, v_28, v_30, v_32, v_34, v_35, v_36, v_37, v_39, e_22, b_25, b_27, b_29, b_31, b_33, b_38, b_40⟩ := hW.at m_1 t_2
  have mz_41 : fld (f a_0) 8 = v_28.toInt := by rw [e_22]; rfl
  have mz_42 : fld (f a_0) 10 = v_32.toInt := by rw [e_22]; rfl
  have mz_43 : fld (f a_0) 12 = v_35.toInt := by rw [e_22]; rfl
  have mz_44 : fld (f a_0) 20 = v_39.toInt := by rw [e_22]; rfl
  refine v_aload_n hC dX12_number_0 rfl ?_
  refine v_vi hC (rest := []) m_1 e_22 rfl mi_X12_good ms_X12_good (p_X12_good hW k_0) mx_X12_good ml_X12_139 (by decide) rfl (cells1 := 0) (slots1 := 0) (by decide) (by decide) (Nat.le_of_ble_eq_true rfl) (Nat.le_of_ble_eq_true rfl) rfl (Nat.le_of_ble_eq_true rfl) dX12_number_1 (fun r_45 L_46 f_47 h_48 => ?_)
  obtain ⟨rfl, rfl, b_49, x_50⟩ := h_48
  have fe_53 : fld (f a_0) 12 = (v_35 : Int32).toInt := by rw [e_22]; rfl
  rw [fe_53] at x_50
  try simp only [Int32.reduceToInt, Int64.reduceToInt] at x_50
  refine v_if_eq hC dX12_number_4 (tgt := 20) (by decide) (fun h_54 => ?_) (fun h_54 => ?_)
  · simp only [Int32.lt_iff_toInt_lt, Int32.le_iff_toInt_le, Int32.reduceToInt, ← Int32.toInt_inj] at h_54
    refine v_aload_n hC dX12_number_20 rfl ?_
    refine v_vi hC (rest := []) m_1 e_22 rfl mi_X12_good ms_X12_good (p_X12_good hW k_0) mx_X12_good ml_X12_139 (by decide) rfl (cells1 := 0) (slots1 := 0) (by decide) (by decide) (Nat.le_of_ble_eq_true rfl) (Nat.le_of_ble_eq_true rfl) rfl (Nat.le_of_ble_eq_true rfl) dX12_number_21 (fun r_55 L_56 f_57 h_58 => ?_)
    obtain ⟨rfl, rfl, b_59, x_60⟩ := h_58
    have fe_63 : fld (f a_0) 12 = (v_35 : Int32).toInt := by rw [e_22]; rfl
    rw [fe_63] at x_60
    try simp only [Int32.reduceToInt, Int64.reduceToInt] at x_60
    refine v_if_eq hC dX12_number_24 (tgt := 47) (by decide) (fun h_64 => ?_) (fun h_64 => ?_)
    · simp only [Int32.lt_iff_toInt_lt, Int32.le_iff_toInt_le, Int32.reduceToInt, ← Int32.toInt_inj] at h_64
      refine v_aload_n hC dX12_number_47 rfl ?_
      refine v_vi hC (rest := []) m_1 e_22 rfl mi_X12_good ms_X12_good (p_X12_good hW k_0) mx_X12_good ml_X12_139 (by decide) rfl (cells1 := 0) (slots1 := 0) (by decide) (by decide) (Nat.le_of_ble_eq_true rfl) (Nat.le_of_ble_eq_true rfl) rfl (Nat.le_of_ble_eq_true rfl) dX12_number_48 (fun r_65 L_66 f_67 h_68 => ?_)
      obtain ⟨rfl, rfl, b_69, x_70⟩ := h_68
      have fe_73 : fld (f a_0) 12 = (v_35 : Int32).toInt := by rw [e_22]; rfl
      rw [fe_73] at x_70
      try simp only [Int32.reduceToInt, Int64.reduceToInt] at x_70
      refine v_if_ne hC dX12_number_51 (tgt := 56) (by decide) (fun h_74 => ?_) (fun h_74 => ?_)
      · simp only [Int32.lt_iff_toInt_lt, Int32.le_iff_toInt_le, Int32.reduceToInt, ← Int32.toInt_inj] at h_74
        refine v_aload_n hC dX12_number_56 rfl ?_
        refine v_get hC fl_X12_131 m_1 e_22 rfl dX12_number_57 ?_
        refine v_istore_n hC dX12_number_60 (by decide) (lv' := [(3, .int v_34), (0, .ref a_0), (1, .int a_1), (2, .int a_2)]) rfl ?_
        refine v_aload_n hC dX12_number_61 rfl ?_
        refine v_vv hC (rest := []) m_1 e_22 rfl mi_X12_advance ms_X12_advance (p_X12_advance hW k_0) mx_X12_advance ml_X12_156 (by decide) rfl (cells1 := 0) (slots1 := 0) (by decide) (by decide) (Nat.le_of_ble_eq_true rfl) (Nat.le_of_ble_eq_true rfl) rfl (Nat.le_of_ble_eq_true rfl) dX12_number_62 (fun L_76 f_77 h_78 => ?_)
        obtain ⟨rfl, hW_83, hF_84, x_79, x_80, x_81, x_82⟩ := h_78
        have fe_85 : fld (f a_0) 8 = (v_28 : Int32).toInt := by rw [e_22]; rfl
        have fe_86 : fld (f a_0) 12 = (v_35 : Int32).toInt := by rw [e_22]; rfl
        have fe_87 : fld (f a_0) 20 = (v_39 : Int32).toInt := by rw [e_22]; rfl
        rw [fe_85] at x_79
        obtain ⟨v_89, v_90, v_92, v_94, v_96, v_98, v_100, v_101, v_102, v_103, v_105, e_88, b_91, b_93, b_95, b_97, b_99, b_104, b_106⟩ := hW_83.at m_1 t_2
        have fe_107 : fld (f_77 a_0) 8 = (v_94 : Int32).toInt := by rw [e_88]; rfl
        have fe_108 : fld (f_77 a_0) 9 = (v_96 : Int32).toInt := by rw [e_88]; rfl
        rw [fe_107, fe_108] at x_79
        have fe_109 : fld (f_77 a_0) 8 = (v_94 : Int32).toInt := by rw [e_88]; rfl
        have fe_110 : fld (f_77 a_0) 9 = (v_96 : Int32).toInt := by rw [e_88]; rfl
        have fe_111 : fld (f_77 a_0) 10 = (v_98 : Int32).toInt := by rw [e_88]; rfl
        rw [fe_109, fe_110, fe_111] at x_80
        rw [fe_86] at x_81
        have fe_112 : fld (f_77 a_0) 12 = (v_101 : Int32).toInt := by rw [e_88]; rfl
        rw [fe_112] at x_81
        rw [fe_87] at x_82
        have fe_113 : fld (f_77 a_0) 20 = (v_105 : Int32).toInt := by rw [e_88]; rfl
        rw [fe_113] at x_82
        refine v_iload_n hC dX12_number_65 rfl ?_
        have fe_114 : fld (f_77 a_0) 8 = (v_94 : Int32).toInt := by rw [e_88]; rfl
        have fe_115 : fld (f_77 a_0) 9 = (v_96 : Int32).toInt := by rw [e_88]; rfl
        have fe_116 : fld (f_77 a_0) 10 = (v_98 : Int32).toInt := by rw [e_88]; rfl
        have fe_117 : fld (f_77 a_0) 12 = (v_101 : Int32).toInt := by rw [e_88]; rfl
        have fe_118 : fld (f_77 a_0) 12 = (v_101 : Int32).toInt := by rw [e_88]; rfl
        have fe_119 : fld (f_77 a_0) 20 = (v_105 : Int32).toInt := by rw [e_88]; rfl
        exact hR _ _ _ _ _ _ _ dX12_number_66 rfl (Nat.le_of_ble_eq_true rfl) (Nat.le_of_ble_eq_true rfl) ⟨rfl, hW_83, (hF_84.mono rfl), (by simp only [fe_114, fe_115, fe_116, fe_117, mz_41, mz_42, mz_43, true_and, and_true, or_true, true_or, false_or, or_false, false_and, and_false, not_true_eq_false, not_false_eq_true] <;> first | omega | (simp only [Int32.lt_iff_toInt_lt, Int32.le_iff_toInt_le, Int32.reduceToInt, ← Int32.toInt_inj, true_and, and_true, or_true, true_or, false_or, or_false, false_and, and_false, not_true_eq_false, not_false_eq_true] <;> omega)), (by simp only [fe_118, true_and, and_true, or_true, true_or, false_or, or_false, false_and, and_false, not_true_eq_false, not_false_eq_true] <;> first | omega | (simp only [Int32.lt_iff_toInt_lt, Int32.le_iff_toInt_le, Int32.reduceToInt, ← Int32.toInt_inj, true_and, and_true, or_true, true_or, false_or, or_false, false_and, and_false, not_true_eq_false, not_false_eq_true] <;> omega)), (by simp only [fe_119, mz_44, true_and, and_true, or_true, true_or, false_or, or_false, false_and, and_false, not_true_eq_false, not_false_eq_true] <;> first | omega | (simp only [Int32.lt_iff_toInt_lt, Int32.le_iff_toInt_le, Int32.reduceToInt, ← Int32.toInt_inj, true_and, and_true, or_true, true_or, false_or, or_false, false_and, and_false, not_true_eq_false, not_false_eq_true] <;> omega))⟩
      · simp only [Int32.lt_iff_toInt_lt, Int32.le_iff_toInt_le, Int32.reduceToInt, ← Int32.toInt_inj] at h_74
        refine v_iconst hC dX12_number_54 (v := 0) (by decide) ?_
        have fe_120 : fld (f a_0) 8 = (v_28 : Int32).toInt := by rw [e_22]; rfl
        have fe_121 : fld (f a_0) 9 = (v_30 : Int32).toInt := by rw [e_22]; rfl
        have fe_122 : fld (f a_0) 10 = (v_32 : Int32).toInt := by rw [e_22]; rfl
        have fe_123 : fld (f a_0) 12 = (v_35 : Int32).toInt := by rw [e_22]; rfl
        have fe_124 : fld (f a_0) 12 = (v_35 : Int32).toInt := by rw [e_22]; rfl
        have fe_125 : fld (f a_0) 20 = (v_39 : Int32).toInt := by rw [e_22]; rfl
        exact hR _ _ _ _ _ _ _ dX12_number_55 rfl (Nat.le_of_ble_eq_true rfl) (Nat.le_of_ble_eq_true rfl) ⟨rfl, hW, FR.rf, (by simp only [fe_120, fe_121, fe_122, fe_123, mz_41, mz_42, mz_43, true_and, and_true, or_true, true_or, false_or, or_false, false_and, and_false, not_true_eq_false, not_false_eq_true] <;> first | omega | (simp only [Int32.lt_iff_toInt_lt, Int32.le_iff_toInt_le, Int32.reduceToInt, ← Int32.toInt_inj, true_and, and_true, or_true, true_or, false_or, or_false, false_and, and_false, not_true_eq_false, not_false_eq_true] <;> omega)), (by simp only [fe_124, true_and, and_true, or_true, true_or, false_or, or_false, false_and, and_false, not_true_eq_false, not_false_eq_true] <;> first | omega | (simp only [Int32.lt_iff_toInt_lt, Int32.le_iff_toInt_le, Int32.reduceToInt, ← Int32.toInt_inj, true_and, and_true, or_true, true_or, false_or, or_false, false_and, and_false, not_true_eq_false, not_false_eq_true] <;> omega)), (by simp only [fe_125, mz_44, true_and, and_true, or_true, true_or, false_or, or_false, false_and, and_false, not_true_eq_false, not_false_eq_true] <;> first | omega | (simp only [Int32.lt_iff_toInt_lt, Int32.le_iff_toInt_le, Int32.reduceToInt, ← Int32.toInt_inj, true_and, and_true, or_true, true_or, false_or, or_false, false_and, and_false, not_true_eq_false, not_false_eq_true] <;> omega))⟩
    · simp only [Int32.lt_iff_toInt_lt, Int32.le_iff_toInt_le, Int32.reduceToInt, ← Int32.toInt_inj] at h_64
      refine v_aload_n hC dX12_number_27 rfl ?_
      refine v_get hC fl_X12_131 m_1 e_22 rfl dX12_number_28 ?_
      obtain ⟨v_126, h_127⟩ : ∃ v9 : Int64, v_34.toInt64 = v9 := ⟨_, rfl⟩
      refine v_i2l hC dX12_number_31 h_127 ?_
      have h_128 : v_126.toInt = v_34.toInt := by rw [← h_127]; exact Int32.toInt_toInt64 _
      refine v_iload_n hC dX12_number_32 rfl ?_
      obtain ⟨v_129, h_130⟩ : ∃ v9 : Int64, a_1.toInt64 = v9 := ⟨_, rfl⟩
      refine v_i2l hC dX12_number_33 h_130 ?_
      have h_131 : v_129.toInt = a_1.toInt := by rw [← h_130]; exact Int32.toInt_toInt64 _
      refine v_iload_n hC dX12_number_34 rfl ?_
      obtain ⟨v_132, h_133⟩ : ∃ v9 : Int64, a_2.toInt64 = v9 := ⟨_, rfl⟩
      refine v_i2l hC dX12_number_35 h_133 ?_
      have h_134 : v_132.toInt = a_2.toInt := by rw [← h_133]; exact Int32.toInt_toInt64 _
      refine v_si hC (rest := []) mt_X12_in (p_X12_in hW) mx_X12_in ml_X12_79 (by decide) rfl (cells1 := 0) (slots1 := 0) (by decide) (by decide) (Nat.le_of_ble_eq_true rfl) (Nat.le_of_ble_eq_true rfl) rfl (Nat.le_of_ble_eq_true rfl) dX12_number_36 (fun r_135 L_136 f_137 h_138 => ?_)
      obtain ⟨rfl, rfl, b_139, x_140⟩ := h_138
      try simp only [Int32.reduceToInt, Int64.reduceToInt] at x_140
      refine v_if_ne hC dX12_number_39 (tgt := 47) (by decide) (fun h_143 => ?_) (fun h_143 => ?_)
      · simp only [Int32.lt_iff_toInt_lt, Int32.le_iff_toInt_le, Int32.reduceToInt, ← Int32.toInt_inj] at h_143
        refine v_aload_n hC dX12_number_47 rfl ?_
        refine v_vi hC (rest := []) m_1 e_22 rfl mi_X12_good ms_X12_good (p_X12_good hW k_0) mx_X12_good ml_X12_139 (by decide) rfl (cells1 := 0) (slots1 := 0) (by decide) (by decide) (Nat.le_of_ble_eq_true rfl) (Nat.le_of_ble_eq_true rfl) rfl (Nat.le_of_ble_eq_true rfl) dX12_number_48 (fun r_144 L_145 f_146 h_147 => ?_)
        obtain ⟨rfl, rfl, b_148, x_149⟩ := h_147
        have fe_152 : fld (f a_0) 12 = (v_35 : Int32).toInt := by rw [e_22]; rfl
        rw [fe_152] at x_149
        try simp only [Int32.reduceToInt, Int64.reduceToInt] at x_149
        refine v_if_ne hC dX12_number_51 (tgt := 56) (by decide) (fun h_153 => ?_) (fun h_153 => ?_)
        · simp only [Int32.lt_iff_toInt_lt, Int32.le_iff_toInt_le, Int32.reduceToInt, ← Int32.toInt_inj] at h_153
          refine v_aload_n hC dX12_number_56 rfl ?_
          refine v_get hC fl_X12_131 m_1 e_22 rfl dX12_number_57 ?_
          refine v_istore_n hC dX12_number_60 (by decide) (lv' := [(3, .int v_34), (0, .ref a_0), (1, .int a_1), (2, .int a_2)]) rfl ?_
          refine v_aload_n hC dX12_number_61 rfl ?_
          refine v_vv hC (rest := []) m_1 e_22 rfl mi_X12_advance ms_X12_advance (p_X12_advance hW k_0) mx_X12_advance ml_X12_156 (by decide) rfl (cells1 := 0) (slots1 := 0) (by decide) (by decide) (Nat.le_of_ble_eq_true rfl) (Nat.le_of_ble_eq_true rfl) rfl (Nat.le_of_ble_eq_true rfl) dX12_number_62 (fun L_155 f_156 h_157 => ?_)
          obtain ⟨rfl, hW_162, hF_163, x_158, x_159, x_160, x_161⟩ := h_157
          have fe_164 : fld (f a_0) 8 = (v_28 : Int32).toInt := by rw [e_22]; rfl
          have fe_165 : fld (f a_0) 12 = (v_35 : Int32).toInt := by rw [e_22]; rfl
          have fe_166 : fld (f a_0) 20 = (v_39 : Int32).toInt := by rw [e_22]; rfl
          rw [fe_164] at x_158
          obtain ⟨v_168, v_169, v_171, v_173, v_175, v_177, v_179, v_180, v_181, v_182, v_184, e_167, b_170, b_172, b_174, b_176, b_178, b_183, b_185⟩ := hW_162.at m_1 t_2
          have fe_186 : fld (f_156 a_0) 8 = (v_173 : Int32).toInt := by rw [e_167]; rfl
          have fe_187 : fld (f_156 a_0) 9 = (v_175 : Int32).toInt := by rw [e_167]; rfl
          rw [fe_186, fe_187] at x_158
          have fe_188 : fld (f_156 a_0) 8 = (v_173 : Int32).toInt := by rw [e_167]; rfl
          have fe_189 : fld (f_156 a_0) 9 = (v_175 : Int32).toInt := by rw [e_167]; rfl
          have fe_190 : fld (f_156 a_0) 10 = (v_177 : Int32).toInt := by rw [e_167]; rfl
          rw [fe_188, fe_189, fe_190] at x_159
          rw [fe_165] at x_160
          have fe_191 : fld (f_156 a_0) 12 = (v_180 : Int32).toInt := by rw [e_167]; rfl
          rw [fe_191] at x_160
          rw [fe_166] at x_161
          have fe_192 : fld (f_156 a_0) 20 = (v_184 : Int32).toInt := by rw [e_167]; rfl
          rw [fe_192] at x_161
          refine v_iload_n hC dX12_number_65 rfl ?_
          have fe_193 : fld (f_156 a_0) 8 = (v_173 : Int32).toInt := by rw [e_167]; rfl
          have fe_194 : fld (f_156 a_0) 9 = (v_175 : Int32).toInt := by rw [e_167]; rfl
          have fe_195 : fld (f_156 a_0) 10 = (v_177 : Int32).toInt := by rw [e_167]; rfl
          have fe_196 : fld (f_156 a_0) 12 = (v_180 : Int32).toInt := by rw [e_167]; rfl
          have fe_197 : fld (f_156 a_0) 12 = (v_180 : Int32).toInt := by rw [e_167]; rfl
          have fe_198 : fld (f_156 a_0) 20 = (v_184 : Int32).toInt := by rw [e_167]; rfl
          exact hR _ _ _ _ _ _ _ dX12_number_66 rfl (Nat.le_of_ble_eq_true rfl) (Nat.le_of_ble_eq_true rfl) ⟨rfl, hW_162, (hF_163.mono rfl), (by simp only [fe_193, fe_194, fe_195, fe_196, mz_41, mz_42, mz_43, true_and, and_true, or_true, true_or, false_or, or_false, false_and, and_false, not_true_eq_false, not_false_eq_true] <;> first | omega | (simp only [Int32.lt_iff_toInt_lt, Int32.le_iff_toInt_le, Int32.reduceToInt, ← Int32.toInt_inj, true_and, and_true, or_true, true_or, false_or, or_false, false_and, and_false, not_true_eq_false, not_false_eq_true] <;> omega)), (by simp only [fe_197, true_and, and_true, or_true, true_or, false_or, or_false, false_and, and_false, not_true_eq_false, not_false_eq_true] <;> first | omega | (simp only [Int32.lt_iff_toInt_lt, Int32.le_iff_toInt_le, Int32.reduceToInt, ← Int32.toInt_inj, true_and, and_true, or_true, true_or, false_or, or_false, false_and, and_false, not_true_eq_false, not_false_eq_true] <;> omega)), (by simp only [fe_198, mz_44, true_and, and_true, or_true, true_or, false_or, or_false, false_and, and_false, not_true_eq_false, not_false_eq_true] <;> first | omega | (simp only [Int32.lt_iff_toInt_lt, Int32.le_iff_toInt_le, Int32.reduceToInt, ← Int32.toInt_inj, true_and, and_true, or_true, true_or, false_or, or_false, false_and, and_false, not_true_eq_false, not_false_eq_true] <;> omega))⟩
        · simp only [Int32.lt_iff_toInt_lt, Int32.le_iff_toInt_le, Int32.reduceToInt, ← Int32.toInt_inj] at h_153
          refine v_iconst hC dX12_number_54 (v := 0) (by decide) ?_
          have fe_199 : fld (f a_0) 8 = (v_28 : Int32).toInt := by rw [e_22]; rfl
          have fe_200 : fld (f a_0) 9 = (v_30 : Int32).toInt := by rw [e_22]; rfl
          have fe_201 : fld (f a_0) 10 = (v_32 : Int32).toInt := by rw [e_22]; rfl
          have fe_202 : fld (f a_0) 12 = (v_35 : Int32).toInt := by rw [e_22]; rfl
          have fe_203 : fld (f a_0) 12 = (v_35 : Int32).toInt := by rw [e_22]; rfl
          have fe_204 : fld (f a_0) 20 = (v_39 : Int32).toInt := by rw [e_22]; rfl
          exact hR _ _ _ _ _ _ _ dX12_number_55 rfl (Nat.le_of_ble_eq_true rfl) (Nat.le_of_ble_eq_true rfl) ⟨rfl, hW, FR.rf, (by simp only [fe_199, fe_200, fe_201, fe_202, mz_41, mz_42, mz_43, true_and, and_true, or_true, true_or, false_or, or_false, false_and, and_false, not_true_eq_false, not_false_eq_true] <;> first | omega | (simp only [Int32.lt_iff_toInt_lt, Int32.le_iff_toInt_le, Int32.reduceToInt, ← Int32.toInt_inj, true_and, and_true, or_true, true_or, false_or, or_false, false_and, and_false, not_true_eq_false, not_false_eq_true] <;> omega)), (by simp only [fe_203, true_and, and_true, or_true, true_or, false_or, or_false, false_and, and_false, not_true_eq_false, not_false_eq_true] <;> first | omega | (simp only [Int32.lt_iff_toInt_lt, Int32.le_iff_toInt_le, Int32.reduceToInt, ← Int32.toInt_inj, true_and, and_true, or_true, true_or, false_or, or_false, false_and, and_false, not_true_eq_false, not_false_eq_true] <;> omega)), (by simp only [fe_204, mz_44, true_and, and_true, or_true, true_or, false_or, or_false, false_and, and_false, not_true_eq_false, not_false_eq_true] <;> first | omega | (simp only [Int32.lt_iff_toInt_lt, Int32.le_iff_toInt_le, Int32.reduceToInt, ← Int32.toInt_inj, true_and, and_true, or_true, true_or, false_or, or_false, false_and, and_false, not_true_eq_false, not_false_eq_true] <;> omega))⟩
      · simp only [Int32.lt_iff_toInt_lt, Int32.le_iff_toInt_le, Int32.reduceToInt, ← Int32.toInt_inj] at h_143
        refine v_aload_n hC dX12_number_42 rfl ?_
        refine v_iconst hC dX12_number_43 (v := 2) (by decide) ?_
        refine v_vv hC (rest := []) m_1 e_22 rfl mi_X12_errs ms_X12_errs (p_X12_errs hW k_0 (by decide)) mx_X12_errs ml_X12_162 (by decide) rfl (cells1 := 0) (slots1 := 0) (by decide) (by decide) (Nat.le_of_ble_eq_true rfl) (Nat.le_of_ble_eq_true rfl) rfl (Nat.le_of_ble_eq_true rfl) dX12_number_44 (fun L_206 f_207 h_208 => ?_)
        obtain ⟨rfl, hW_214, hF_215, x_209, x_210, x_211, x_212, x_213⟩ := h_208
        have fe_216 : fld (f a_0) 8 = (v_28 : Int32).toInt := by rw [e_22]; rfl
        have fe_217 : fld (f a_0) 9 = (v_30 : Int32).toInt := by rw [e_22]; rfl
        have fe_218 : fld (f a_0) 10 = (v_32 : Int32).toInt := by rw [e_22]; rfl
        have fe_219 : fld (f a_0) 20 = (v_39 : Int32).toInt := by rw [e_22]; rfl
        obtain ⟨v_221, v_222, v_224, v_226, v_228, v_230, v_232, v_233, v_234, v_235, v_237, e_220, b_223, b_225, b_227, b_229, b_231, b_236, b_238⟩ := hW_214.at m_1 t_2
        have fe_239 : fld (f_207 a_0) 12 = (v_233 : Int32).toInt := by rw [e_220]; rfl
        rw [fe_239] at x_209
        rw [fe_216] at x_210
        have fe_240 : fld (f_207 a_0) 8 = (v_226 : Int32).toInt := by rw [e_220]; rfl
        rw [fe_240] at x_210
        rw [fe_217] at x_211
        have fe_241 : fld (f_207 a_0) 9 = (v_228 : Int32).toInt := by rw [e_220]; rfl
        rw [fe_241] at x_211
        rw [fe_218] at x_212
        have fe_242 : fld (f_207 a_0) 10 = (v_230 : Int32).toInt := by rw [e_220]; rfl
        rw [fe_242] at x_212
        rw [fe_219] at x_213
        have fe_243 : fld (f_207 a_0) 20 = (v_237 : Int32).toInt := by rw [e_220]; rfl
        rw [fe_243] at x_213
        refine v_aload_n hC dX12_number_47 rfl ?_
        refine v_vi hC (rest := []) m_1 e_220 rfl mi_X12_good ms_X12_good (p_X12_good hW_214 k_0) mx_X12_good ml_X12_139 (by decide) rfl (cells1 := 0) (slots1 := 0) (by decide) (by decide) (Nat.le_of_ble_eq_true rfl) (Nat.le_of_ble_eq_true rfl) rfl (Nat.le_of_ble_eq_true rfl) dX12_number_48 (fun r_244 L_245 f_246 h_247 => ?_)
        obtain ⟨rfl, rfl, b_248, x_249⟩ := h_247
        have fe_252 : fld (f_207 a_0) 12 = (v_233 : Int32).toInt := by rw [e_220]; rfl
        rw [fe_252] at x_249
        try simp only [Int32.reduceToInt, Int64.reduceToInt] at x_249
        refine v_if_ne hC dX12_number_51 (tgt := 56) (by decide) (fun h_253 => ?_) (fun h_253 => ?_)
        · simp only [Int32.lt_iff_toInt_lt, Int32.le_iff_toInt_le, Int32.reduceToInt, ← Int32.toInt_inj] at h_253
          refine v_aload_n hC dX12_number_56 rfl ?_
          refine v_get hC fl_X12_131 m_1 e_220 rfl dX12_number_57 ?_
          refine v_istore_n hC dX12_number_60 (by decide) (lv' := [(3, .int v_232), (0, .ref a_0), (1, .int a_1), (2, .int a_2)]) rfl ?_
          refine v_aload_n hC dX12_number_61 rfl ?_
          refine v_vv hC (rest := []) m_1 e_220 rfl mi_X12_advance ms_X12_advance (p_X12_advance hW_214 k_0) mx_X12_advance ml_X12_156 (by decide) rfl (cells1 := 0) (slots1 := 0) (by decide) (by decide) (Nat.le_of_ble_eq_true rfl) (Nat.le_of_ble_eq_true rfl) rfl (Nat.le_of_ble_eq_true rfl) dX12_number_62 (fun L_255 f_256 h_257 => ?_)
          obtain ⟨rfl, hW_262, hF_263, x_258, x_259, x_260, x_261⟩ := h_257
          have fe_264 : fld (f_207 a_0) 8 = (v_226 : Int32).toInt := by rw [e_220]; rfl
          have fe_265 : fld (f_207 a_0) 12 = (v_233 : Int32).toInt := by rw [e_220]; rfl
          have fe_266 : fld (f_207 a_0) 20 = (v_237 : Int32).toInt := by rw [e_220]; rfl
          rw [fe_264] at x_258
          obtain ⟨v_268, v_269, v_271, v_273, v_275, v_277, v_279, v_280, v_281, v_282, v_284, e_267, b_270, b_272, b_274, b_276, b_278, b_283, b_285⟩ := hW_262.at m_1 t_2
          have fe_286 : fld (f_256 a_0) 8 = (v_273 : Int32).toInt := by rw [e_267]; rfl
          have fe_287 : fld (f_256 a_0) 9 = (v_275 : Int32).toInt := by rw [e_267]; rfl
          rw [fe_286, fe_287] at x_258
          have fe_288 : fld (f_256 a_0) 8 = (v_273 : Int32).toInt := by rw [e_267]; rfl
          have fe_289 : fld (f_256 a_0) 9 = (v_275 : Int32).toInt := by rw [e_267]; rfl
          have fe_290 : fld (f_256 a_0) 10 = (v_277 : Int32).toInt := by rw [e_267]; rfl
          rw [fe_288, fe_289, fe_290] at x_259
          rw [fe_265] at x_260
          have fe_291 : fld (f_256 a_0) 12 = (v_280 : Int32).toInt := by rw [e_267]; rfl
          rw [fe_291] at x_260
          rw [fe_266] at x_261
          have fe_292 : fld (f_256 a_0) 20 = (v_284 : Int32).toInt := by rw [e_267]; rfl
          rw [fe_292] at x_261
          refine v_iload_n hC dX12_number_65 rfl ?_
          have fe_293 : fld (f_256 a_0) 8 = (v_273 : Int32).toInt := by rw [e_267]; rfl
          have fe_294 : fld (f_256 a_0) 9 = (v_275 : Int32).toInt := by rw [e_267]; rfl
          have fe_295 : fld (f_256 a_0) 10 = (v_277 : Int32).toInt := by rw [e_267]; rfl
          have fe_296 : fld (f_256 a_0) 12 = (v_280 : Int32).toInt := by rw [e_267]; rfl
          have fe_297 : fld (f_256 a_0) 12 = (v_280 : Int32).toInt := by rw [e_267]; rfl
          have fe_298 : fld (f_256 a_0) 20 = (v_284 : Int32).toInt := by rw [e_267]; rfl
          exact hR _ _ _ _ _ _ _ dX12_number_66 rfl (Nat.le_of_ble_eq_true rfl) (Nat.le_of_ble_eq_true rfl) ⟨rfl, hW_262, ((hF_215.tr hF_263).mono rfl), (by simp only [fe_293, fe_294, fe_295, fe_296, mz_41, mz_42, mz_43, true_and, and_true, or_true, true_or, false_or, or_false, false_and, and_false, not_true_eq_false, not_false_eq_true] <;> first | omega | (simp only [Int32.lt_iff_toInt_lt, Int32.le_iff_toInt_le, Int32.reduceToInt, ← Int32.toInt_inj, true_and, and_true, or_true, true_or, false_or, or_false, false_and, and_false, not_true_eq_false, not_false_eq_true] <;> omega)), (by simp only [fe_297, true_and, and_true, or_true, true_or, false_or, or_false, false_and, and_false, not_true_eq_false, not_false_eq_true] <;> first | omega | (simp only [Int32.lt_iff_toInt_lt, Int32.le_iff_toInt_le, Int32.reduceToInt, ← Int32.toInt_inj, true_and, and_true, or_true, true_or, false_or, or_false, false_and, and_false, not_true_eq_false, not_false_eq_true] <;> omega)), (by simp only [fe_298, mz_44, true_and, and_true, or_true, true_or, false_or, or_false, false_and, and_false, not_true_eq_false, not_false_eq_true] <;> first | omega | (simp only [Int32.lt_iff_toInt_lt, Int32.le_iff_toInt_le, Int32.reduceToInt, ← Int32.toInt_inj, true_and, and_true, or_true, true_or, false_or, or_false, false_and, and_false, not_true_eq_false, not_false_eq_true] <;> omega))⟩
        · simp only [Int32.lt_iff_toInt_lt, Int32.le_iff_toInt_le, Int32.reduceToInt, ← Int32.toInt_inj] at h_253
          refine v_iconst hC dX12_number_54 (v := 0) (by decide) ?_
          have fe_299 : fld (f_207 a_0) 8 = (v_226 : Int32).toInt := by rw [e_220]; rfl
          have fe_300 : fld (f_207 a_0) 9 = (v_228 : Int32).toInt := by rw [e_220]; rfl
          have fe_301 : fld (f_207 a_0) 10 = (v_230 : Int32).toInt := by rw [e_220]; rfl
          have fe_302 : fld (f_207 a_0) 12 = (v_233 : Int32).toInt := by rw [e_220]; rfl
          have fe_303 : fld (f_207 a_0) 12 = (v_233 : Int32).toInt := by rw [e_220]; rfl
          have fe_304 : fld (f_207 a_0) 20 = (v_237 : Int32).toInt := by rw [e_220]; rfl
          exact hR _ _ _ _ _ _ _ dX12_number_55 rfl (Nat.le_of_ble_eq_true rfl) (Nat.le_of_ble_eq_true rfl) ⟨rfl, hW_214, (hF_215.mono rfl), (by simp only [fe_299, fe_300, fe_301, fe_302, mz_41, mz_42, mz_43, true_and, and_true, or_true, true_or, false_or, or_false, false_and, and_false, not_true_eq_false, not_false_eq_true] <;> first | omega | (simp only [Int32.lt_iff_toInt_lt, Int32.le_iff_toInt_le, Int32.reduceToInt, ← Int32.toInt_inj, true_and, and_true, or_true, true_or, false_or, or_false, false_and, and_false, not_true_eq_false, not_false_eq_true] <;> omega)), (by simp only [fe_303, true_and, and_true, or_true, true_or, false_or, or_false, false_and, and_false, not_true_eq_false, not_false_eq_true] <;> first | omega | (simp only [Int32.lt_iff_toInt_lt, Int32.le_iff_toInt_le, Int32.reduceToInt, ← Int32.toInt_inj, true_and, and_true, or_true, true_or, false_or, or_false, false_and, and_false, not_true_eq_false, not_false_eq_true] <;> omega)), (by simp only [fe_304, mz_44, true_and, and_true, or_true, true_or, false_or, or_false, false_and, and_false, not_true_eq_false, not_false_eq_true] <;> first | omega | (simp only [Int32.lt_iff_toInt_lt, Int32.le_iff_toInt_le, Int32.reduceToInt, ← Int32.toInt_inj, true_and, and_true, or_true, true_or, false_or, or_false, false_and, and_false, not_true_eq_false, not_false_eq_true] <;> omega))⟩
  · simp only [Int32.lt_iff_toInt_lt, Int32.le_iff_toInt_le, Int32.reduceToInt, ← Int32.toInt_inj] at h_54
    refine v_aload_n hC dX12_number_7 rfl ?_
    refine v_get hC fl_X12_120 m_1 e_22 rfl dX12_number_8 ?_
    refine v_iconst hC dX12_number_11 (v := 2) (by decide) ?_
    refine v_icmp_eq hC dX12_number_12 (tgt := 20) (by decide) (fun h_305 => ?_) (fun h_305 => ?_)
    · simp only [Int32.lt_iff_toInt_lt, Int32.le_iff_toInt_le, Int32.reduceToInt, ← Int32.toInt_inj] at h_305
      refine v_aload_n hC dX12_number_20 rfl ?_
      refine v_vi hC (rest := []) m_1 e_22 rfl mi_X12_good ms_X12_good (p_X12_good hW k_0) mx_X12_good ml_X12_139 (by decide) rfl (cells1 := 0) (slots1 := 0) (by decide) (by decide) (Nat.le_of_ble_eq_true rfl) (Nat.le_of_ble_eq_true rfl) rfl (Nat.le_of_ble_eq_true rfl) dX12_number_21 (fun r_306 L_307 f_308 h_309 => ?_)
      obtain ⟨rfl, rfl, b_310, x_311⟩ := h_309
      have fe_314 : fld (f a_0) 12 = (v_35 : Int32).toInt := by rw [e_22]; rfl
      rw [fe_314] at x_311
      try simp only [Int32.reduceToInt, Int64.reduceToInt] at x_311
      refine v_if_eq hC dX12_number_24 (tgt := 47) (by decide) (fun h_315 => ?_) (fun h_315 => ?_)
      · simp only [Int32.lt_iff_toInt_lt, Int32.le_iff_toInt_le, Int32.reduceToInt, ← Int32.toInt_inj] at h_315
        refine v_aload_n hC dX12_number_47 rfl ?_
        refine v_vi hC (rest := []) m_1 e_22 rfl mi_X12_good ms_X12_good (p_X12_good hW k_0) mx_X12_good ml_X12_139 (by decide) rfl (cells1 := 0) (slots1 := 0) (by decide) (by decide) (Nat.le_of_ble_eq_true rfl) (Nat.le_of_ble_eq_true rfl) rfl (Nat.le_of_ble_eq_true rfl) dX12_number_48 (fun r_316 L_317 f_318 h_319 => ?_)
        obtain ⟨rfl, rfl, b_320, x_321⟩ := h_319
        have fe_324 : fld (f a_0) 12 = (v_35 : Int32).toInt := by rw [e_22]; rfl
        rw [fe_324] at x_321
        try simp only [Int32.reduceToInt, Int64.reduceToInt] at x_321
        refine v_if_ne hC dX12_number_51 (tgt := 56) (by decide) (fun h_325 => ?_) (fun h_325 => ?_)
        · simp only [Int32.lt_iff_toInt_lt, Int32.le_iff_toInt_le, Int32.reduceToInt, ← Int32.toInt_inj] at h_325
          refine v_aload_n hC dX12_number_56 rfl ?_
          refine v_get hC fl_X12_131 m_1 e_22 rfl dX12_number_57 ?_
          refine v_istore_n hC dX12_number_60 (by decide) (lv' := [(3, .int v_34), (0, .ref a_0), (1, .int a_1), (2, .int a_2)]) rfl ?_
          refine v_aload_n hC dX12_number_61 rfl ?_
          refine v_vv hC (rest := []) m_1 e_22 rfl mi_X12_advance ms_X12_advance (p_X12_advance hW k_0) mx_X12_advance ml_X12_156 (by decide) rfl (cells1 := 0) (slots1 := 0) (by decide) (by decide) (Nat.le_of_ble_eq_true rfl) (Nat.le_of_ble_eq_true rfl) rfl (Nat.le_of_ble_eq_true rfl) dX12_number_62 (fun L_327 f_328 h_329 => ?_)
          obtain ⟨rfl, hW_334, hF_335, x_330, x_331, x_332, x_333⟩ := h_329
          have fe_336 : fld (f a_0) 8 = (v_28 : Int32).toInt := by rw [e_22]; rfl
          have fe_337 : fld (f a_0) 12 = (v_35 : Int32).toInt := by rw [e_22]; rfl
          have fe_338 : fld (f a_0) 20 = (v_39 : Int32).toInt := by rw [e_22]; rfl
          rw [fe_336] at x_330
          obtain ⟨v_340, v_341, v_343, v_345, v_347, v_349, v_351, v_352, v_353, v_354, v_356, e_339, b_342, b_344, b_346, b_348, b_350, b_355, b_357⟩ := hW_334.at m_1 t_2
          have fe_358 : fld (f_328 a_0) 8 = (v_345 : Int32).toInt := by rw [e_339]; rfl
          have fe_359 : fld (f_328 a_0) 9 = (v_347 : Int32).toInt := by rw [e_339]; rfl
          rw [fe_358, fe_359] at x_330
          have fe_360 : fld (f_328 a_0) 8 = (v_345 : Int32).toInt := by rw [e_339]; rfl
          have fe_361 : fld (f_328 a_0) 9 = (v_347 : Int32).toInt := by rw [e_339]; rfl
          have fe_362 : fld (f_328 a_0) 10 = (v_349 : Int32).toInt := by rw [e_339]; rfl
          rw [fe_360, fe_361, fe_362] at x_331
          rw [fe_337] at x_332
          have fe_363 : fld (f_328 a_0) 12 = (v_352 : Int32).toInt := by rw [e_339]; rfl
          rw [fe_363] at x_332
          rw [fe_338] at x_333
          have fe_364 : fld (f_328 a_0) 20 = (v_356 : Int32).toInt := by rw [e_339]; rfl
          rw [fe_364] at x_333
          refine v_iload_n hC dX12_number_65 rfl ?_
          have fe_365 : fld (f_328 a_0) 8 = (v_345 : Int32).toInt := by rw [e_339]; rfl
          have fe_366 : fld (f_328 a_0) 9 = (v_347 : Int32).toInt := by rw [e_339]; rfl
          have fe_367 : fld (f_328 a_0) 10 = (v_349 : Int32).toInt := by rw [e_339]; rfl
          have fe_368 : fld (f_328 a_0) 12 = (v_352 : Int32).toInt := by rw [e_339]; rfl
          have fe_369 : fld (f_328 a_0) 12 = (v_352 : Int32).toInt := by rw [e_339]; rfl
          have fe_370 : fld (f_328 a_0) 20 = (v_356 : Int32).toInt := by rw [e_339]; rfl
          exact hR _ _ _ _ _ _ _ dX12_number_66 rfl (Nat.le_of_ble_eq_true rfl) (Nat.le_of_ble_eq_true rfl) ⟨rfl, hW_334, (hF_335.mono rfl), (by simp only [fe_365, fe_366, fe_367, fe_368, mz_41, mz_42, mz_43, true_and, and_true, or_true, true_or, false_or, or_false, false_and, and_false, not_true_eq_false, not_false_eq_true] <;> first | omega | (simp only [Int32.lt_iff_toInt_lt, Int32.le_iff_toInt_le, Int32.reduceToInt, ← Int32.toInt_inj, true_and, and_true, or_true, true_or, false_or, or_false, false_and, and_false, not_true_eq_false, not_false_eq_true] <;> omega)), (by simp only [fe_369, true_and, and_true, or_true, true_or, false_or, or_false, false_and, and_false, not_true_eq_false, not_false_eq_true] <;> first | omega | (simp only [Int32.lt_iff_toInt_lt, Int32.le_iff_toInt_le, Int32.reduceToInt, ← Int32.toInt_inj, true_and, and_true, or_true, true_or, false_or, or_false, false_and, and_false, not_true_eq_false, not_false_eq_true] <;> omega)), (by simp only [fe_370, mz_44, true_and, and_true, or_true, true_or, false_or, or_false, false_and, and_false, not_true_eq_false, not_false_eq_true] <;> first | omega | (simp only [Int32.lt_iff_toInt_lt, Int32.le_iff_toInt_le, Int32.reduceToInt, ← Int32.toInt_inj, true_and, and_true, or_true, true_or, false_or, or_false, false_and, and_false, not_true_eq_false, not_false_eq_true] <;> omega))⟩
        · simp only [Int32.lt_iff_toInt_lt, Int32.le_iff_toInt_le, Int32.reduceToInt, ← Int32.toInt_inj] at h_325
          refine v_iconst hC dX12_number_54 (v := 0) (by decide) ?_
          have fe_371 : fld (f a_0) 8 = (v_28 : Int32).toInt := by rw [e_22]; rfl
          have fe_372 : fld (f a_0) 9 = (v_30 : Int32).toInt := by rw [e_22]; rfl
          have fe_373 : fld (f a_0) 10 = (v_32 : Int32).toInt := by rw [e_22]; rfl
          have fe_374 : fld (f a_0) 12 = (v_35 : Int32).toInt := by rw [e_22]; rfl
          have fe_375 : fld (f a_0) 12 = (v_35 : Int32).toInt := by rw [e_22]; rfl
          have fe_376 : fld (f a_0) 20 = (v_39 : Int32).toInt := by rw [e_22]; rfl
          exact hR _ _ _ _ _ _ _ dX12_number_55 rfl (Nat.le_of_ble_eq_true rfl) (Nat.le_of_ble_eq_true rfl) ⟨rfl, hW, FR.rf, (by simp only [fe_371, fe_372, fe_373, fe_374, mz_41, mz_42, mz_43, true_and, and_true, or_true, true_or, false_or, or_false, false_and, and_false, not_true_eq_false, not_false_eq_true] <;> first | omega | (simp only [Int32.lt_iff_toInt_lt, Int32.le_iff_toInt_le, Int32.reduceToInt, ← Int32.toInt_inj, true_and, and_true, or_true, true_or, false_or, or_false, false_and, and_false, not_true_eq_false, not_false_eq_true] <;> omega)), (by simp only [fe_375, true_and, and_true, or_true, true_or, false_or, or_false, false_and, and_false, not_true_eq_false, not_false_eq_true] <;> first | omega | (simp only [Int32.lt_iff_toInt_lt, Int32.le_iff_toInt_le, Int32.reduceToInt, ← Int32.toInt_inj, true_and, and_true, or_true, true_or, false_or, or_false, false_and, and_false, not_true_eq_false, not_false_eq_true] <;> omega)), (by simp only [fe_376, mz_44, true_and, and_true, or_true, true_or, false_or, or_false, false_and, and_false, not_true_eq_false, not_false_eq_true] <;> first | omega | (simp only [Int32.lt_iff_toInt_lt, Int32.le_iff_toInt_le, Int32.reduceToInt, ← Int32.toInt_inj, true_and, and_true, or_true, true_or, false_or, or_false, false_and, and_false, not_true_eq_false, not_false_eq_true] <;> omega))⟩
      · simp only [Int32.lt_iff_toInt_lt, Int32.le_iff_toInt_le, Int32.reduceToInt, ← Int32.toInt_inj] at h_315
        refine v_aload_n hC dX12_number_27 rfl ?_
        refine v_get hC fl_X12_131 m_1 e_22 rfl dX12_number_28 ?_
        obtain ⟨v_377, h_378⟩ : ∃ v9 : Int64, v_34.toInt64 = v9 := ⟨_, rfl⟩
        refine v_i2l hC dX12_number_31 h_378 ?_
        have h_379 : v_377.toInt = v_34.toInt := by rw [← h_378]; exact Int32.toInt_toInt64 _
        refine v_iload_n hC dX12_number_32 rfl ?_
        obtain ⟨v_380, h_381⟩ : ∃ v9 : Int64, a_1.toInt64 = v9 := ⟨_, rfl⟩
        refine v_i2l hC dX12_number_33 h_381 ?_
        have h_382 : v_380.toInt = a_1.toInt := by rw [← h_381]; exact Int32.toInt_toInt64 _
        refine v_iload_n hC dX12_number_34 rfl ?_
        obtain ⟨v_383, h_384⟩ : ∃ v9 : Int64, a_2.toInt64 = v9 := ⟨_, rfl⟩
        refine v_i2l hC dX12_number_35 h_384 ?_
        have h_385 : v_383.toInt = a_2.toInt := by rw [← h_384]; exact Int32.toInt_toInt64 _
        refine v_si hC (rest := []) mt_X12_in (p_X12_in hW) mx_X12_in ml_X12_79 (by decide) rfl (cells1 := 0) (slots1 := 0) (by decide) (by decide) (Nat.le_of_ble_eq_true rfl) (Nat.le_of_ble_eq_true rfl) rfl (Nat.le_of_ble_eq_true rfl) dX12_number_36 (fun r_386 L_387 f_388 h_389 => ?_)
        obtain ⟨rfl, rfl, b_390, x_391⟩ := h_389
        try simp only [Int32.reduceToInt, Int64.reduceToInt] at x_391
        refine v_if_ne hC dX12_number_39 (tgt := 47) (by decide) (fun h_394 => ?_) (fun h_394 => ?_)
        · simp only [Int32.lt_iff_toInt_lt, Int32.le_iff_toInt_le, Int32.reduceToInt, ← Int32.toInt_inj] at h_394
          refine v_aload_n hC dX12_number_47 rfl ?_
          refine v_vi hC (rest := []) m_1 e_22 rfl mi_X12_good ms_X12_good (p_X12_good hW k_0) mx_X12_good ml_X12_139 (by decide) rfl (cells1 := 0) (slots1 := 0) (by decide) (by decide) (Nat.le_of_ble_eq_true rfl) (Nat.le_of_ble_eq_true rfl) rfl (Nat.le_of_ble_eq_true rfl) dX12_number_48 (fun r_395 L_396 f_397 h_398 => ?_)
          obtain ⟨rfl, rfl, b_399, x_400⟩ := h_398
          have fe_403 : fld (f a_0) 12 = (v_35 : Int32).toInt := by rw [e_22]; rfl
          rw [fe_403] at x_400
          try simp only [Int32.reduceToInt, Int64.reduceToInt] at x_400
          refine v_if_ne hC dX12_number_51 (tgt := 56) (by decide) (fun h_404 => ?_) (fun h_404 => ?_)
          · simp only [Int32.lt_iff_toInt_lt, Int32.le_iff_toInt_le, Int32.reduceToInt, ← Int32.toInt_inj] at h_404
            refine v_aload_n hC dX12_number_56 rfl ?_
            refine v_get hC fl_X12_131 m_1 e_22 rfl dX12_number_57 ?_
            refine v_istore_n hC dX12_number_60 (by decide) (lv' := [(3, .int v_34), (0, .ref a_0), (1, .int a_1), (2, .int a_2)]) rfl ?_
            refine v_aload_n hC dX12_number_61 rfl ?_
            refine v_vv hC (rest := []) m_1 e_22 rfl mi_X12_advance ms_X12_advance (p_X12_advance hW k_0) mx_X12_advance ml_X12_156 (by decide) rfl (cells1 := 0) (slots1 := 0) (by decide) (by decide) (Nat.le_of_ble_eq_true rfl) (Nat.le_of_ble_eq_true rfl) rfl (Nat.le_of_ble_eq_true rfl) dX12_number_62 (fun L_406 f_407 h_408 => ?_)
            obtain ⟨rfl, hW_413, hF_414, x_409, x_410, x_411, x_412⟩ := h_408
            have fe_415 : fld (f a_0) 8 = (v_28 : Int32).toInt := by rw [e_22]; rfl
            have fe_416 : fld (f a_0) 12 = (v_35 : Int32).toInt := by rw [e_22]; rfl
            have fe_417 : fld (f a_0) 20 = (v_39 : Int32).toInt := by rw [e_22]; rfl
            rw [fe_415] at x_409
            obtain ⟨v_419, v_420, v_422, v_424, v_426, v_428, v_430, v_431, v_432, v_433, v_435, e_418, b_421, b_423, b_425, b_427, b_429, b_434, b_436⟩ := hW_413.at m_1 t_2
            have fe_437 : fld (f_407 a_0) 8 = (v_424 : Int32).toInt := by rw [e_418]; rfl
            have fe_438 : fld (f_407 a_0) 9 = (v_426 : Int32).toInt := by rw [e_418]; rfl
            rw [fe_437, fe_438] at x_409
            have fe_439 : fld (f_407 a_0) 8 = (v_424 : Int32).toInt := by rw [e_418]; rfl
            have fe_440 : fld (f_407 a_0) 9 = (v_426 : Int32).toInt := by rw [e_418]; rfl
            have fe_441 : fld (f_407 a_0) 10 = (v_428 : Int32).toInt := by rw [e_418]; rfl
            rw [fe_439, fe_440, fe_441] at x_410
            rw [fe_416] at x_411
            have fe_442 : fld (f_407 a_0) 12 = (v_431 : Int32).toInt := by rw [e_418]; rfl
            rw [fe_442] at x_411
            rw [fe_417] at x_412
            have fe_443 : fld (f_407 a_0) 20 = (v_435 : Int32).toInt := by rw [e_418]; rfl
            rw [fe_443] at x_412
            refine v_iload_n hC dX12_number_65 rfl ?_
            have fe_444 : fld (f_407 a_0) 8 = (v_424 : Int32).toInt := by rw [e_418]; rfl
            have fe_445 : fld (f_407 a_0) 9 = (v_426 : Int32).toInt := by rw [e_418]; rfl
            have fe_446 : fld (f_407 a_0) 10 = (v_428 : Int32).toInt := by rw [e_418]; rfl
            have fe_447 : fld (f_407 a_0) 12 = (v_431 : Int32).toInt := by rw [e_418]; rfl
            have fe_448 : fld (f_407 a_0) 12 = (v_431 : Int32).toInt := by rw [e_418]; rfl
            have fe_449 : fld (f_407 a_0) 20 = (v_435 : Int32).toInt := by rw [e_418]; rfl
            exact hR _ _ _ _ _ _ _ dX12_number_66 rfl (Nat.le_of_ble_eq_true rfl) (Nat.le_of_ble_eq_true rfl) ⟨rfl, hW_413, (hF_414.mono rfl), (by simp only [fe_444, fe_445, fe_446, fe_447, mz_41, mz_42, mz_43, true_and, and_true, or_true, true_or, false_or, or_false, false_and, and_false, not_true_eq_false, not_false_eq_true] <;> first | omega | (simp only [Int32.lt_iff_toInt_lt, Int32.le_iff_toInt_le, Int32.reduceToInt, ← Int32.toInt_inj, true_and, and_true, or_true, true_or, false_or, or_false, false_and, and_false, not_true_eq_false, not_false_eq_true] <;> omega)), (by simp only [fe_448, true_and, and_true, or_true, true_or, false_or, or_false, false_and, and_false, not_true_eq_false, not_false_eq_true] <;> first | omega | (simp only [Int32.lt_iff_toInt_lt, Int32.le_iff_toInt_le, Int32.reduceToInt, ← Int32.toInt_inj, true_and, and_true, or_true, true_or, false_or, or_false, false_and, and_false, not_true_eq_false, not_false_eq_true] <;> omega)), (by simp only [fe_449, mz_44, true_and, and_true, or_true, true_or, false_or, or_false, false_and, and_false, not_true_eq_false, not_false_eq_true] <;> first | omega | (simp only [Int32.lt_iff_toInt_lt, Int32.le_iff_toInt_le, Int32.reduceToInt, ← Int32.toInt_inj, true_and, and_true, or_true, true_or, false_or, or_false, false_and, and_false, not_true_eq_false, not_false_eq_true] <;> omega))⟩
          · simp only [Int32.lt_iff_toInt_lt, Int32.le_iff_toInt_le, Int32.reduceToInt, ← Int32.toInt_inj] at h_404
            refine v_iconst hC dX12_number_54 (v := 0) (by decide) ?_
            have fe_450 : fld (f a_0) 8 = (v_28 : Int32).toInt := by rw [e_22]; rfl
            have fe_451 : fld (f a_0) 9 = (v_30 : Int32).toInt := by rw [e_22]; rfl
            have fe_452 : fld (f a_0) 10 = (v_32 : Int32).toInt := by rw [e_22]; rfl
            have fe_453 : fld (f a_0) 12 = (v_35 : Int32).toInt := by rw [e_22]; rfl
            have fe_454 : fld (f a_0) 12 = (v_35 : Int32).toInt := by rw [e_22]; rfl
            have fe_455 : fld (f a_0) 20 = (v_39 : Int32).toInt := by rw [e_22]; rfl
            exact hR _ _ _ _ _ _ _ dX12_number_55 rfl (Nat.le_of_ble_eq_true rfl) (Nat.le_of_ble_eq_true rfl) ⟨rfl, hW, FR.rf, (by simp only [fe_450, fe_451, fe_452, fe_453, mz_41, mz_42, mz_43, true_and, and_true, or_true, true_or, false_or, or_false, false_and, and_false, not_true_eq_false, not_false_eq_true] <;> first | omega | (simp only [Int32.lt_iff_toInt_lt, Int32.le_iff_toInt_le, Int32.reduceToInt, ← Int32.toInt_inj, true_and, and_true, or_true, true_or, false_or, or_false, false_and, and_false, not_true_eq_false, not_false_eq_true] <;> omega)), (by simp only [fe_454, true_and, and_true, or_true, true_or, false_or, or_false, false_and, and_false, not_true_eq_false, not_false_eq_true] <;> first | omega | (simp only [Int32.lt_iff_toInt_lt, Int32.le_iff_toInt_le, Int32.reduceToInt, ← Int32.toInt_inj, true_and, and_true, or_true, true_or, false_or, or_false, false_and, and_false, not_true_eq_false, not_false_eq_true] <;> omega)), (by simp only [fe_455, mz_44, true_and, and_true, or_true, true_or, false_or, or_false, false_and, and_false, not_true_eq_false, not_false_eq_true] <;> first | omega | (simp only [Int32.lt_iff_toInt_lt, Int32.le_iff_toInt_le, Int32.reduceToInt, ← Int32.toInt_inj, true_and, and_true, or_true, true_or, false_or, or_false, false_and, and_false, not_true_eq_false, not_false_eq_true] <;> omega))⟩
        · simp only [Int32.lt_iff_toInt_lt, Int32.le_iff_toInt_le, Int32.reduceToInt, ← Int32.toInt_inj] at h_394
          refine v_aload_n hC dX12_number_42 rfl ?_
          refine v_iconst hC dX12_number_43 (v := 2) (by decide) ?_
          refine v_vv hC (rest := []) m_1 e_22 rfl mi_X12_errs ms_X12_errs (p_X12_errs hW k_0 (by decide)) mx_X12_errs ml_X12_162 (by decide) rfl (cells1 := 0) (slots1 := 0) (by decide) (by decide) (Nat.le_of_ble_eq_true rfl) (Nat.le_of_ble_eq_true rfl) rfl (Nat.le_of_ble_eq_true rfl) dX12_number_44 (fun L_457 f_458 h_459 => ?_)
          obtain ⟨rfl, hW_465, hF_466, x_460, x_461, x_462, x_463, x_464⟩ := h_459
          have fe_467 : fld (f a_0) 8 = (v_28 : Int32).toInt := by rw [e_22]; rfl
          have fe_468 : fld (f a_0) 9 = (v_30 : Int32).toInt := by rw [e_22]; rfl
          have fe_469 : fld (f a_0) 10 = (v_32 : Int32).toInt := by rw [e_22]; rfl
          have fe_470 : fld (f a_0) 20 = (v_39 : Int32).toInt := by rw [e_22]; rfl
          obtain ⟨v_472, v_473, v_475, v_477, v_479, v_481, v_483, v_484, v_485, v_486, v_488, e_471, b_474, b_476, b_478, b_480, b_482, b_487, b_489⟩ := hW_465.at m_1 t_2
          have fe_490 : fld (f_458 a_0) 12 = (v_484 : Int32).toInt := by rw [e_471]; rfl
          rw [fe_490] at x_460
          rw [fe_467] at x_461
          have fe_491 : fld (f_458 a_0) 8 = (v_477 : Int32).toInt := by rw [e_471]; rfl
          rw [fe_491] at x_461
          rw [fe_468] at x_462
          have fe_492 : fld (f_458 a_0) 9 = (v_479 : Int32).toInt := by rw [e_471]; rfl
          rw [fe_492] at x_462
          rw [fe_469] at x_463
          have fe_493 : fld (f_458 a_0) 10 = (v_481 : Int32).toInt := by rw [e_471]; rfl
          rw [fe_493] at x_463
          rw [fe_470] at x_464
          have fe_494 : fld (f_458 a_0) 20 = (v_488 : Int32).toInt := by rw [e_471]; rfl
          rw [fe_494] at x_464
          refine v_aload_n hC dX12_number_47 rfl ?_
          refine v_vi hC (rest := []) m_1 e_471 rfl mi_X12_good ms_X12_good (p_X12_good hW_465 k_0) mx_X12_good ml_X12_139 (by decide) rfl (cells1 := 0) (slots1 := 0) (by decide) (by decide) (Nat.le_of_ble_eq_true rfl) (Nat.le_of_ble_eq_true rfl) rfl (Nat.le_of_ble_eq_true rfl) dX12_number_48 (fun r_495 L_496 f_497 h_498 => ?_)
          obtain ⟨rfl, rfl, b_499, x_500⟩ := h_498
          have fe_503 : fld (f_458 a_0) 12 = (v_484 : Int32).toInt := by rw [e_471]; rfl
          rw [fe_503] at x_500
          try simp only [Int32.reduceToInt, Int64.reduceToInt] at x_500
          refine v_if_ne hC dX12_number_51 (tgt := 56) (by decide) (fun h_504 => ?_) (fun h_504 => ?_)
          · simp only [Int32.lt_iff_toInt_lt, Int32.le_iff_toInt_le, Int32.reduceToInt, ← Int32.toInt_inj] at h_504
            refine v_aload_n hC dX12_number_56 rfl ?_
            refine v_get hC fl_X12_131 m_1 e_471 rfl dX12_number_57 ?_
            refine v_istore_n hC dX12_number_60 (by decide) (lv' := [(3, .int v_483), (0, .ref a_0), (1, .int a_1), (2, .int a_2)]) rfl ?_
            refine v_aload_n hC dX12_number_61 rfl ?_
            refine v_vv hC (rest := []) m_1 e_471 rfl mi_X12_advance ms_X12_advance (p_X12_advance hW_465 k_0) mx_X12_advance ml_X12_156 (by decide) rfl (cells1 := 0) (slots1 := 0) (by decide) (by decide) (Nat.le_of_ble_eq_true rfl) (Nat.le_of_ble_eq_true rfl) rfl (Nat.le_of_ble_eq_true rfl) dX12_number_62 (fun L_506 f_507 h_508 => ?_)
            obtain ⟨rfl, hW_513, hF_514, x_509, x_510, x_511, x_512⟩ := h_508
            have fe_515 : fld (f_458 a_0) 8 = (v_477 : Int32).toInt := by rw [e_471]; rfl
            have fe_516 : fld (f_458 a_0) 12 = (v_484 : Int32).toInt := by rw [e_471]; rfl
            have fe_517 : fld (f_458 a_0) 20 = (v_488 : Int32).toInt := by rw [e_471]; rfl
            rw [fe_515] at x_509
            obtain ⟨v_519, v_520, v_522, v_524, v_526, v_528, v_530, v_531, v_532, v_533, v_535, e_518, b_521, b_523, b_525, b_527, b_529, b_534, b_536⟩ := hW_513.at m_1 t_2
            have fe_537 : fld (f_507 a_0) 8 = (v_524 : Int32).toInt := by rw [e_518]; rfl
            have fe_538 : fld (f_507 a_0) 9 = (v_526 : Int32).toInt := by rw [e_518]; rfl
            rw [fe_537, fe_538] at x_509
            have fe_539 : fld (f_507 a_0) 8 = (v_524 : Int32).toInt := by rw [e_518]; rfl
            have fe_540 : fld (f_507 a_0) 9 = (v_526 : Int32).toInt := by rw [e_518]; rfl
            have fe_541 : fld (f_507 a_0) 10 = (v_528 : Int32).toInt := by rw [e_518]; rfl
            rw [fe_539, fe_540, fe_541] at x_510
            rw [fe_516] at x_511
            have fe_542 : fld (f_507 a_0) 12 = (v_531 : Int32).toInt := by rw [e_518]; rfl
            rw [fe_542] at x_511
            rw [fe_517] at x_512
            have fe_543 : fld (f_507 a_0) 20 = (v_535 : Int32).toInt := by rw [e_518]; rfl
            rw [fe_543] at x_512
            refine v_iload_n hC dX12_number_65 rfl ?_
            have fe_544 : fld (f_507 a_0) 8 = (v_524 : Int32).toInt := by rw [e_518]; rfl
            have fe_545 : fld (f_507 a_0) 9 = (v_526 : Int32).toInt := by rw [e_518]; rfl
            have fe_546 : fld (f_507 a_0) 10 = (v_528 : Int32).toInt := by rw [e_518]; rfl
            have fe_547 : fld (f_507 a_0) 12 = (v_531 : Int32).toInt := by rw [e_518]; rfl
            have fe_548 : fld (f_507 a_0) 12 = (v_531 : Int32).toInt := by rw [e_518]; rfl
            have fe_549 : fld (f_507 a_0) 20 = (v_535 : Int32).toInt := by rw [e_518]; rfl
            exact hR _ _ _ _ _ _ _ dX12_number_66 rfl (Nat.le_of_ble_eq_true rfl) (Nat.le_of_ble_eq_true rfl) ⟨rfl, hW_513, ((hF_466.tr hF_514).mono rfl), (by simp only [fe_544, fe_545, fe_546, fe_547, mz_41, mz_42, mz_43, true_and, and_true, or_true, true_or, false_or, or_false, false_and, and_false, not_true_eq_false, not_false_eq_true] <;> first | omega | (simp only [Int32.lt_iff_toInt_lt, Int32.le_iff_toInt_le, Int32.reduceToInt, ← Int32.toInt_inj, true_and, and_true, or_true, true_or, false_or, or_false, false_and, and_false, not_true_eq_false, not_false_eq_true] <;> omega)), (by simp only [fe_548, true_and, and_true, or_true, true_or, false_or, or_false, false_and, and_false, not_true_eq_false, not_false_eq_true] <;> first | omega | (simp only [Int32.lt_iff_toInt_lt, Int32.le_iff_toInt_le, Int32.reduceToInt, ← Int32.toInt_inj, true_and, and_true, or_true, true_or, false_or, or_false, false_and, and_false, not_true_eq_false, not_false_eq_true] <;> omega)), (by simp only [fe_549, mz_44, true_and, and_true, or_true, true_or, false_or, or_false, false_and, and_false, not_true_eq_false, not_false_eq_true] <;> first | omega | (simp only [Int32.lt_iff_toInt_lt, Int32.le_iff_toInt_le, Int32.reduceToInt, ← Int32.toInt_inj, true_and, and_true, or_true, true_or, false_or, or_false, false_and, and_false, not_true_eq_false, not_false_eq_true] <;> omega))⟩
          · simp only [Int32.lt_iff_toInt_lt, Int32.le_iff_toInt_le, Int32.reduceToInt, ← Int32.toInt_inj] at h_504
            refine v_iconst hC dX12_number_54 (v := 0) (by decide) ?_
            have fe_550 : fld (f_458 a_0) 8 = (v_477 : Int32).toInt := by rw [e_471]; rfl
            have fe_551 : fld (f_458 a_0) 9 = (v_479 : Int32).toInt := by rw [e_471]; rfl
            have fe_552 : fld (f_458 a_0) 10 = (v_481 : Int32).toInt := by rw [e_471]; rfl
            have fe_553 : fld (f_458 a_0) 12 = (v_484 : Int32).toInt := by rw [e_471]; rfl
            have fe_554 : fld (f_458 a_0) 12 = (v_484 : Int32).toInt := by rw [e_471]; rfl
            have fe_555 : fld (f_458 a_0) 20 = (v_488 : Int32).toInt := by rw [e_471]; rfl
            exact hR _ _ _ _ _ _ _ dX12_number_55 rfl (Nat.le_of_ble_eq_true rfl) (Nat.le_of_ble_eq_true rfl) ⟨rfl, hW_465, (hF_466.mono rfl), (by simp only [fe_550, fe_551, fe_552, fe_553, mz_41, mz_42, mz_43, true_and, and_true, or_true, true_or, false_or, or_false, false_and, and_false, not_true_eq_false, not_false_eq_true] <;> first | omega | (simp only [Int32.lt_iff_toInt_lt, Int32.le_iff_toInt_le, Int32.reduceToInt, ← Int32.toInt_inj, true_and, and_true, or_true, true_or, false_or, or_false, false_and, and_false, not_true_eq_false, not_false_eq_true] <;> omega)), (by simp only [fe_554, true_and, and_true, or_true, true_or, false_or, or_false, false_and, and_false, not_true_eq_false, not_false_eq_true] <;> first | omega | (simp only [Int32.lt_iff_toInt_lt, Int32.le_iff_toInt_le, Int32.reduceToInt, ← Int32.toInt_inj, true_and, and_true, or_true, true_or, false_or, or_false, false_and, and_false, not_true_eq_false, not_false_eq_true] <;> omega)), (by simp only [fe_555, mz_44, true_and, and_true, or_true, true_or, false_or, or_false, false_and, and_false, not_true_eq_false, not_false_eq_true] <;> first | omega | (simp only [Int32.lt_iff_toInt_lt, Int32.le_iff_toInt_le, Int32.reduceToInt, ← Int32.toInt_inj, true_and, and_true, or_true, true_or, false_or, or_false, false_and, and_false, not_true_eq_false, not_false_eq_true] <;> omega))⟩
    · simp only [Int32.lt_iff_toInt_lt, Int32.le_iff_toInt_le, Int32.reduceToInt, ← Int32.toInt_inj] at h_305
      refine v_aload_n hC dX12_number_15 rfl ?_
      refine v_iconst hC dX12_number_16 (v := 1) (by decide) ?_
      refine v_vv hC (rest := []) m_1 e_22 rfl mi_X12_errs ms_X12_errs (p_X12_errs hW k_0 (by decide)) mx_X12_errs ml_X12_162 (by decide) rfl (cells1 := 0) (slots1 := 0) (by decide) (by decide) (Nat.le_of_ble_eq_true rfl) (Nat.le_of_ble_eq_true rfl) rfl (Nat.le_of_ble_eq_true rfl) dX12_number_17 (fun L_557 f_558 h_559 => ?_)
      obtain ⟨rfl, hW_565, hF_566, x_560, x_561, x_562, x_563, x_564⟩ := h_559
      have fe_567 : fld (f a_0) 8 = (v_28 : Int32).toInt := by rw [e_22]; rfl
      have fe_568 : fld (f a_0) 9 = (v_30 : Int32).toInt := by rw [e_22]; rfl
      have fe_569 : fld (f a_0) 10 = (v_32 : Int32).toInt := by rw [e_22]; rfl
      have fe_570 : fld (f a_0) 20 = (v_39 : Int32).toInt := by rw [e_22]; rfl
      obtain ⟨v_572, v_573, v_575, v_577, v_579, v_581, v_583, v_584, v_585, v_586, v_588, e_571, b_574, b_576, b_578, b_580, b_582, b_587, b_589⟩ := hW_565.at m_1 t_2
      have fe_590 : fld (f_558 a_0) 12 = (v_584 : Int32).toInt := by rw [e_571]; rfl
      rw [fe_590] at x_560
      rw [fe_567] at x_561
      have fe_591 : fld (f_558 a_0) 8 = (v_577 : Int32).toInt := by rw [e_571]; rfl
      rw [fe_591] at x_561
      rw [fe_568] at x_562
      have fe_592 : fld (f_558 a_0) 9 = (v_579 : Int32).toInt := by rw [e_571]; rfl
      rw [fe_592] at x_562
      rw [fe_569] at x_563
      have fe_593 : fld (f_558 a_0) 10 = (v_581 : Int32).toInt := by rw [e_571]; rfl
      rw [fe_593] at x_563
      rw [fe_570] at x_564
      have fe_594 : fld (f_558 a_0) 20 = (v_588 : Int32).toInt := by rw [e_571]; rfl
      rw [fe_594] at x_564
      refine v_aload_n hC dX12_number_20 rfl ?_
      refine v_vi hC (rest := []) m_1 e_571 rfl mi_X12_good ms_X12_good (p_X12_good hW_565 k_0) mx_X12_good ml_X12_139 (by decide) rfl (cells1 := 0) (slots1 := 0) (by decide) (by decide) (Nat.le_of_ble_eq_true rfl) (Nat.le_of_ble_eq_true rfl) rfl (Nat.le_of_ble_eq_true rfl) dX12_number_21 (fun r_595 L_596 f_597 h_598 => ?_)
      obtain ⟨rfl, rfl, b_599, x_600⟩ := h_598
      have fe_603 : fld (f_558 a_0) 12 = (v_584 : Int32).toInt := by rw [e_571]; rfl
      rw [fe_603] at x_600
      try simp only [Int32.reduceToInt, Int64.reduceToInt] at x_600
      refine v_if_eq hC dX12_number_24 (tgt := 47) (by decide) (fun h_604 => ?_) (fun h_604 => ?_)
      · simp only [Int32.lt_iff_toInt_lt, Int32.le_iff_toInt_le, Int32.reduceToInt, ← Int32.toInt_inj] at h_604
        refine v_aload_n hC dX12_number_47 rfl ?_
        refine v_vi hC (rest := []) m_1 e_571 rfl mi_X12_good ms_X12_good (p_X12_good hW_565 k_0) mx_X12_good ml_X12_139 (by decide) rfl (cells1 := 0) (slots1 := 0) (by decide) (by decide) (Nat.le_of_ble_eq_true rfl) (Nat.le_of_ble_eq_true rfl) rfl (Nat.le_of_ble_eq_true rfl) dX12_number_48 (fun r_605 L_606 f_607 h_608 => ?_)
        obtain ⟨rfl, rfl, b_609, x_610⟩ := h_608
        have fe_613 : fld (f_558 a_0) 12 = (v_584 : Int32).toInt := by rw [e_571]; rfl
        rw [fe_613] at x_610
        try simp only [Int32.reduceToInt, Int64.reduceToInt] at x_610
        refine v_if_ne hC dX12_number_51 (tgt := 56) (by decide) (fun h_614 => ?_) (fun h_614 => ?_)
        · simp only [Int32.lt_iff_toInt_lt, Int32.le_iff_toInt_le, Int32.reduceToInt, ← Int32.toInt_inj] at h_614
          refine v_aload_n hC dX12_number_56 rfl ?_
          refine v_get hC fl_X12_131 m_1 e_571 rfl dX12_number_57 ?_
          refine v_istore_n hC dX12_number_60 (by decide) (lv' := [(3, .int v_583), (0, .ref a_0), (1, .int a_1), (2, .int a_2)]) rfl ?_
          refine v_aload_n hC dX12_number_61 rfl ?_
          refine v_vv hC (rest := []) m_1 e_571 rfl mi_X12_advance ms_X12_advance (p_X12_advance hW_565 k_0) mx_X12_advance ml_X12_156 (by decide) rfl (cells1 := 0) (slots1 := 0) (by decide) (by decide) (Nat.le_of_ble_eq_true rfl) (Nat.le_of_ble_eq_true rfl) rfl (Nat.le_of_ble_eq_true rfl) dX12_number_62 (fun L_616 f_617 h_618 => ?_)
          obtain ⟨rfl, hW_623, hF_624, x_619, x_620, x_621, x_622⟩ := h_618
          have fe_625 : fld (f_558 a_0) 8 = (v_577 : Int32).toInt := by rw [e_571]; rfl
          have fe_626 : fld (f_558 a_0) 12 = (v_584 : Int32).toInt := by rw [e_571]; rfl
          have fe_627 : fld (f_558 a_0) 20 = (v_588 : Int32).toInt := by rw [e_571]; rfl
          rw [fe_625] at x_619
          obtain ⟨v_629, v_630, v_632, v_634, v_636, v_638, v_640, v_641, v_642, v_643, v_645, e_628, b_631, b_633, b_635, b_637, b_639, b_644, b_646⟩ := hW_623.at m_1 t_2
          have fe_647 : fld (f_617 a_0) 8 = (v_634 : Int32).toInt := by rw [e_628]; rfl
          have fe_648 : fld (f_617 a_0) 9 = (v_636 : Int32).toInt := by rw [e_628]; rfl
          rw [fe_647, fe_648] at x_619
          have fe_649 : fld (f_617 a_0) 8 = (v_634 : Int32).toInt := by rw [e_628]; rfl
          have fe_650 : fld (f_617 a_0) 9 = (v_636 : Int32).toInt := by rw [e_628]; rfl
          have fe_651 : fld (f_617 a_0) 10 = (v_638 : Int32).toInt := by rw [e_628]; rfl
          rw [fe_649, fe_650, fe_651] at x_620
          rw [fe_626] at x_621
          have fe_652 : fld (f_617 a_0) 12 = (v_641 : Int32).toInt := by rw [e_628]; rfl
          rw [fe_652] at x_621
          rw [fe_627] at x_622
          have fe_653 : fld (f_617 a_0) 20 = (v_645 : Int32).toInt := by rw [e_628]; rfl
          rw [fe_653] at x_622
          refine v_iload_n hC dX12_number_65 rfl ?_
          have fe_654 : fld (f_617 a_0) 8 = (v_634 : Int32).toInt := by rw [e_628]; rfl
          have fe_655 : fld (f_617 a_0) 9 = (v_636 : Int32).toInt := by rw [e_628]; rfl
          have fe_656 : fld (f_617 a_0) 10 = (v_638 : Int32).toInt := by rw [e_628]; rfl
          have fe_657 : fld (f_617 a_0) 12 = (v_641 : Int32).toInt := by rw [e_628]; rfl
          have fe_658 : fld (f_617 a_0) 12 = (v_641 : Int32).toInt := by rw [e_628]; rfl
          have fe_659 : fld (f_617 a_0) 20 = (v_645 : Int32).toInt := by rw [e_628]; rfl
          exact hR _ _ _ _ _ _ _ dX12_number_66 rfl (Nat.le_of_ble_eq_true rfl) (Nat.le_of_ble_eq_true rfl) ⟨rfl, hW_623, ((hF_566.tr hF_624).mono rfl), (by simp only [fe_654, fe_655, fe_656, fe_657, mz_41, mz_42, mz_43, true_and, and_true, or_true, true_or, false_or, or_false, false_and, and_false, not_true_eq_false, not_false_eq_true] <;> first | omega | (simp only [Int32.lt_iff_toInt_lt, Int32.le_iff_toInt_le, Int32.reduceToInt, ← Int32.toInt_inj, true_and, and_true, or_true, true_or, false_or, or_false, false_and, and_false, not_true_eq_false, not_false_eq_true] <;> omega)), (by simp only [fe_658, true_and, and_true, or_true, true_or, false_or, or_false, false_and, and_false, not_true_eq_false, not_false_eq_true] <;> first | omega | (simp only [Int32.lt_iff_toInt_lt, Int32.le_iff_toInt_le, Int32.reduceToInt, ← Int32.toInt_inj, true_and, and_true, or_true, true_or, false_or, or_false, false_and, and_false, not_true_eq_false, not_false_eq_true] <;> omega)), (by simp only [fe_659, mz_44, true_and, and_true, or_true, true_or, false_or, or_false, false_and, and_false, not_true_eq_false, not_false_eq_true] <;> first | omega | (simp only [Int32.lt_iff_toInt_lt, Int32.le_iff_toInt_le, Int32.reduceToInt, ← Int32.toInt_inj, true_and, and_true, or_true, true_or, false_or, or_false, false_and, and_false, not_true_eq_false, not_false_eq_true] <;> omega))⟩
        · simp only [Int32.lt_iff_toInt_lt, Int32.le_iff_toInt_le, Int32.reduceToInt, ← Int32.toInt_inj] at h_614
          refine v_iconst hC dX12_number_54 (v := 0) (by decide) ?_
          have fe_660 : fld (f_558 a_0) 8 = (v_577 : Int32).toInt := by rw [e_571]; rfl
          have fe_661 : fld (f_558 a_0) 9 = (v_579 : Int32).toInt := by rw [e_571]; rfl
          have fe_662 : fld (f_558 a_0) 10 = (v_581 : Int32).toInt := by rw [e_571]; rfl
          have fe_663 : fld (f_558 a_0) 12 = (v_584 : Int32).toInt := by rw [e_571]; rfl
          have fe_664 : fld (f_558 a_0) 12 = (v_584 : Int32).toInt := by rw [e_571]; rfl
          have fe_665 : fld (f_558 a_0) 20 = (v_588 : Int32).toInt := by rw [e_571]; rfl
          exact hR _ _ _ _ _ _ _ dX12_number_55 rfl (Nat.le_of_ble_eq_true rfl) (Nat.le_of_ble_eq_true rfl) ⟨rfl, hW_565, (hF_566.mono rfl), (by simp only [fe_660, fe_661, fe_662, fe_663, mz_41, mz_42, mz_43, true_and, and_true, or_true, true_or, false_or, or_false, false_and, and_false, not_true_eq_false, not_false_eq_true] <;> first | omega | (simp only [Int32.lt_iff_toInt_lt, Int32.le_iff_toInt_le, Int32.reduceToInt, ← Int32.toInt_inj, true_and, and_true, or_true, true_or, false_or, or_false, false_and, and_false, not_true_eq_false, not_false_eq_true] <;> omega)), (by simp only [fe_664, true_and, and_true, or_true, true_or, false_or, or_false, false_and, and_false, not_true_eq_false, not_false_eq_true] <;> first | omega | (simp only [Int32.lt_iff_toInt_lt, Int32.le_iff_toInt_le, Int32.reduceToInt, ← Int32.toInt_inj, true_and, and_true, or_true, true_or, false_or, or_false, false_and, and_false, not_true_eq_false, not_false_eq_true] <;> omega)), (by simp only [fe_665, mz_44, true_and, and_true, or_true, true_or, false_or, or_false, false_and, and_false, not_true_eq_false, not_false_eq_true] <;> first | omega | (simp only [Int32.lt_iff_toInt_lt, Int32.le_iff_toInt_le, Int32.reduceToInt, ← Int32.toInt_inj, true_and, and_true, or_true, true_or, false_or, or_false, false_and, and_false, not_true_eq_false, not_false_eq_true] <;> omega))⟩
      · simp only [Int32.lt_iff_toInt_lt, Int32.le_iff_toInt_le, Int32.reduceToInt, ← Int32.toInt_inj] at h_604
        refine v_aload_n hC dX12_number_27 rfl ?_
        refine v_get hC fl_X12_131 m_1 e_571 rfl dX12_number_28 ?_
        obtain ⟨v_666, h_667⟩ : ∃ v9 : Int64, v_583.toInt64 = v9 := ⟨_, rfl⟩
        refine v_i2l hC dX12_number_31 h_667 ?_
        have h_668 : v_666.toInt = v_583.toInt := by rw [← h_667]; exact Int32.toInt_toInt64 _
        refine v_iload_n hC dX12_number_32 rfl ?_
        obtain ⟨v_669, h_670⟩ : ∃ v9 : Int64, a_1.toInt64 = v9 := ⟨_, rfl⟩
        refine v_i2l hC dX12_number_33 h_670 ?_
        have h_671 : v_669.toInt = a_1.toInt := by rw [← h_670]; exact Int32.toInt_toInt64 _
        refine v_iload_n hC dX12_number_34 rfl ?_
        obtain ⟨v_672, h_673⟩ : ∃ v9 : Int64, a_2.toInt64 = v9 := ⟨_, rfl⟩
        refine v_i2l hC dX12_number_35 h_673 ?_
        have h_674 : v_672.toInt = a_2.toInt := by rw [← h_673]; exact Int32.toInt_toInt64 _
        refine v_si hC (rest := []) mt_X12_in (p_X12_in hW_565) mx_X12_in ml_X12_79 (by decide) rfl (cells1 := 0) (slots1 := 0) (by decide) (by decide) (Nat.le_of_ble_eq_true rfl) (Nat.le_of_ble_eq_true rfl) rfl (Nat.le_of_ble_eq_true rfl) dX12_number_36 (fun r_675 L_676 f_677 h_678 => ?_)
        obtain ⟨rfl, rfl, b_679, x_680⟩ := h_678
        try simp only [Int32.reduceToInt, Int64.reduceToInt] at x_680
        refine v_if_ne hC dX12_number_39 (tgt := 47) (by decide) (fun h_683 => ?_) (fun h_683 => ?_)
        · simp only [Int32.lt_iff_toInt_lt, Int32.le_iff_toInt_le, Int32.reduceToInt, ← Int32.toInt_inj] at h_683
          refine v_aload_n hC dX12_number_47 rfl ?_
          refine v_vi hC (rest := []) m_1 e_571 rfl mi_X12_good ms_X12_good (p_X12_good hW_565 k_0) mx_X12_good ml_X12_139 (by decide) rfl (cells1 := 0) (slots1 := 0) (by decide) (by decide) (Nat.le_of_ble_eq_true rfl) (Nat.le_of_ble_eq_true rfl) rfl (Nat.le_of_ble_eq_true rfl) dX12_number_48 (fun r_684 L_685 f_686 h_687 => ?_)
          obtain ⟨rfl, rfl, b_688, x_689⟩ := h_687
          have fe_692 : fld (f_558 a_0) 12 = (v_584 : Int32).toInt := by rw [e_571]; rfl
          rw [fe_692] at x_689
          try simp only [Int32.reduceToInt, Int64.reduceToInt] at x_689
          refine v_if_ne hC dX12_number_51 (tgt := 56) (by decide) (fun h_693 => ?_) (fun h_693 => ?_)
          · simp only [Int32.lt_iff_toInt_lt, Int32.le_iff_toInt_le, Int32.reduceToInt, ← Int32.toInt_inj] at h_693
            refine v_aload_n hC dX12_number_56 rfl ?_
            refine v_get hC fl_X12_131 m_1 e_571 rfl dX12_number_57 ?_
            refine v_istore_n hC dX12_number_60 (by decide) (lv' := [(3, .int v_583), (0, .ref a_0), (1, .int a_1), (2, .int a_2)]) rfl ?_
            refine v_aload_n hC dX12_number_61 rfl ?_
            refine v_vv hC (rest := []) m_1 e_571 rfl mi_X12_advance ms_X12_advance (p_X12_advance hW_565 k_0) mx_X12_advance ml_X12_156 (by decide) rfl (cells1 := 0) (slots1 := 0) (by decide) (by decide) (Nat.le_of_ble_eq_true rfl) (Nat.le_of_ble_eq_true rfl) rfl (Nat.le_of_ble_eq_true rfl) dX12_number_62 (fun L_695 f_696 h_697 => ?_)
            obtain ⟨rfl, hW_702, hF_703, x_698, x_699, x_700, x_701⟩ := h_697
            have fe_704 : fld (f_558 a_0) 8 = (v_577 : Int32).toInt := by rw [e_571]; rfl
            have fe_705 : fld (f_558 a_0) 12 = (v_584 : Int32).toInt := by rw [e_571]; rfl
            have fe_706 : fld (f_558 a_0) 20 = (v_588 : Int32).toInt := by rw [e_571]; rfl
            rw [fe_704] at x_698
            obtain ⟨v_708, v_709, v_711, v_713, v_715, v_717, v_719, v_720, v_721, v_722, v_724, e_707, b_710, b_712, b_714, b_716, b_718, b_723, b_725⟩ := hW_702.at m_1 t_2
            have fe_726 : fld (f_696 a_0) 8 = (v_713 : Int32).toInt := by rw [e_707]; rfl
            have fe_727 : fld (f_696 a_0) 9 = (v_715 : Int32).toInt := by rw [e_707]; rfl
            rw [fe_726, fe_727] at x_698
            have fe_728 : fld (f_696 a_0) 8 = (v_713 : Int32).toInt := by rw [e_707]; rfl
            have fe_729 : fld (f_696 a_0) 9 = (v_715 : Int32).toInt := by rw [e_707]; rfl
            have fe_730 : fld (f_696 a_0) 10 = (v_717 : Int32).toInt := by rw [e_707]; rfl
            rw [fe_728, fe_729, fe_730] at x_699
            rw [fe_705] at x_700
            have fe_731 : fld (f_696 a_0) 12 = (v_720 : Int32).toInt := by rw [e_707]; rfl
            rw [fe_731] at x_700
            rw [fe_706] at x_701
            have fe_732 : fld (f_696 a_0) 20 = (v_724 : Int32).toInt := by rw [e_707]; rfl
            rw [fe_732] at x_701
            refine v_iload_n hC dX12_number_65 rfl ?_
            have fe_733 : fld (f_696 a_0) 8 = (v_713 : Int32).toInt := by rw [e_707]; rfl
            have fe_734 : fld (f_696 a_0) 9 = (v_715 : Int32).toInt := by rw [e_707]; rfl
            have fe_735 : fld (f_696 a_0) 10 = (v_717 : Int32).toInt := by rw [e_707]; rfl
            have fe_736 : fld (f_696 a_0) 12 = (v_720 : Int32).toInt := by rw [e_707]; rfl
            have fe_737 : fld (f_696 a_0) 12 = (v_720 : Int32).toInt := by rw [e_707]; rfl
            have fe_738 : fld (f_696 a_0) 20 = (v_724 : Int32).toInt := by rw [e_707]; rfl
            exact hR _ _ _ _ _ _ _ dX12_number_66 rfl (Nat.le_of_ble_eq_true rfl) (Nat.le_of_ble_eq_true rfl) ⟨rfl, hW_702, ((hF_566.tr hF_703).mono rfl), (by simp only [fe_733, fe_734, fe_735, fe_736, mz_41, mz_42, mz_43, true_and, and_true, or_true, true_or, false_or, or_false, false_and, and_false, not_true_eq_false, not_false_eq_true] <;> first | omega | (simp only [Int32.lt_iff_toInt_lt, Int32.le_iff_toInt_le, Int32.reduceToInt, ← Int32.toInt_inj, true_and, and_true, or_true, true_or, false_or, or_false, false_and, and_false, not_true_eq_false, not_false_eq_true] <;> omega)), (by simp only [fe_737, true_and, and_true, or_true, true_or, false_or, or_false, false_and, and_false, not_true_eq_false, not_false_eq_true] <;> first | omega | (simp only [Int32.lt_iff_toInt_lt, Int32.le_iff_toInt_le, Int32.reduceToInt, ← Int32.toInt_inj, true_and, and_true, or_true, true_or, false_or, or_false, false_and, and_false, not_true_eq_false, not_false_eq_true] <;> omega)), (by simp only [fe_738, mz_44, true_and, and_true, or_true, true_or, false_or, or_false, false_and, and_false, not_true_eq_false, not_false_eq_true] <;> first | omega | (simp only [Int32.lt_iff_toInt_lt, Int32.le_iff_toInt_le, Int32.reduceToInt, ← Int32.toInt_inj, true_and, and_true, or_true, true_or, false_or, or_false, false_and, and_false, not_true_eq_false, not_false_eq_true] <;> omega))⟩
          · simp only [Int32.lt_iff_toInt_lt, Int32.le_iff_toInt_le, Int32.reduceToInt, ← Int32.toInt_inj] at h_693
            refine v_iconst hC dX12_number_54 (v := 0) (by decide) ?_
            have fe_739 : fld (f_558 a_0) 8 = (v_577 : Int32).toInt := by rw [e_571]; rfl
            have fe_740 : fld (f_558 a_0) 9 = (v_579 : Int32).toInt := by rw [e_571]; rfl
            have fe_741 : fld (f_558 a_0) 10 = (v_581 : Int32).toInt := by rw [e_571]; rfl
            have fe_742 : fld (f_558 a_0) 12 = (v_584 : Int32).toInt := by rw [e_571]; rfl
            have fe_743 : fld (f_558 a_0) 12 = (v_584 : Int32).toInt := by rw [e_571]; rfl
            have fe_744 : fld (f_558 a_0) 20 = (v_588 : Int32).toInt := by rw [e_571]; rfl
            exact hR _ _ _ _ _ _ _ dX12_number_55 rfl (Nat.le_of_ble_eq_true rfl) (Nat.le_of_ble_eq_true rfl) ⟨rfl, hW_565, (hF_566.mono rfl), (by simp only [fe_739, fe_740, fe_741, fe_742, mz_41, mz_42, mz_43, true_and, and_true, or_true, true_or, false_or, or_false, false_and, and_false, not_true_eq_false, not_false_eq_true] <;> first | omega | (simp only [Int32.lt_iff_toInt_lt, Int32.le_iff_toInt_le, Int32.reduceToInt, ← Int32.toInt_inj, true_and, and_true, or_true, true_or, false_or, or_false, false_and, and_false, not_true_eq_false, not_false_eq_true] <;> omega)), (by simp only [fe_743, true_and, and_true, or_true, true_or, false_or, or_false, false_and, and_false, not_true_eq_false, not_false_eq_true] <;> first | omega | (simp only [Int32.lt_iff_toInt_lt, Int32.le_iff_toInt_le, Int32.reduceToInt, ← Int32.toInt_inj, true_and, and_true, or_true, true_or, false_or, or_false, false_and, and_false, not_true_eq_false, not_false_eq_true] <;> omega)), (by simp only [fe_744, mz_44, true_and, and_true, or_true, true_or, false_or, or_false, false_and, and_false, not_true_eq_false, not_false_eq_true] <;> first | omega | (simp only [Int32.lt_iff_toInt_lt, Int32.le_iff_toInt_le, Int32.reduceToInt, ← Int32.toInt_inj, true_and, and_true, or_true, true_or, false_or, or_false, false_and, and_false, not_true_eq_false, not_false_eq_true] <;> omega))⟩
        · simp only [Int32.lt_iff_toInt_lt, Int32.le_iff_toInt_le, Int32.reduceToInt, ← Int32.toInt_inj] at h_683
          refine v_aload_n hC dX12_number_42 rfl ?_
          refine v_iconst hC dX12_number_43 (v := 2) (by decide) ?_
          refine v_vv hC (rest := []) m_1 e_571 rfl mi_X12_errs ms_X12_errs (p_X12_errs hW_565 k_0 (by decide)) mx_X12_errs ml_X12_162 (by decide) rfl (cells1 := 0) (slots1 := 0) (by decide) (by decide) (Nat.le_of_ble_eq_true rfl) (Nat.le_of_ble_eq_true rfl) rfl (Nat.le_of_ble_eq_true rfl) dX12_number_44 (fun L_746 f_747 h_748 => ?_)
          obtain ⟨rfl, hW_754, hF_755, x_749, x_750, x_751, x_752, x_753⟩ := h_748
          have fe_756 : fld (f_558 a_0) 8 = (v_577 : Int32).toInt := by rw [e_571]; rfl
          have fe_757 : fld (f_558 a_0) 9 = (v_579 : Int32).toInt := by rw [e_571]; rfl
          have fe_758 : fld (f_558 a_0) 10 = (v_581 : Int32).toInt := by rw [e_571]; rfl
          have fe_759 : fld (f_558 a_0) 20 = (v_588 : Int32).toInt := by rw [e_571]; rfl
          obtain ⟨v_761, v_762, v_764, v_766, v_768, v_770, v_772, v_773, v_774, v_775, v_777, e_760, b_763, b_765, b_767, b_769, b_771, b_776, b_778⟩ := hW_754.at m_1 t_2
          have fe_779 : fld (f_747 a_0) 12 = (v_773 : Int32).toInt := by rw [e_760]; rfl
          rw [fe_779] at x_749
          rw [fe_756] at x_750
          have fe_780 : fld (f_747 a_0) 8 = (v_766 : Int32).toInt := by rw [e_760]; rfl
          rw [fe_780] at x_750
          rw [fe_757] at x_751
          have fe_781 : fld (f_747 a_0) 9 = (v_768 : Int32).toInt := by rw [e_760]; rfl
          rw [fe_781] at x_751
          rw [fe_758] at x_752
          have fe_782 : fld (f_747 a_0) 10 = (v_770 : Int32).toInt := by rw [e_760]; rfl
          rw [fe_782] at x_752
          rw [fe_759] at x_753
          have fe_783 : fld (f_747 a_0) 20 = (v_777 : Int32).toInt := by rw [e_760]; rfl
          rw [fe_783] at x_753
          refine v_aload_n hC dX12_number_47 rfl ?_
          refine v_vi hC (rest := []) m_1 e_760 rfl mi_X12_good ms_X12_good (p_X12_good hW_754 k_0) mx_X12_good ml_X12_139 (by decide) rfl (cells1 := 0) (slots1 := 0) (by decide) (by decide) (Nat.le_of_ble_eq_true rfl) (Nat.le_of_ble_eq_true rfl) rfl (Nat.le_of_ble_eq_true rfl) dX12_number_48 (fun r_784 L_785 f_786 h_787 => ?_)
          obtain ⟨rfl, rfl, b_788, x_789⟩ := h_787
          have fe_792 : fld (f_747 a_0) 12 = (v_773 : Int32).toInt := by rw [e_760]; rfl
          rw [fe_792] at x_789
          try simp only [Int32.reduceToInt, Int64.reduceToInt] at x_789
          refine v_if_ne hC dX12_number_51 (tgt := 56) (by decide) (fun h_793 => ?_) (fun h_793 => ?_)
          · simp only [Int32.lt_iff_toInt_lt, Int32.le_iff_toInt_le, Int32.reduceToInt, ← Int32.toInt_inj] at h_793
            refine v_aload_n hC dX12_number_56 rfl ?_
            refine v_get hC fl_X12_131 m_1 e_760 rfl dX12_number_57 ?_
            refine v_istore_n hC dX12_number_60 (by decide) (lv' := [(3, .int v_772), (0, .ref a_0), (1, .int a_1), (2, .int a_2)]) rfl ?_
            refine v_aload_n hC dX12_number_61 rfl ?_
            refine v_vv hC (rest := []) m_1 e_760 rfl mi_X12_advance ms_X12_advance (p_X12_advance hW_754 k_0) mx_X12_advance ml_X12_156 (by decide) rfl (cells1 := 0) (slots1 := 0) (by decide) (by decide) (Nat.le_of_ble_eq_true rfl) (Nat.le_of_ble_eq_true rfl) rfl (Nat.le_of_ble_eq_true rfl) dX12_number_62 (fun L_795 f_796 h_797 => ?_)
            obtain ⟨rfl, hW_802, hF_803, x_798, x_799, x_800, x_801⟩ := h_797
            have fe_804 : fld (f_747 a_0) 8 = (v_766 : Int32).toInt := by rw [e_760]; rfl
            have fe_805 : fld (f_747 a_0) 12 = (v_773 : Int32).toInt := by rw [e_760]; rfl
            have fe_806 : fld (f_747 a_0) 20 = (v_777 : Int32).toInt := by rw [e_760]; rfl
            rw [fe_804] at x_798
            obtain ⟨v_808, v_809, v_811, v_813, v_815, v_817, v_819, v_820, v_821, v_822, v_824, e_807, b_810, b_812, b_814, b_816, b_818, b_823, b_825⟩ := hW_802.at m_1 t_2
            have fe_826 : fld (f_796 a_0) 8 = (v_813 : Int32).toInt := by rw [e_807]; rfl
            have fe_827 : fld (f_796 a_0) 9 = (v_815 : Int32).toInt := by rw [e_807]; rfl
            rw [fe_826, fe_827] at x_798
            have fe_828 : fld (f_796 a_0) 8 = (v_813 : Int32).toInt := by rw [e_807]; rfl
            have fe_829 : fld (f_796 a_0) 9 = (v_815 : Int32).toInt := by rw [e_807]; rfl
            have fe_830 : fld (f_796 a_0) 10 = (v_817 : Int32).toInt := by rw [e_807]; rfl
            rw [fe_828, fe_829, fe_830] at x_799
            rw [fe_805] at x_800
            have fe_831 : fld (f_796 a_0) 12 = (v_820 : Int32).toInt := by rw [e_807]; rfl
            rw [fe_831] at x_800
            rw [fe_806] at x_801
            have fe_832 : fld (f_796 a_0) 20 = (v_824 : Int32).toInt := by rw [e_807]; rfl
            rw [fe_832] at x_801
            refine v_iload_n hC dX12_number_65 rfl ?_
            have fe_833 : fld (f_796 a_0) 8 = (v_813 : Int32).toInt := by rw [e_807]; rfl
            have fe_834 : fld (f_796 a_0) 9 = (v_815 : Int32).toInt := by rw [e_807]; rfl
            have fe_835 : fld (f_796 a_0) 10 = (v_817 : Int32).toInt := by rw [e_807]; rfl
            have fe_836 : fld (f_796 a_0) 12 = (v_820 : Int32).toInt := by rw [e_807]; rfl
            have fe_837 : fld (f_796 a_0) 12 = (v_820 : Int32).toInt := by rw [e_807]; rfl
            have fe_838 : fld (f_796 a_0) 20 = (v_824 : Int32).toInt := by rw [e_807]; rfl
            exact hR _ _ _ _ _ _ _ dX12_number_66 rfl (Nat.le_of_ble_eq_true rfl) (Nat.le_of_ble_eq_true rfl) ⟨rfl, hW_802, (((hF_566.tr hF_755).tr hF_803).mono rfl), (by simp only [fe_833, fe_834, fe_835, fe_836, mz_41, mz_42, mz_43, true_and, and_true, or_true, true_or, false_or, or_false, false_and, and_false, not_true_eq_false, not_false_eq_true] <;> first | omega | (simp only [Int32.lt_iff_toInt_lt, Int32.le_iff_toInt_le, Int32.reduceToInt, ← Int32.toInt_inj, true_and, and_true, or_true, true_or, false_or, or_false, false_and, and_false, not_true_eq_false, not_false_eq_true] <;> omega)), (by simp only [fe_837, true_and, and_true, or_true, true_or, false_or, or_false, false_and, and_false, not_true_eq_false, not_false_eq_true] <;> first | omega | (simp only [Int32.lt_iff_toInt_lt, Int32.le_iff_toInt_le, Int32.reduceToInt, ← Int32.toInt_inj, true_and, and_true, or_true, true_or, false_or, or_false, false_and, and_false, not_true_eq_false, not_false_eq_true] <;> omega)), (by simp only [fe_838, mz_44, true_and, and_true, or_true, true_or, false_or, or_false, false_and, and_false, not_true_eq_false, not_false_eq_true] <;> first | omega | (simp only [Int32.lt_iff_toInt_lt, Int32.le_iff_toInt_le, Int32.reduceToInt, ← Int32.toInt_inj, true_and, and_true, or_true, true_or, false_or, or_false, false_and, and_false, not_true_eq_false, not_false_eq_true] <;> omega))⟩
          · simp only [Int32.lt_iff_toInt_lt, Int32.le_iff_toInt_le, Int32.reduceToInt, ← Int32.toInt_inj] at h_793
            refine v_iconst hC dX12_number_54 (v := 0) (by decide) ?_
            have fe_839 : fld (f_747 a_0) 8 = (v_766 : Int32).toInt := by rw [e_760]; rfl
            have fe_840 : fld (f_747 a_0) 9 = (v_768 : Int32).toInt := by rw [e_760]; rfl
            have fe_841 : fld (f_747 a_0) 10 = (v_770 : Int32).toInt := by rw [e_760]; rfl
            have fe_842 : fld (f_747 a_0) 12 = (v_773 : Int32).toInt := by rw [e_760]; rfl
            have fe_843 : fld (f_747 a_0) 12 = (v_773 : Int32).toInt := by rw [e_760]; rfl
            have fe_844 : fld (f_747 a_0) 20 = (v_777 : Int32).toInt := by rw [e_760]; rfl
            exact hR _ _ _ _ _ _ _ dX12_number_55 rfl (Nat.le_of_ble_eq_true rfl) (Nat.le_of_ble_eq_true rfl) ⟨rfl, hW_754, ((hF_566.tr hF_755).mono rfl), (by simp only [fe_839, fe_840, fe_841, fe_842, mz_41, mz_42, mz_43, true_and, and_true, or_true, true_or, false_or, or_false, false_and, and_false, not_true_eq_false, not_false_eq_true] <;> first | omega | (simp only [Int32.lt_iff_toInt_lt, Int32.le_iff_toInt_le, Int32.reduceToInt, ← Int32.toInt_inj, true_and, and_true, or_true, true_or, false_or, or_false, false_and, and_false, not_true_eq_false, not_false_eq_true] <;> omega)), (by simp only [fe_843, true_and, and_true, or_true, true_or, false_or, or_false, false_and, and_false, not_true_eq_false, not_false_eq_true] <;> first | omega | (simp only [Int32.lt_iff_toInt_lt, Int32.le_iff_toInt_le, Int32.reduceToInt, ← Int32.toInt_inj, true_and, and_true, or_true, true_or, false_or, or_false, false_and, and_false, not_true_eq_false, not_false_eq_true] <;> omega)), (by simp only [fe_844, mz_44, true_and, and_true, or_true, true_or, false_or, or_false, false_and, and_false, not_true_eq_false, not_false_eq_true] <;> first | omega | (simp only [Int32.lt_iff_toInt_lt, Int32.le_iff_toInt_le, Int32.reduceToInt, ← Int32.toInt_inj, true_and, and_true, or_true, true_or, false_or, or_false, false_and, and_false, not_true_eq_false, not_false_eq_true] <;> omega))⟩
set_option maxRecDepth 100000 in
set_option maxHeartbeats 4000000 in
theorem p_X12_told {l : Launch} {E : Ez} {L : List Nat} {f : Nat → va_E} {T : Nat → va_E → Prop} {a_0 : Nat} {a_1 : Nat} {a_2 : Int32} {a_3 : Int32} {q : Nat → Nat} (hW : WT T L f) (k_0 : isM T L E a_0 q) (ha_1 : a_1 < 77) : CI l yX12_told cX12_told 4 .int 7 0 0 E [.ref a_0, .ref (eK E a_1), .int a_2, .int a_3] L f (fun r L1 f1 => L = L1 ∧ WT T L f1 ∧ FR [12] f f1 ∧ (¬ fld (f1 a_0) 12 = 0 ∨ (fld (f a_0) 12 = 0 ∧ (a_2.toInt ≤ r.toInt ∧ r.toInt ≤ a_3.toInt) ∧ (fld (f a_0) 8 ≤ fld (f1 a_0) 9 ∧ fld (f1 a_0) 9 ≤ fld (f1 a_0) 8) ∧ (fld (f1 a_0) 10 = 0 ∨ fld (f1 a_0) 9 < fld (f1 a_0) 8))) ∧ (fld (f1 a_0) 12 = 0 ∨ r.toInt = 0) ∧ fld (f1 a_0) 20 = fld (f a_0) 20) := by
  refine ci_of (by decide) (Nat.le_of_ble_eq_true rfl) (fun z hz hnm hC hR => ?_)
  have hC : Cx z E cX12_told RX12 4 7 0 0 := hC
  subst hz
  show V z E 4 0 0 L f 0 [(0, .ref a_0), (1, .ref (eK E a_1)), (2, .int a_2), (3, .int a_3)] []
  obtain ⟨m_1, t_2, nq_21, k_3, k_4, k_5, k_6, k_7, k_8, k_9, k_10, k_11, k_12, k_13, k_14, k_15, k_16, k_17, k_18, k_19, k_20⟩ := id k_0
  obtain ⟨v_23, v_24, v_26, v_28, v_30, v_32, v_34, v_35, v_36, v_37, v_39, e_22, b_25, b_27, b_29, b_31, b_33, b_38, b_40⟩ := hW.at m_1 t_2
  have mz_41 : fld (f a_0) 8 = v_28.toInt := by rw [e_22]; rfl
  have mz_42 : fld (f a_0) 12 = v_35.toInt := by rw [e_22]; rfl
  have mz_43 : fld (f a_0) 20 = v_39.toInt := by rw [e_22]; rfl
  refine v_aload_n hC dX12_told_0 rfl ?_
  refine v_aload_n hC dX12_told_1 rfl ?_
  refine v_vv hC (rest := []) m_1 e_22 rfl mi_X12_needs ms_X12_needs (p_X12_needs hW k_0 ha_1) mx_X12_needs ml_X12_166 (by decide) rfl (cells1 := 0) (slots1 := 0) (by decide) (by decide) (Nat.le_of_ble_eq_true rfl) (Nat.le_of_ble_eq_true rfl) rfl (Nat.le_of_ble_eq_true rfl) dX12_told_2 (fun L_45 f_46 h_47 => ?_)
  obtain ⟨rfl, hW_51, hF_52, x_48, x_49, x_50⟩ := h_47
  have ib_53 := iw_b (f a_0) (f (q 4)) a_1
  have fe_54 : fld (f a_0) 8 = (v_28 : Int32).toInt := by rw [e_22]; rfl
  have fe_55 : fld (f a_0) 9 = (v_30 : Int32).toInt := by rw [e_22]; rfl
  have fe_56 : fld (f a_0) 10 = (v_32 : Int32).toInt := by rw [e_22]; rfl
  have fe_57 : fld (f a_0) 12 = (v_35 : Int32).toInt := by rw [e_22]; rfl
  rw [fe_54, fe_55, fe_56, fe_57] at ib_53
  have fe_58 : fld (f a_0) 8 = (v_28 : Int32).toInt := by rw [e_22]; rfl
  have fe_59 : fld (f a_0) 12 = (v_35 : Int32).toInt := by rw [e_22]; rfl
  have fe_60 : fld (f a_0) 20 = (v_39 : Int32).toInt := by rw [e_22]; rfl
  rw [fe_58] at x_48
  obtain ⟨v_62, v_63, v_65, v_67, v_69, v_71, v_73, v_74, v_75, v_76, v_78, e_61, b_64, b_66, b_68, b_70, b_72, b_77, b_79⟩ := hW_51.at m_1 t_2
  have fe_80 : fld (f_46 a_0) 8 = (v_67 : Int32).toInt := by rw [e_61]; rfl
  have fe_81 : fld (f_46 a_0) 9 = (v_69 : Int32).toInt := by rw [e_61]; rfl
  have fe_82 : fld (f_46 a_0) 10 = (v_71 : Int32).toInt := by rw [e_61]; rfl
  have fe_83 : fld (f_46 a_0) 12 = (v_74 : Int32).toInt := by rw [e_61]; rfl
  rw [fe_80, fe_81, fe_82, fe_83] at x_48
  rw [fe_59] at x_49
  have fe_84 : fld (f_46 a_0) 12 = (v_74 : Int32).toInt := by rw [e_61]; rfl
  rw [fe_84] at x_49
  rw [fe_60] at x_50
  have fe_85 : fld (f_46 a_0) 20 = (v_78 : Int32).toInt := by rw [e_61]; rfl
  rw [fe_85] at x_50
  refine v_aload_n hC dX12_told_5 rfl ?_
  refine v_iload_n hC dX12_told_6 rfl ?_
  refine v_iload_n hC dX12_told_7 rfl ?_
  refine v_vi hC (rest := []) m_1 e_61 rfl mi_X12_number ms_X12_number (p_X12_number hW_51 k_0) mx_X12_number ml_X12_170 (by decide) rfl (cells1 := 0) (slots1 := 0) (by decide) (by decide) (Nat.le_of_ble_eq_true rfl) (Nat.le_of_ble_eq_true rfl) rfl (Nat.le_of_ble_eq_true rfl) dX12_told_8 (fun r_86 L_87 f_88 h_89 => ?_)
  obtain ⟨rfl, hW_93, hF_94, x_90, x_91, x_92⟩ := h_89
  have fe_95 : fld (f_46 a_0) 8 = (v_67 : Int32).toInt := by rw [e_61]; rfl
  have fe_96 : fld (f_46 a_0) 10 = (v_71 : Int32).toInt := by rw [e_61]; rfl
  have fe_97 : fld (f_46 a_0) 12 = (v_74 : Int32).toInt := by rw [e_61]; rfl
  have fe_98 : fld (f_46 a_0) 20 = (v_78 : Int32).toInt := by rw [e_61]; rfl
  rw [fe_95, fe_96, fe_97] at x_90
  obtain ⟨v_100, v_101, v_103, v_105, v_107, v_109, v_111, v_112, v_113, v_114, v_116, e_99, b_102, b_104, b_106, b_108, b_110, b_115, b_117⟩ := hW_93.at m_1 t_2
  have fe_118 : fld (f_88 a_0) 8 = (v_105 : Int32).toInt := by rw [e_99]; rfl
  have fe_119 : fld (f_88 a_0) 9 = (v_107 : Int32).toInt := by rw [e_99]; rfl
  have fe_120 : fld (f_88 a_0) 10 = (v_109 : Int32).toInt := by rw [e_99]; rfl
  have fe_121 : fld (f_88 a_0) 12 = (v_112 : Int32).toInt := by rw [e_99]; rfl
  rw [fe_118, fe_119, fe_120, fe_121] at x_90
  have fe_122 : fld (f_88 a_0) 12 = (v_112 : Int32).toInt := by rw [e_99]; rfl
  rw [fe_122] at x_91
  rw [fe_98] at x_92
  have fe_123 : fld (f_88 a_0) 20 = (v_116 : Int32).toInt := by rw [e_99]; rfl
  rw [fe_123] at x_92
  try simp only [Int32.reduceToInt, Int64.reduceToInt] at x_90
  try simp only [Int32.reduceToInt, Int64.reduceToInt] at x_91
  try simp only [Int32.reduceToInt, Int64.reduceToInt] at x_92
  have fe_124 : fld (f_88 a_0) 8 = (v_105 : Int32).toInt := by rw [e_99]; rfl
  have fe_125 : fld (f_88 a_0) 9 = (v_107 : Int32).toInt := by rw [e_99]; rfl
  have fe_126 : fld (f_88 a_0) 10 = (v_109 : Int32).toInt := by rw [e_99]; rfl
  have fe_127 : fld (f_88 a_0) 12 = (v_112 : Int32).toInt := by rw [e_99]; rfl
  have fe_128 : fld (f_88 a_0) 12 = (v_112 : Int32).toInt := by rw [e_99]; rfl
  have fe_129 : fld (f_88 a_0) 20 = (v_116 : Int32).toInt := by rw [e_99]; rfl
  exact hR _ _ _ _ _ _ _ dX12_told_11 rfl (Nat.le_of_ble_eq_true rfl) (Nat.le_of_ble_eq_true rfl) ⟨rfl, hW_93, ((hF_52.tr hF_94).mono rfl), (by simp only [fe_124, fe_125, fe_126, fe_127, mz_41, mz_42, true_and, and_true, or_true, true_or, false_or, or_false, false_and, and_false, not_true_eq_false, not_false_eq_true] <;> first | omega | (simp only [Int32.lt_iff_toInt_lt, Int32.le_iff_toInt_le, Int32.reduceToInt, ← Int32.toInt_inj, true_and, and_true, or_true, true_or, false_or, or_false, false_and, and_false, not_true_eq_false, not_false_eq_true] <;> omega)), (by simp only [fe_128, true_and, and_true, or_true, true_or, false_or, or_false, false_and, and_false, not_true_eq_false, not_false_eq_true] <;> first | omega | (simp only [Int32.lt_iff_toInt_lt, Int32.le_iff_toInt_le, Int32.reduceToInt, ← Int32.toInt_inj, true_and, and_true, or_true, true_or, false_or, or_false, false_and, and_false, not_true_eq_false, not_false_eq_true] <;> omega)), (by simp only [fe_129, mz_43, true_and, and_true, or_true, true_or, false_or, or_false, false_and, and_false, not_true_eq_false, not_false_eq_true] <;> first | omega | (simp only [Int32.lt_iff_toInt_lt, Int32.le_iff_toInt_le, Int32.reduceToInt, ← Int32.toInt_inj, true_and, and_true, or_true, true_or, false_or, or_false, false_and, and_false, not_true_eq_false, not_false_eq_true] <;> omega))⟩
set_option maxRecDepth 100000 in
set_option maxHeartbeats 4000000 in
theorem p_X12_ends {l : Launch} {E : Ez} {L : List Nat} {f : Nat → va_E} {T : Nat → va_E → Prop} {a_0 : Nat} {q : Nat → Nat} (hW : WT T L f) (k_0 : isM T L E a_0 q) : CV l yX12_ends cX12_ends 1 2 0 0 E [.ref a_0] L f (fun L1 f1 => L = L1 ∧ WT T L f1 ∧ FR [12] f f1 ∧ (¬ fld (f1 a_0) 12 = 0 ∨ (fld (f a_0) 12 = 0 ∧ fld (f a_0) 10 = 3 ∧ (fld (f a_0) 8 ≤ fld (f1 a_0) 9 ∧ fld (f1 a_0) 9 ≤ fld (f1 a_0) 8) ∧ (fld (f1 a_0) 10 = 0 ∨ fld (f1 a_0) 9 < fld (f1 a_0) 8))) ∧ fld (f1 a_0) 20 = fld (f a_0) 20) := by
  refine cv_of (by decide) (Nat.le_of_ble_eq_true rfl) (fun z hz hnm hC hR => ?_)
  have hC : Cx z E cX12_ends RX12 1 2 0 0 := hC
  subst hz
  show V z E 1 0 0 L f 0 [(0, .ref a_0)] []
  obtain ⟨m_1, t_2, nq_21, k_3, k_4, k_5, k_6, k_7, k_8, k_9, k_10, k_11, k_12, k_13, k_14, k_15, k_16, k_17, k_18, k_19, k_20⟩ := id k_0
  obtain ⟨v_23, v_24, v_26, v_28, v_30, v_32, v_34, v_35, v_36, v_37, v_39, e_22, b_25, b_27, b_29, b_31, b_33, b_38, b_40⟩ := hW.at m_1 t_2
  have mz_41 : fld (f a_0) 8 = v_28.toInt := by rw [e_22]; rfl
  have mz_42 : fld (f a_0) 10 = v_32.toInt := by rw [e_22]; rfl
  have mz_43 : fld (f a_0) 12 = v_35.toInt := by rw [e_22]; rfl
  have mz_44 : fld (f a_0) 20 = v_39.toInt := by rw [e_22]; rfl
  refine v_aload_n hC dX12_ends_0 rfl ?_
  refine v_vi hC (rest := []) m_1 e_22 rfl mi_X12_good ms_X12_good (p_X12_good hW k_0) mx_X12_good ml_X12_139 (by decide) rfl (cells1 := 0) (slots1 := 0) (by decide) (by decide) (Nat.le_of_ble_eq_true rfl) (Nat.le_of_ble_eq_true rfl) rfl (Nat.le_of_ble_eq_true rfl) dX12_ends_1 (fun r_45 L_46 f_47 h_48 => ?_)
  obtain ⟨rfl, rfl, b_49, x_50⟩ := h_48
  have fe_53 : fld (f a_0) 12 = (v_35 : Int32).toInt := by rw [e_22]; rfl
  rw [fe_53] at x_50
  try simp only [Int32.reduceToInt, Int64.reduceToInt] at x_50
  refine v_if_eq hC dX12_ends_4 (tgt := 20) (by decide) (fun h_54 => ?_) (fun h_54 => ?_)
  · simp only [Int32.lt_iff_toInt_lt, Int32.le_iff_toInt_le, Int32.reduceToInt, ← Int32.toInt_inj] at h_54
    refine v_aload_n hC dX12_ends_20 rfl ?_
    refine v_vi hC (rest := []) m_1 e_22 rfl mi_X12_good ms_X12_good (p_X12_good hW k_0) mx_X12_good ml_X12_139 (by decide) rfl (cells1 := 0) (slots1 := 0) (by decide) (by decide) (Nat.le_of_ble_eq_true rfl) (Nat.le_of_ble_eq_true rfl) rfl (Nat.le_of_ble_eq_true rfl) dX12_ends_21 (fun r_55 L_56 f_57 h_58 => ?_)
    obtain ⟨rfl, rfl, b_59, x_60⟩ := h_58
    have fe_63 : fld (f a_0) 12 = (v_35 : Int32).toInt := by rw [e_22]; rfl
    rw [fe_63] at x_60
    try simp only [Int32.reduceToInt, Int64.reduceToInt] at x_60
    refine v_if_eq hC dX12_ends_24 (tgt := 31) (by decide) (fun h_64 => ?_) (fun h_64 => ?_)
    · simp only [Int32.lt_iff_toInt_lt, Int32.le_iff_toInt_le, Int32.reduceToInt, ← Int32.toInt_inj] at h_64
      have fe_65 : fld (f a_0) 8 = (v_28 : Int32).toInt := by rw [e_22]; rfl
      have fe_66 : fld (f a_0) 9 = (v_30 : Int32).toInt := by rw [e_22]; rfl
      have fe_67 : fld (f a_0) 10 = (v_32 : Int32).toInt := by rw [e_22]; rfl
      have fe_68 : fld (f a_0) 12 = (v_35 : Int32).toInt := by rw [e_22]; rfl
      have fe_69 : fld (f a_0) 20 = (v_39 : Int32).toInt := by rw [e_22]; rfl
      exact hR _ _ _ _ _ _ dX12_ends_31 (Nat.le_of_ble_eq_true rfl) (Nat.le_of_ble_eq_true rfl) ⟨rfl, hW, FR.rf, (by simp only [fe_65, fe_66, fe_67, fe_68, mz_41, mz_42, mz_43, true_and, and_true, or_true, true_or, false_or, or_false, false_and, and_false, not_true_eq_false, not_false_eq_true] <;> first | omega | (simp only [Int32.lt_iff_toInt_lt, Int32.le_iff_toInt_le, Int32.reduceToInt, ← Int32.toInt_inj, true_and, and_true, or_true, true_or, false_or, or_false, false_and, and_false, not_true_eq_false, not_false_eq_true] <;> omega)), (by simp only [fe_69, mz_44, true_and, and_true, or_true, true_or, false_or, or_false, false_and, and_false, not_true_eq_false, not_false_eq_true] <;> first | omega | (simp only [Int32.lt_iff_toInt_lt, Int32.le_iff_toInt_le, Int32.reduceToInt, ← Int32.toInt_inj, true_and, and_true, or_true, true_or, false_or, or_false, false_and, and_false, not_true_eq_false, not_false_eq_true] <;> omega))⟩
    · simp only [Int32.lt_iff_toInt_lt, Int32.le_iff_toInt_le, Int32.reduceToInt, ← Int32.toInt_inj] at h_64
      refine v_aload_n hC dX12_ends_27 rfl ?_
      refine v_vv hC (rest := []) m_1 e_22 rfl mi_X12_advance ms_X12_advance (p_X12_advance hW k_0) mx_X12_advance ml_X12_156 (by decide) rfl (cells1 := 0) (slots1 := 0) (by decide) (by decide) (Nat.le_of_ble_eq_true rfl) (Nat.le_of_ble_eq_true rfl) rfl (Nat.le_of_ble_eq_true rfl) dX12_ends_28 (fun L_71 f_72 h_73 => ?_)
      obtain ⟨rfl, hW_78, hF_79, x_74, x_75, x_76, x_77⟩ := h_73
      have fe_80 : fld (f a_0) 8 = (v_28 : Int32).toInt := by rw [e_22]; rfl
      have fe_81 : fld (f a_0) 12 = (v_35 : Int32).toInt := by rw [e_22]; rfl
      have fe_82 : fld (f a_0) 20 = (v_39 : Int32).toInt := by rw [e_22]; rfl
      rw [fe_80] at x_74
      obtain ⟨v_84, v_85, v_87, v_89, v_91, v_93, v_95, v_96, v_97, v_98, v_100, e_83, b_86, b_88, b_90, b_92, b_94, b_99, b_101⟩ := hW_78.at m_1 t_2
      have fe_102 : fld (f_72 a_0) 8 = (v_89 : Int32).toInt := by rw [e_83]; rfl
      have fe_103 : fld (f_72 a_0) 9 = (v_91 : Int32).toInt := by rw [e_83]; rfl
      rw [fe_102, fe_103] at x_74
      have fe_104 : fld (f_72 a_0) 8 = (v_89 : Int32).toInt := by rw [e_83]; rfl
      have fe_105 : fld (f_72 a_0) 9 = (v_91 : Int32).toInt := by rw [e_83]; rfl
      have fe_106 : fld (f_72 a_0) 10 = (v_93 : Int32).toInt := by rw [e_83]; rfl
      rw [fe_104, fe_105, fe_106] at x_75
      rw [fe_81] at x_76
      have fe_107 : fld (f_72 a_0) 12 = (v_96 : Int32).toInt := by rw [e_83]; rfl
      rw [fe_107] at x_76
      rw [fe_82] at x_77
      have fe_108 : fld (f_72 a_0) 20 = (v_100 : Int32).toInt := by rw [e_83]; rfl
      rw [fe_108] at x_77
      have fe_109 : fld (f_72 a_0) 8 = (v_89 : Int32).toInt := by rw [e_83]; rfl
      have fe_110 : fld (f_72 a_0) 9 = (v_91 : Int32).toInt := by rw [e_83]; rfl
      have fe_111 : fld (f_72 a_0) 10 = (v_93 : Int32).toInt := by rw [e_83]; rfl
      have fe_112 : fld (f_72 a_0) 12 = (v_96 : Int32).toInt := by rw [e_83]; rfl
      have fe_113 : fld (f_72 a_0) 20 = (v_100 : Int32).toInt := by rw [e_83]; rfl
      exact hR _ _ _ _ _ _ dX12_ends_31 (Nat.le_of_ble_eq_true rfl) (Nat.le_of_ble_eq_true rfl) ⟨rfl, hW_78, (hF_79.mono rfl), (by simp only [fe_109, fe_110, fe_111, fe_112, mz_41, mz_42, mz_43, true_and, and_true, or_true, true_or, false_or, or_false, false_and, and_false, not_true_eq_false, not_false_eq_true] <;> first | omega | (simp only [Int32.lt_iff_toInt_lt, Int32.le_iff_toInt_le, Int32.reduceToInt, ← Int32.toInt_inj, true_and, and_true, or_true, true_or, false_or, or_false, false_and, and_false, not_true_eq_false, not_false_eq_true] <;> omega)), (by simp only [fe_113, mz_44, true_and, and_true, or_true, true_or, false_or, or_false, false_and, and_false, not_true_eq_false, not_false_eq_true] <;> first | omega | (simp only [Int32.lt_iff_toInt_lt, Int32.le_iff_toInt_le, Int32.reduceToInt, ← Int32.toInt_inj, true_and, and_true, or_true, true_or, false_or, or_false, false_and, and_false, not_true_eq_false, not_false_eq_true] <;> omega))⟩
  · simp only [Int32.lt_iff_toInt_lt, Int32.le_iff_toInt_le, Int32.reduceToInt, ← Int32.toInt_inj] at h_54
    refine v_aload_n hC dX12_ends_7 rfl ?_
    refine v_get hC fl_X12_120 m_1 e_22 rfl dX12_ends_8 ?_
    refine v_iconst hC dX12_ends_11 (v := 3) (by decide) ?_
    refine v_icmp_eq hC dX12_ends_12 (tgt := 20) (by decide) (fun h_114 => ?_) (fun h_114 => ?_)
    · simp only [Int32.lt_iff_toInt_lt, Int32.le_iff_toInt_le, Int32.reduceToInt, ← Int32.toInt_inj] at h_114
      refine v_aload_n hC dX12_ends_20 rfl ?_
      refine v_vi hC (rest := []) m_1 e_22 rfl mi_X12_good ms_X12_good (p_X12_good hW k_0) mx_X12_good ml_X12_139 (by decide) rfl (cells1 := 0) (slots1 := 0) (by decide) (by decide) (Nat.le_of_ble_eq_true rfl) (Nat.le_of_ble_eq_true rfl) rfl (Nat.le_of_ble_eq_true rfl) dX12_ends_21 (fun r_115 L_116 f_117 h_118 => ?_)
      obtain ⟨rfl, rfl, b_119, x_120⟩ := h_118
      have fe_123 : fld (f a_0) 12 = (v_35 : Int32).toInt := by rw [e_22]; rfl
      rw [fe_123] at x_120
      try simp only [Int32.reduceToInt, Int64.reduceToInt] at x_120
      refine v_if_eq hC dX12_ends_24 (tgt := 31) (by decide) (fun h_124 => ?_) (fun h_124 => ?_)
      · simp only [Int32.lt_iff_toInt_lt, Int32.le_iff_toInt_le, Int32.reduceToInt, ← Int32.toInt_inj] at h_124
        have fe_125 : fld (f a_0) 8 = (v_28 : Int32).toInt := by rw [e_22]; rfl
        have fe_126 : fld (f a_0) 9 = (v_30 : Int32).toInt := by rw [e_22]; rfl
        have fe_127 : fld (f a_0) 10 = (v_32 : Int32).toInt := by rw [e_22]; rfl
        have fe_128 : fld (f a_0) 12 = (v_35 : Int32).toInt := by rw [e_22]; rfl
        have fe_129 : fld (f a_0) 20 = (v_39 : Int32).toInt := by rw [e_22]; rfl
        exact hR _ _ _ _ _ _ dX12_ends_31 (Nat.le_of_ble_eq_true rfl) (Nat.le_of_ble_eq_true rfl) ⟨rfl, hW, FR.rf, (by simp only [fe_125, fe_126, fe_127, fe_128, mz_41, mz_42, mz_43, true_and, and_true, or_true, true_or, false_or, or_false, false_and, and_false, not_true_eq_false, not_false_eq_true] <;> first | omega | (simp only [Int32.lt_iff_toInt_lt, Int32.le_iff_toInt_le, Int32.reduceToInt, ← Int32.toInt_inj, true_and, and_true, or_true, true_or, false_or, or_false, false_and, and_false, not_true_eq_false, not_false_eq_true] <;> omega)), (by simp only [fe_129, mz_44, true_and, and_true, or_true, true_or, false_or, or_false, false_and, and_false, not_true_eq_false, not_false_eq_true] <;> first | omega | (simp only [Int32.lt_iff_toInt_lt, Int32.le_iff_toInt_le, Int32.reduceToInt, ← Int32.toInt_inj, true_and, and_true, or_true, true_or, false_or, or_false, false_and, and_false, not_true_eq_false, not_false_eq_true] <;> omega))⟩
      · simp only [Int32.lt_iff_toInt_lt, Int32.le_iff_toInt_le, Int32.reduceToInt, ← Int32.toInt_inj] at h_124
        refine v_aload_n hC dX12_ends_27 rfl ?_
        refine v_vv hC (rest := []) m_1 e_22 rfl mi_X12_advance ms_X12_advance (p_X12_advance hW k_0) mx_X12_advance ml_X12_156 (by decide) rfl (cells1 := 0) (slots1 := 0) (by decide) (by decide) (Nat.le_of_ble_eq_true rfl) (Nat.le_of_ble_eq_true rfl) rfl (Nat.le_of_ble_eq_true rfl) dX12_ends_28 (fun L_131 f_132 h_133 => ?_)
        obtain ⟨rfl, hW_138, hF_139, x_134, x_135, x_136, x_137⟩ := h_133
        have fe_140 : fld (f a_0) 8 = (v_28 : Int32).toInt := by rw [e_22]; rfl
        have fe_141 : fld (f a_0) 12 = (v_35 : Int32).toInt := by rw [e_22]; rfl
        have fe_142 : fld (f a_0) 20 = (v_39 : Int32).toInt := by rw [e_22]; rfl
        rw [fe_140] at x_134
        obtain ⟨v_144, v_145, v_147, v_149, v_151, v_153, v_155, v_156, v_157, v_158, v_160, e_143, b_146, b_148, b_150, b_152, b_154, b_159, b_161⟩ := hW_138.at m_1 t_2
        have fe_162 : fld (f_132 a_0) 8 = (v_149 : Int32).toInt := by rw [e_143]; rfl
        have fe_163 : fld (f_132 a_0) 9 = (v_151 : Int32).toInt := by rw [e_143]; rfl
        rw [fe_162, fe_163] at x_134
        have fe_164 : fld (f_132 a_0) 8 = (v_149 : Int32).toInt := by rw [e_143]; rfl
        have fe_165 : fld (f_132 a_0) 9 = (v_151 : Int32).toInt := by rw [e_143]; rfl
        have fe_166 : fld (f_132 a_0) 10 = (v_153 : Int32).toInt := by rw [e_143]; rfl
        rw [fe_164, fe_165, fe_166] at x_135
        rw [fe_141] at x_136
        have fe_167 : fld (f_132 a_0) 12 = (v_156 : Int32).toInt := by rw [e_143]; rfl
        rw [fe_167] at x_136
        rw [fe_142] at x_137
        have fe_168 : fld (f_132 a_0) 20 = (v_160 : Int32).toInt := by rw [e_143]; rfl
        rw [fe_168] at x_137
        have fe_169 : fld (f_132 a_0) 8 = (v_149 : Int32).toInt := by rw [e_143]; rfl
        have fe_170 : fld (f_132 a_0) 9 = (v_151 : Int32).toInt := by rw [e_143]; rfl
        have fe_171 : fld (f_132 a_0) 10 = (v_153 : Int32).toInt := by rw [e_143]; rfl
        have fe_172 : fld (f_132 a_0) 12 = (v_156 : Int32).toInt := by rw [e_143]; rfl
        have fe_173 : fld (f_132 a_0) 20 = (v_160 : Int32).toInt := by rw [e_143]; rfl
        exact hR _ _ _ _ _ _ dX12_ends_31 (Nat.le_of_ble_eq_true rfl) (Nat.le_of_ble_eq_true rfl) ⟨rfl, hW_138, (hF_139.mono rfl), (by simp only [fe_169, fe_170, fe_171, fe_172, mz_41, mz_42, mz_43, true_and, and_true, or_true, true_or, false_or, or_false, false_and, and_false, not_true_eq_false, not_false_eq_true] <;> first | omega | (simp only [Int32.lt_iff_toInt_lt, Int32.le_iff_toInt_le, Int32.reduceToInt, ← Int32.toInt_inj, true_and, and_true, or_true, true_or, false_or, or_false, false_and, and_false, not_true_eq_false, not_false_eq_true] <;> omega)), (by simp only [fe_173, mz_44, true_and, and_true, or_true, true_or, false_or, or_false, false_and, and_false, not_true_eq_false, not_false_eq_true] <;> first | omega | (simp only [Int32.lt_iff_toInt_lt, Int32.le_iff_toInt_le, Int32.reduceToInt, ← Int32.toInt_inj, true_and, and_true, or_true, true_or, false_or, or_false, false_and, and_false, not_true_eq_false, not_false_eq_true] <;> omega))⟩
    · simp only [Int32.lt_iff_toInt_lt, Int32.le_iff_toInt_le, Int32.reduceToInt, ← Int32.toInt_inj] at h_114
      refine v_aload_n hC dX12_ends_15 rfl ?_
      refine v_iconst hC dX12_ends_16 (v := 1) (by decide) ?_
      refine v_vv hC (rest := []) m_1 e_22 rfl mi_X12_errs ms_X12_errs (p_X12_errs hW k_0 (by decide)) mx_X12_errs ml_X12_162 (by decide) rfl (cells1 := 0) (slots1 := 0) (by decide) (by decide) (Nat.le_of_ble_eq_true rfl) (Nat.le_of_ble_eq_true rfl) rfl (Nat.le_of_ble_eq_true rfl) dX12_ends_17 (fun L_175 f_176 h_177 => ?_)
      obtain ⟨rfl, hW_183, hF_184, x_178, x_179, x_180, x_181, x_182⟩ := h_177
      have fe_185 : fld (f a_0) 8 = (v_28 : Int32).toInt := by rw [e_22]; rfl
      have fe_186 : fld (f a_0) 9 = (v_30 : Int32).toInt := by rw [e_22]; rfl
      have fe_187 : fld (f a_0) 10 = (v_32 : Int32).toInt := by rw [e_22]; rfl
      have fe_188 : fld (f a_0) 20 = (v_39 : Int32).toInt := by rw [e_22]; rfl
      obtain ⟨v_190, v_191, v_193, v_195, v_197, v_199, v_201, v_202, v_203, v_204, v_206, e_189, b_192, b_194, b_196, b_198, b_200, b_205, b_207⟩ := hW_183.at m_1 t_2
      have fe_208 : fld (f_176 a_0) 12 = (v_202 : Int32).toInt := by rw [e_189]; rfl
      rw [fe_208] at x_178
      rw [fe_185] at x_179
      have fe_209 : fld (f_176 a_0) 8 = (v_195 : Int32).toInt := by rw [e_189]; rfl
      rw [fe_209] at x_179
      rw [fe_186] at x_180
      have fe_210 : fld (f_176 a_0) 9 = (v_197 : Int32).toInt := by rw [e_189]; rfl
      rw [fe_210] at x_180
      rw [fe_187] at x_181
      have fe_211 : fld (f_176 a_0) 10 = (v_199 : Int32).toInt := by rw [e_189]; rfl
      rw [fe_211] at x_181
      rw [fe_188] at x_182
      have fe_212 : fld (f_176 a_0) 20 = (v_206 : Int32).toInt := by rw [e_189]; rfl
      rw [fe_212] at x_182
      refine v_aload_n hC dX12_ends_20 rfl ?_
      refine v_vi hC (rest := []) m_1 e_189 rfl mi_X12_good ms_X12_good (p_X12_good hW_183 k_0) mx_X12_good ml_X12_139 (by decide) rfl (cells1 := 0) (slots1 := 0) (by decide) (by decide) (Nat.le_of_ble_eq_true rfl) (Nat.le_of_ble_eq_true rfl) rfl (Nat.le_of_ble_eq_true rfl) dX12_ends_21 (fun r_213 L_214 f_215 h_216 => ?_)
      obtain ⟨rfl, rfl, b_217, x_218⟩ := h_216
      have fe_221 : fld (f_176 a_0) 12 = (v_202 : Int32).toInt := by rw [e_189]; rfl
      rw [fe_221] at x_218
      try simp only [Int32.reduceToInt, Int64.reduceToInt] at x_218
      refine v_if_eq hC dX12_ends_24 (tgt := 31) (by decide) (fun h_222 => ?_) (fun h_222 => ?_)
      · simp only [Int32.lt_iff_toInt_lt, Int32.le_iff_toInt_le, Int32.reduceToInt, ← Int32.toInt_inj] at h_222
        have fe_223 : fld (f_176 a_0) 8 = (v_195 : Int32).toInt := by rw [e_189]; rfl
        have fe_224 : fld (f_176 a_0) 9 = (v_197 : Int32).toInt := by rw [e_189]; rfl
        have fe_225 : fld (f_176 a_0) 10 = (v_199 : Int32).toInt := by rw [e_189]; rfl
        have fe_226 : fld (f_176 a_0) 12 = (v_202 : Int32).toInt := by rw [e_189]; rfl
        have fe_227 : fld (f_176 a_0) 20 = (v_206 : Int32).toInt := by rw [e_189]; rfl
        exact hR _ _ _ _ _ _ dX12_ends_31 (Nat.le_of_ble_eq_true rfl) (Nat.le_of_ble_eq_true rfl) ⟨rfl, hW_183, (hF_184.mono rfl), (by simp only [fe_223, fe_224, fe_225, fe_226, mz_41, mz_42, mz_43, true_and, and_true, or_true, true_or, false_or, or_false, false_and, and_false, not_true_eq_false, not_false_eq_true] <;> first | omega | (simp only [Int32.lt_iff_toInt_lt, Int32.le_iff_toInt_le, Int32.reduceToInt, ← Int32.toInt_inj, true_and, and_true, or_true, true_or, false_or, or_false, false_and, and_false, not_true_eq_false, not_false_eq_true] <;> omega)), (by simp only [fe_227, mz_44, true_and, and_true, or_true, true_or, false_or, or_false, false_and, and_false, not_true_eq_false, not_false_eq_true] <;> first | omega | (simp only [Int32.lt_iff_toInt_lt, Int32.le_iff_toInt_le, Int32.reduceToInt, ← Int32.toInt_inj, true_and, and_true, or_true, true_or, false_or, or_false, false_and, and_false, not_true_eq_false, not_false_eq_true] <;> omega))⟩
      · simp only [Int32.lt_iff_toInt_lt, Int32.le_iff_toInt_le, Int32.reduceToInt, ← Int32.toInt_inj] at h_222
        refine v_aload_n hC dX12_ends_27 rfl ?_
        refine v_vv hC (rest := []) m_1 e_189 rfl mi_X12_advance ms_X12_advance (p_X12_advance hW_183 k_0) mx_X12_advance ml_X12_156 (by decide) rfl (cells1 := 0) (slots1 := 0) (by decide) (by decide) (Nat.le_of_ble_eq_true rfl) (Nat.le_of_ble_eq_true rfl) rfl (Nat.le_of_ble_eq_true rfl) dX12_ends_28 (fun L_229 f_230 h_231 => ?_)
        obtain ⟨rfl, hW_236, hF_237, x_232, x_233, x_234, x_235⟩ := h_231
        have fe_238 : fld (f_176 a_0) 8 = (v_195 : Int32).toInt := by rw [e_189]; rfl
        have fe_239 : fld (f_176 a_0) 12 = (v_202 : Int32).toInt := by rw [e_189]; rfl
        have fe_240 : fld (f_176 a_0) 20 = (v_206 : Int32).toInt := by rw [e_189]; rfl
        rw [fe_238] at x_232
        obtain ⟨v_242, v_243, v_245, v_247, v_249, v_251, v_253, v_254, v_255, v_256, v_258, e_241, b_244, b_246, b_248, b_250, b_252, b_257, b_259⟩ := hW_236.at m_1 t_2
        have fe_260 : fld (f_230 a_0) 8 = (v_247 : Int32).toInt := by rw [e_241]; rfl
        have fe_261 : fld (f_230 a_0) 9 = (v_249 : Int32).toInt := by rw [e_241]; rfl
        rw [fe_260, fe_261] at x_232
        have fe_262 : fld (f_230 a_0) 8 = (v_247 : Int32).toInt := by rw [e_241]; rfl
        have fe_263 : fld (f_230 a_0) 9 = (v_249 : Int32).toInt := by rw [e_241]; rfl
        have fe_264 : fld (f_230 a_0) 10 = (v_251 : Int32).toInt := by rw [e_241]; rfl
        rw [fe_262, fe_263, fe_264] at x_233
        rw [fe_239] at x_234
        have fe_265 : fld (f_230 a_0) 12 = (v_254 : Int32).toInt := by rw [e_241]; rfl
        rw [fe_265] at x_234
        rw [fe_240] at x_235
        have fe_266 : fld (f_230 a_0) 20 = (v_258 : Int32).toInt := by rw [e_241]; rfl
        rw [fe_266] at x_235
        have fe_267 : fld (f_230 a_0) 8 = (v_247 : Int32).toInt := by rw [e_241]; rfl
        have fe_268 : fld (f_230 a_0) 9 = (v_249 : Int32).toInt := by rw [e_241]; rfl
        have fe_269 : fld (f_230 a_0) 10 = (v_251 : Int32).toInt := by rw [e_241]; rfl
        have fe_270 : fld (f_230 a_0) 12 = (v_254 : Int32).toInt := by rw [e_241]; rfl
        have fe_271 : fld (f_230 a_0) 20 = (v_258 : Int32).toInt := by rw [e_241]; rfl
        exact hR _ _ _ _ _ _ dX12_ends_31 (Nat.le_of_ble_eq_true rfl) (Nat.le_of_ble_eq_true rfl) ⟨rfl, hW_236, ((hF_184.tr hF_237).mono rfl), (by simp only [fe_267, fe_268, fe_269, fe_270, mz_41, mz_42, mz_43, true_and, and_true, or_true, true_or, false_or, or_false, false_and, and_false, not_true_eq_false, not_false_eq_true] <;> first | omega | (simp only [Int32.lt_iff_toInt_lt, Int32.le_iff_toInt_le, Int32.reduceToInt, ← Int32.toInt_inj, true_and, and_true, or_true, true_or, false_or, or_false, false_and, and_false, not_true_eq_false, not_false_eq_true] <;> omega)), (by simp only [fe_271, mz_44, true_and, and_true, or_true, true_or, false_or, or_false, false_and, and_false, not_true_eq_false, not_false_eq_true] <;> first | omega | (simp only [Int32.lt_iff_toInt_lt, Int32.le_iff_toInt_le, Int32.reduceToInt, ← Int32.toInt_inj, true_and, and_true, or_true, true_or, false_or, or_false, false_and, and_false, not_true_eq_false, not_false_eq_true] <;> omega))⟩
set_option maxRecDepth 100000 in
set_option maxHeartbeats 4000000 in
theorem p_X12_endsAll {l : Launch} {E : Ez} {L : List Nat} {f : Nat → va_E} {T : Nat → va_E → Prop} {a_0 : Nat} {q : Nat → Nat} (hW : WT T L f) (k_0 : isM T L E a_0 q) : CV l yX12_endsAll cX12_endsAll 1 2 0 0 E [.ref a_0] L f (fun L1 f1 => L = L1 ∧ WT T L f1 ∧ FR [12] f f1 ∧ (¬ fld (f1 a_0) 12 = 0 ∨ fld (f a_0) 12 = 0) ∧ fld (f1 a_0) 20 = fld (f a_0) 20) := by
  refine cv_of (by decide) (Nat.le_of_ble_eq_true rfl) (fun z hz hnm hC hR => ?_)
  have hC : Cx z E cX12_endsAll RX12 1 2 0 0 := hC
  subst hz
  show V z E 1 0 0 L f 0 [(0, .ref a_0)] []
  obtain ⟨m_1, t_2, nq_21, k_3, k_4, k_5, k_6, k_7, k_8, k_9, k_10, k_11, k_12, k_13, k_14, k_15, k_16, k_17, k_18, k_19, k_20⟩ := id k_0
  obtain ⟨v_23, v_24, v_26, v_28, v_30, v_32, v_34, v_35, v_36, v_37, v_39, e_22, b_25, b_27, b_29, b_31, b_33, b_38, b_40⟩ := hW.at m_1 t_2
  have mz_41 : fld (f a_0) 12 = v_35.toInt := by rw [e_22]; rfl
  have mz_42 : fld (f a_0) 20 = v_39.toInt := by rw [e_22]; rfl
  refine v_aload_n hC dX12_endsAll_0 rfl ?_
  refine v_vi hC (rest := []) m_1 e_22 rfl mi_X12_good ms_X12_good (p_X12_good hW k_0) mx_X12_good ml_X12_139 (by decide) rfl (cells1 := 0) (slots1 := 0) (by decide) (by decide) (Nat.le_of_ble_eq_true rfl) (Nat.le_of_ble_eq_true rfl) rfl (Nat.le_of_ble_eq_true rfl) dX12_endsAll_1 (fun r_43 L_44 f_45 h_46 => ?_)
  obtain ⟨rfl, rfl, b_47, x_48⟩ := h_46
  have fe_51 : fld (f a_0) 12 = (v_35 : Int32).toInt := by rw [e_22]; rfl
  rw [fe_51] at x_48
  try simp only [Int32.reduceToInt, Int64.reduceToInt] at x_48
  refine v_if_eq hC dX12_endsAll_4 (tgt := 19) (by decide) (fun h_52 => ?_) (fun h_52 => ?_)
  · simp only [Int32.lt_iff_toInt_lt, Int32.le_iff_toInt_le, Int32.reduceToInt, ← Int32.toInt_inj] at h_52
    have fe_53 : fld (f a_0) 12 = (v_35 : Int32).toInt := by rw [e_22]; rfl
    have fe_54 : fld (f a_0) 20 = (v_39 : Int32).toInt := by rw [e_22]; rfl
    exact hR _ _ _ _ _ _ dX12_endsAll_19 (Nat.le_of_ble_eq_true rfl) (Nat.le_of_ble_eq_true rfl) ⟨rfl, hW, FR.rf, (by simp only [fe_53, mz_41, true_and, and_true, or_true, true_or, false_or, or_false, false_and, and_false, not_true_eq_false, not_false_eq_true] <;> first | omega | (simp only [Int32.lt_iff_toInt_lt, Int32.le_iff_toInt_le, Int32.reduceToInt, ← Int32.toInt_inj, true_and, and_true, or_true, true_or, false_or, or_false, false_and, and_false, not_true_eq_false, not_false_eq_true] <;> omega)), (by simp only [fe_54, mz_42, true_and, and_true, or_true, true_or, false_or, or_false, false_and, and_false, not_true_eq_false, not_false_eq_true] <;> first | omega | (simp only [Int32.lt_iff_toInt_lt, Int32.le_iff_toInt_le, Int32.reduceToInt, ← Int32.toInt_inj, true_and, and_true, or_true, true_or, false_or, or_false, false_and, and_false, not_true_eq_false, not_false_eq_true] <;> omega))⟩
  · simp only [Int32.lt_iff_toInt_lt, Int32.le_iff_toInt_le, Int32.reduceToInt, ← Int32.toInt_inj] at h_52
    refine v_aload_n hC dX12_endsAll_7 rfl ?_
    refine v_get hC fl_X12_120 m_1 e_22 rfl dX12_endsAll_8 ?_
    refine v_if_eq hC dX12_endsAll_11 (tgt := 19) (by decide) (fun h_55 => ?_) (fun h_55 => ?_)
    · simp only [Int32.lt_iff_toInt_lt, Int32.le_iff_toInt_le, Int32.reduceToInt, ← Int32.toInt_inj] at h_55
      have fe_56 : fld (f a_0) 12 = (v_35 : Int32).toInt := by rw [e_22]; rfl
      have fe_57 : fld (f a_0) 20 = (v_39 : Int32).toInt := by rw [e_22]; rfl
      exact hR _ _ _ _ _ _ dX12_endsAll_19 (Nat.le_of_ble_eq_true rfl) (Nat.le_of_ble_eq_true rfl) ⟨rfl, hW, FR.rf, (by simp only [fe_56, mz_41, true_and, and_true, or_true, true_or, false_or, or_false, false_and, and_false, not_true_eq_false, not_false_eq_true] <;> first | omega | (simp only [Int32.lt_iff_toInt_lt, Int32.le_iff_toInt_le, Int32.reduceToInt, ← Int32.toInt_inj, true_and, and_true, or_true, true_or, false_or, or_false, false_and, and_false, not_true_eq_false, not_false_eq_true] <;> omega)), (by simp only [fe_57, mz_42, true_and, and_true, or_true, true_or, false_or, or_false, false_and, and_false, not_true_eq_false, not_false_eq_true] <;> first | omega | (simp only [Int32.lt_iff_toInt_lt, Int32.le_iff_toInt_le, Int32.reduceToInt, ← Int32.toInt_inj, true_and, and_true, or_true, true_or, false_or, or_false, false_and, and_false, not_true_eq_false, not_false_eq_true] <;> omega))⟩
    · simp only [Int32.lt_iff_toInt_lt, Int32.le_iff_toInt_le, Int32.reduceToInt, ← Int32.toInt_inj] at h_55
      refine v_aload_n hC dX12_endsAll_14 rfl ?_
      refine v_iconst hC dX12_endsAll_15 (v := 1) (by decide) ?_
      refine v_vv hC (rest := []) m_1 e_22 rfl mi_X12_errs ms_X12_errs (p_X12_errs hW k_0 (by decide)) mx_X12_errs ml_X12_162 (by decide) rfl (cells1 := 0) (slots1 := 0) (by decide) (by decide) (Nat.le_of_ble_eq_true rfl) (Nat.le_of_ble_eq_true rfl) rfl (Nat.le_of_ble_eq_true rfl) dX12_endsAll_16 (fun L_59 f_60 h_61 => ?_)
      obtain ⟨rfl, hW_67, hF_68, x_62, x_63, x_64, x_65, x_66⟩ := h_61
      have fe_69 : fld (f a_0) 8 = (v_28 : Int32).toInt := by rw [e_22]; rfl
      have fe_70 : fld (f a_0) 9 = (v_30 : Int32).toInt := by rw [e_22]; rfl
      have fe_71 : fld (f a_0) 10 = (v_32 : Int32).toInt := by rw [e_22]; rfl
      have fe_72 : fld (f a_0) 20 = (v_39 : Int32).toInt := by rw [e_22]; rfl
      obtain ⟨v_74, v_75, v_77, v_79, v_81, v_83, v_85, v_86, v_87, v_88, v_90, e_73, b_76, b_78, b_80, b_82, b_84, b_89, b_91⟩ := hW_67.at m_1 t_2
      have fe_92 : fld (f_60 a_0) 12 = (v_86 : Int32).toInt := by rw [e_73]; rfl
      rw [fe_92] at x_62
      rw [fe_69] at x_63
      have fe_93 : fld (f_60 a_0) 8 = (v_79 : Int32).toInt := by rw [e_73]; rfl
      rw [fe_93] at x_63
      rw [fe_70] at x_64
      have fe_94 : fld (f_60 a_0) 9 = (v_81 : Int32).toInt := by rw [e_73]; rfl
      rw [fe_94] at x_64
      rw [fe_71] at x_65
      have fe_95 : fld (f_60 a_0) 10 = (v_83 : Int32).toInt := by rw [e_73]; rfl
      rw [fe_95] at x_65
      rw [fe_72] at x_66
      have fe_96 : fld (f_60 a_0) 20 = (v_90 : Int32).toInt := by rw [e_73]; rfl
      rw [fe_96] at x_66
      have fe_97 : fld (f_60 a_0) 12 = (v_86 : Int32).toInt := by rw [e_73]; rfl
      have fe_98 : fld (f_60 a_0) 20 = (v_90 : Int32).toInt := by rw [e_73]; rfl
      exact hR _ _ _ _ _ _ dX12_endsAll_19 (Nat.le_of_ble_eq_true rfl) (Nat.le_of_ble_eq_true rfl) ⟨rfl, hW_67, (hF_68.mono rfl), (by simp only [fe_97, mz_41, true_and, and_true, or_true, true_or, false_or, or_false, false_and, and_false, not_true_eq_false, not_false_eq_true] <;> first | omega | (simp only [Int32.lt_iff_toInt_lt, Int32.le_iff_toInt_le, Int32.reduceToInt, ← Int32.toInt_inj, true_and, and_true, or_true, true_or, false_or, or_false, false_and, and_false, not_true_eq_false, not_false_eq_true] <;> omega)), (by simp only [fe_98, mz_42, true_and, and_true, or_true, true_or, false_or, or_false, false_and, and_false, not_true_eq_false, not_false_eq_true] <;> first | omega | (simp only [Int32.lt_iff_toInt_lt, Int32.le_iff_toInt_le, Int32.reduceToInt, ← Int32.toInt_inj, true_and, and_true, or_true, true_or, false_or, or_false, false_and, and_false, not_true_eq_false, not_false_eq_true] <;> omega))⟩
set_option maxRecDepth 100000 in
set_option maxHeartbeats 4000000 in
theorem p_X12_hand {l : Launch} {E : Ez} {L : List Nat} {f : Nat → va_E} {T : Nat → va_E → Prop} {a_0 : Nat} {q : Nat → Nat} (hW : WT T L f) (k_0 : isM T L E a_0 q) : CI l yX12_hand cX12_hand 1 .int 8 0 0 E [.ref a_0] L f (fun r L1 f1 => L = L1 ∧ WT T L f1 ∧ FR [12, 2176] f f1 ∧ ((-4) ≤ r.toInt ∧ r.toInt ≤ 0)) := by
  refine ci_of (by decide) (Nat.le_of_ble_eq_true rfl) (fun z hz hnm hC hR => ?_)
  have hC : Cx z E cX12_hand RX12 1 8 0 0 := hC
  subst hz
  show V z E 1 0 0 L f 0 [(0, .ref a_0)] []
  obtain ⟨m_1, t_2, nq_21, k_3, k_4, k_5, k_6, k_7, k_8, k_9, k_10, k_11, k_12, k_13, k_14, k_15, k_16, k_17, k_18, k_19, k_20⟩ := id k_0
  refine v_aload_n hC dX12_hand_0 rfl ?_
  obtain ⟨v_23, v_24, v_26, v_28, v_30, v_32, v_34, v_35, v_36, v_37, v_39, e_22, b_25, b_27, b_29, b_31, b_33, b_38, b_40⟩ := hW.at m_1 t_2
  refine v_vv hC (rest := []) m_1 e_22 rfl mi_X12_begin ms_X12_begin (p_X12_begin hW k_0) mx_X12_begin ml_X12_181 (by decide) rfl (cells1 := 0) (slots1 := 0) (by decide) (by decide) (Nat.le_of_ble_eq_true rfl) (Nat.le_of_ble_eq_true rfl) rfl (Nat.le_of_ble_eq_true rfl) dX12_hand_1 (fun L_42 f_43 h_44 => ?_)
  obtain ⟨rfl, hW_48, hF_49, x_45, x_46, x_47⟩ := h_44
  have fe_50 : fld (f a_0) 20 = (v_39 : Int32).toInt := by rw [e_22]; rfl
  obtain ⟨v_52, v_53, v_55, v_57, v_59, v_61, v_63, v_64, v_65, v_66, v_68, e_51, b_54, b_56, b_58, b_60, b_62, b_67, b_69⟩ := hW_48.at m_1 t_2
  have fe_70 : fld (f_43 a_0) 12 = (v_64 : Int32).toInt := by rw [e_51]; rfl
  rw [fe_70] at x_45
  have fe_71 : fld (f_43 a_0) 8 = (v_57 : Int32).toInt := by rw [e_51]; rfl
  rw [fe_71] at x_46
  rw [fe_50] at x_47
  have fe_72 : fld (f_43 a_0) 20 = (v_68 : Int32).toInt := by rw [e_51]; rfl
  rw [fe_72] at x_47
  refine v_aload_n hC dX12_hand_4 rfl ?_
  refine v_vv hC (rest := []) m_1 e_51 rfl mi_X12_advance ms_X12_advance (p_X12_advance hW_48 k_0) mx_X12_advance ml_X12_156 (by decide) rfl (cells1 := 0) (slots1 := 0) (by decide) (by decide) (Nat.le_of_ble_eq_true rfl) (Nat.le_of_ble_eq_true rfl) rfl (Nat.le_of_ble_eq_true rfl) dX12_hand_5 (fun L_74 f_75 h_76 => ?_)
  obtain ⟨rfl, hW_81, hF_82, x_77, x_78, x_79, x_80⟩ := h_76
  have fe_83 : fld (f_43 a_0) 8 = (v_57 : Int32).toInt := by rw [e_51]; rfl
  have fe_84 : fld (f_43 a_0) 12 = (v_64 : Int32).toInt := by rw [e_51]; rfl
  have fe_85 : fld (f_43 a_0) 20 = (v_68 : Int32).toInt := by rw [e_51]; rfl
  rw [fe_83] at x_77
  obtain ⟨v_87, v_88, v_90, v_92, v_94, v_96, v_98, v_99, v_100, v_101, v_103, e_86, b_89, b_91, b_93, b_95, b_97, b_102, b_104⟩ := hW_81.at m_1 t_2
  have fe_105 : fld (f_75 a_0) 8 = (v_92 : Int32).toInt := by rw [e_86]; rfl
  have fe_106 : fld (f_75 a_0) 9 = (v_94 : Int32).toInt := by rw [e_86]; rfl
  rw [fe_105, fe_106] at x_77
  have fe_107 : fld (f_75 a_0) 8 = (v_92 : Int32).toInt := by rw [e_86]; rfl
  have fe_108 : fld (f_75 a_0) 9 = (v_94 : Int32).toInt := by rw [e_86]; rfl
  have fe_109 : fld (f_75 a_0) 10 = (v_96 : Int32).toInt := by rw [e_86]; rfl
  rw [fe_107, fe_108, fe_109] at x_78
  rw [fe_84] at x_79
  have fe_110 : fld (f_75 a_0) 12 = (v_99 : Int32).toInt := by rw [e_86]; rfl
  rw [fe_110] at x_79
  rw [fe_85] at x_80
  have fe_111 : fld (f_75 a_0) 20 = (v_103 : Int32).toInt := by rw [e_86]; rfl
  rw [fe_111] at x_80
  refine v_aload_n hC dX12_hand_8 rfl ?_
  refine v_ldcS hC sr_X12_210 dX12_hand_9 ?_
  refine v_vv hC (rest := []) m_1 e_86 rfl mi_X12_needs ms_X12_needs (p_X12_needs hW_81 k_0 (by decide)) mx_X12_needs ml_X12_166 (by decide) rfl (cells1 := 0) (slots1 := 0) (by decide) (by decide) (Nat.le_of_ble_eq_true rfl) (Nat.le_of_ble_eq_true rfl) rfl (Nat.le_of_ble_eq_true rfl) dX12_hand_11 (fun L_113 f_114 h_115 => ?_)
  obtain ⟨rfl, hW_119, hF_120, x_116, x_117, x_118⟩ := h_115
  have ib_121 := iw_b (f_75 a_0) (f_75 (q 4)) 43
  have ln_122 : ((bytStr.getD 43 []).length : Int) = 4 := by rfl
  have fe_123 : fld (f_75 a_0) 8 = (v_92 : Int32).toInt := by rw [e_86]; rfl
  have fe_124 : fld (f_75 a_0) 9 = (v_94 : Int32).toInt := by rw [e_86]; rfl
  have fe_125 : fld (f_75 a_0) 10 = (v_96 : Int32).toInt := by rw [e_86]; rfl
  have fe_126 : fld (f_75 a_0) 12 = (v_99 : Int32).toInt := by rw [e_86]; rfl
  rw [fe_123, fe_124, fe_125, fe_126] at ib_121
  have fe_127 : fld (f_75 a_0) 8 = (v_92 : Int32).toInt := by rw [e_86]; rfl
  have fe_128 : fld (f_75 a_0) 12 = (v_99 : Int32).toInt := by rw [e_86]; rfl
  have fe_129 : fld (f_75 a_0) 20 = (v_103 : Int32).toInt := by rw [e_86]; rfl
  rw [fe_127] at x_116
  obtain ⟨v_131, v_132, v_134, v_136, v_138, v_140, v_142, v_143, v_144, v_145, v_147, e_130, b_133, b_135, b_137, b_139, b_141, b_146, b_148⟩ := hW_119.at m_1 t_2
  have fe_149 : fld (f_114 a_0) 8 = (v_136 : Int32).toInt := by rw [e_130]; rfl
  have fe_150 : fld (f_114 a_0) 9 = (v_138 : Int32).toInt := by rw [e_130]; rfl
  have fe_151 : fld (f_114 a_0) 10 = (v_140 : Int32).toInt := by rw [e_130]; rfl
  have fe_152 : fld (f_114 a_0) 12 = (v_143 : Int32).toInt := by rw [e_130]; rfl
  rw [fe_149, fe_150, fe_151, fe_152] at x_116
  rw [fe_128] at x_117
  have fe_153 : fld (f_114 a_0) 12 = (v_143 : Int32).toInt := by rw [e_130]; rfl
  rw [fe_153] at x_117
  rw [fe_129] at x_118
  have fe_154 : fld (f_114 a_0) 20 = (v_147 : Int32).toInt := by rw [e_130]; rfl
  rw [fe_154] at x_118
  refine v_aload_n hC dX12_hand_14 rfl ?_
  refine v_get hC fl_X12_34 m_1 e_130 rfl dX12_hand_15 ?_
  refine v_bipush hC dX12_hand_18 (v := 10) (by decide) ?_
  refine v_aload_n hC dX12_hand_20 rfl ?_
  refine v_ldcS hC sr_X12_212 dX12_hand_21 ?_
  refine v_iconst hC dX12_hand_23 (v := 0) (by decide) ?_
  refine v_bipush hC dX12_hand_24 (v := 100) (by decide) ?_
  refine v_vi hC (rest := [.int 10, .ref (q 14)]) m_1 e_130 rfl mi_X12_told ms_X12_told (p_X12_told hW_119 k_0 (by decide)) mx_X12_told ml_X12_189 (by decide) rfl (cells1 := 0) (slots1 := 0) (by decide) (by decide) (Nat.le_of_ble_eq_true rfl) (Nat.le_of_ble_eq_true rfl) rfl (Nat.le_of_ble_eq_true rfl) dX12_hand_26 (fun r_155 L_156 f_157 h_158 => ?_)
  obtain ⟨rfl, hW_162, hF_163, x_159, x_160, x_161⟩ := h_158
  have ib_164 := iw_b (f_114 a_0) (f_114 (q 4)) 44
  have ln_165 : ((bytStr.getD 44 []).length : Int) = 1 := by rfl
  have fe_166 : fld (f_114 a_0) 8 = (v_136 : Int32).toInt := by rw [e_130]; rfl
  have fe_167 : fld (f_114 a_0) 9 = (v_138 : Int32).toInt := by rw [e_130]; rfl
  have fe_168 : fld (f_114 a_0) 10 = (v_140 : Int32).toInt := by rw [e_130]; rfl
  have fe_169 : fld (f_114 a_0) 12 = (v_143 : Int32).toInt := by rw [e_130]; rfl
  rw [fe_166, fe_167, fe_168, fe_169] at ib_164
  have fe_170 : fld (f_114 a_0) 8 = (v_136 : Int32).toInt := by rw [e_130]; rfl
  have fe_171 : fld (f_114 a_0) 12 = (v_143 : Int32).toInt := by rw [e_130]; rfl
  have fe_172 : fld (f_114 a_0) 20 = (v_147 : Int32).toInt := by rw [e_130]; rfl
  rw [fe_170, fe_171] at x_159
  obtain ⟨v_174, v_175, v_177, v_179, v_181, v_183, v_185, v_186, v_187, v_188, v_190, e_173, b_176, b_178, b_180, b_182, b_184, b_189, b_191⟩ := hW_162.at m_1 t_2
  have fe_192 : fld (f_157 a_0) 8 = (v_179 : Int32).toInt := by rw [e_173]; rfl
  have fe_193 : fld (f_157 a_0) 9 = (v_181 : Int32).toInt := by rw [e_173]; rfl
  have fe_194 : fld (f_157 a_0) 10 = (v_183 : Int32).toInt := by rw [e_173]; rfl
  have fe_195 : fld (f_157 a_0) 12 = (v_186 : Int32).toInt := by rw [e_173]; rfl
  rw [fe_192, fe_193, fe_194, fe_195] at x_159
  have fe_196 : fld (f_157 a_0) 12 = (v_186 : Int32).toInt := by rw [e_173]; rfl
  rw [fe_196] at x_160
  rw [fe_172] at x_161
  have fe_197 : fld (f_157 a_0) 20 = (v_190 : Int32).toInt := by rw [e_173]; rfl
  rw [fe_197] at x_161
  try simp only [Int32.reduceToInt, Int64.reduceToInt] at x_159
  try simp only [Int32.reduceToInt, Int64.reduceToInt] at x_160
  try simp only [Int32.reduceToInt, Int64.reduceToInt] at x_161
  obtain ⟨m_198, t_199⟩ := id k_8
  obtain ⟨g_201, e_200, ok_202⟩ := hW_162.at m_198 t_199
  refine v_iast hC m_198 e_200 (vp_in_iff.mpr (by decide)) dX12_hand_29 (fun f_203 hf_204 hk_205 => ?_)
  have hW_207 := hW_162.up hf_204 hk_205 t_199 ⟨_, rfl, (ok_202.up (i := 10) (by decide) (fun q1 q2 => absurd (And.intro q1 q2) (by decide)) (fun k9 q1 q2 q3 => by simp only [Int32.reduceToInt] at q3; omega))⟩
  obtain ⟨g_206, hf_204, ok_208, eg_209⟩ : ∃ g9, f_203 (q 14) = aI E 2076 g9 ∧ FOK g9 ∧ g9 = upd g_201 (10 : Int32).toNatClampNeg r_155 := ⟨_, hf_204, (ok_202.up (i := 10) (by decide) (fun q1 q2 => absurd (And.intro q1 q2) (by decide)) (fun k9 q1 q2 q3 => by simp only [Int32.reduceToInt] at q3; omega)), rfl⟩
  have hf_210 := (hk_205 a_0 (ne_kd e_173 e_200 rfl)).trans e_173
  have fr_211 := FR.w hk_205 e_200 (k := 2176) rfl
  refine v_aload_n hC dX12_hand_30 rfl ?_
  refine v_get hC fl_X12_34 m_1 hf_210 rfl dX12_hand_31 ?_
  refine v_bipush hC dX12_hand_34 (v := 11) (by decide) ?_
  refine v_aload_n hC dX12_hand_36 rfl ?_
  refine v_ldcS hC sr_X12_214 dX12_hand_37 ?_
  refine v_iconst hC dX12_hand_39 (v := 0) (by decide) ?_
  refine v_bipush hC dX12_hand_40 (v := 100) (by decide) ?_
  refine v_vi hC (rest := [.int 11, .ref (q 14)]) m_1 hf_210 rfl mi_X12_told ms_X12_told (p_X12_told hW_207 k_0 (by decide)) mx_X12_told ml_X12_189 (by decide) rfl (cells1 := 0) (slots1 := 0) (by decide) (by decide) (Nat.le_of_ble_eq_true rfl) (Nat.le_of_ble_eq_true rfl) rfl (Nat.le_of_ble_eq_true rfl) dX12_hand_42 (fun r_212 L_213 f_214 h_215 => ?_)
  obtain ⟨rfl, hW_219, hF_220, x_216, x_217, x_218⟩ := h_215
  have ib_221 := iw_b (f_203 a_0) (f_203 (q 4)) 45
  have ln_222 : ((bytStr.getD 45 []).length : Int) = 1 := by rfl
  have fe_223 : fld (f_203 a_0) 8 = (v_179 : Int32).toInt := by rw [hf_210]; rfl
  have fe_224 : fld (f_203 a_0) 9 = (v_181 : Int32).toInt := by rw [hf_210]; rfl
  have fe_225 : fld (f_203 a_0) 10 = (v_183 : Int32).toInt := by rw [hf_210]; rfl
  have fe_226 : fld (f_203 a_0) 12 = (v_186 : Int32).toInt := by rw [hf_210]; rfl
  rw [fe_223, fe_224, fe_225, fe_226] at ib_221
  have fe_227 : fld (f_203 a_0) 8 = (v_179 : Int32).toInt := by rw [hf_210]; rfl
  have fe_228 : fld (f_203 a_0) 12 = (v_186 : Int32).toInt := by rw [hf_210]; rfl
  have fe_229 : fld (f_203 a_0) 20 = (v_190 : Int32).toInt := by rw [hf_210]; rfl
  have hf_230 := hF_220.at hf_204 rfl
  rw [fe_227, fe_228] at x_216
  obtain ⟨v_232, v_233, v_235, v_237, v_239, v_241, v_243, v_244, v_245, v_246, v_248, e_231, b_234, b_236, b_238, b_240, b_242, b_247, b_249⟩ := hW_219.at m_1 t_2
  have fe_250 : fld (f_214 a_0) 8 = (v_237 : Int32).toInt := by rw [e_231]; rfl
  have fe_251 : fld (f_214 a_0) 9 = (v_239 : Int32).toInt := by rw [e_231]; rfl
  have fe_252 : fld (f_214 a_0) 10 = (v_241 : Int32).toInt := by rw [e_231]; rfl
  have fe_253 : fld (f_214 a_0) 12 = (v_244 : Int32).toInt := by rw [e_231]; rfl
  rw [fe_250, fe_251, fe_252, fe_253] at x_216
  have fe_254 : fld (f_214 a_0) 12 = (v_244 : Int32).toInt := by rw [e_231]; rfl
  rw [fe_254] at x_217
  rw [fe_229] at x_218
  have fe_255 : fld (f_214 a_0) 20 = (v_248 : Int32).toInt := by rw [e_231]; rfl
  rw [fe_255] at x_218
  try simp only [Int32.reduceToInt, Int64.reduceToInt] at x_216
  try simp only [Int32.reduceToInt, Int64.reduceToInt] at x_217
  try simp only [Int32.reduceToInt, Int64.reduceToInt] at x_218
  refine v_iast hC m_198 hf_230 (vp_in_iff.mpr (by decide)) dX12_hand_45 (fun f_256 hf_257 hk_258 => ?_)
  have hW_260 := hW_219.up hf_257 hk_258 t_199 ⟨_, rfl, (ok_208.up (i := 11) (by decide) (fun q1 q2 => absurd (And.intro q1 q2) (by decide)) (fun k9 q1 q2 q3 => by simp only [Int32.reduceToInt] at q3; omega))⟩
  obtain ⟨g_259, hf_257, ok_261, eg_262⟩ : ∃ g9, f_256 (q 14) = aI E 2076 g9 ∧ FOK g9 ∧ g9 = upd g_206 (11 : Int32).toNatClampNeg r_212 := ⟨_, hf_257, (ok_208.up (i := 11) (by decide) (fun q1 q2 => absurd (And.intro q1 q2) (by decide)) (fun k9 q1 q2 q3 => by simp only [Int32.reduceToInt] at q3; omega)), rfl⟩
  have hf_263 := (hk_258 a_0 (ne_kd e_231 hf_230 rfl)).trans e_231
  have fr_264 := FR.w hk_258 hf_230 (k := 2176) rfl
  refine v_aload_n hC dX12_hand_46 rfl ?_
  refine v_get hC fl_X12_34 m_1 hf_263 rfl dX12_hand_47 ?_
  refine v_bipush hC dX12_hand_50 (v := 12) (by decide) ?_
  refine v_aload_n hC dX12_hand_52 rfl ?_
  refine v_ldcS hC sr_X12_216 dX12_hand_53 ?_
  refine v_iconst hC dX12_hand_55 (v := 0) (by decide) ?_
  refine v_bipush hC dX12_hand_56 (v := 100) (by decide) ?_
  refine v_vi hC (rest := [.int 12, .ref (q 14)]) m_1 hf_263 rfl mi_X12_told ms_X12_told (p_X12_told hW_260 k_0 (by decide)) mx_X12_told ml_X12_189 (by decide) rfl (cells1 := 0) (slots1 := 0) (by decide) (by decide) (Nat.le_of_ble_eq_true rfl) (Nat.le_of_ble_eq_true rfl) rfl (Nat.le_of_ble_eq_true rfl) dX12_hand_58 (fun r_265 L_266 f_267 h_268 => ?_)
  obtain ⟨rfl, hW_272, hF_273, x_269, x_270, x_271⟩ := h_268
  have ib_274 := iw_b (f_256 a_0) (f_256 (q 4)) 46
  have ln_275 : ((bytStr.getD 46 []).length : Int) = 1 := by rfl
  have fe_276 : fld (f_256 a_0) 8 = (v_237 : Int32).toInt := by rw [hf_263]; rfl
  have fe_277 : fld (f_256 a_0) 9 = (v_239 : Int32).toInt := by rw [hf_263]; rfl
  have fe_278 : fld (f_256 a_0) 10 = (v_241 : Int32).toInt := by rw [hf_263]; rfl
  have fe_279 : fld (f_256 a_0) 12 = (v_244 : Int32).toInt := by rw [hf_263]; rfl
  rw [fe_276, fe_277, fe_278, fe_279] at ib_274
  have fe_280 : fld (f_256 a_0) 8 = (v_237 : Int32).toInt := by rw [hf_263]; rfl
  have fe_281 : fld (f_256 a_0) 12 = (v_244 : Int32).toInt := by rw [hf_263]; rfl
  have fe_282 : fld (f_256 a_0) 20 = (v_248 : Int32).toInt := by rw [hf_263]; rfl
  have hf_283 := hF_273.at hf_257 rfl
  rw [fe_280, fe_281] at x_269
  obtain ⟨v_285, v_286, v_288, v_290, v_292, v_294, v_296, v_297, v_298, v_299, v_301, e_284, b_287, b_289, b_291, b_293, b_295, b_300, b_302⟩ := hW_272.at m_1 t_2
  have fe_303 : fld (f_267 a_0) 8 = (v_290 : Int32).toInt := by rw [e_284]; rfl
  have fe_304 : fld (f_267 a_0) 9 = (v_292 : Int32).toInt := by rw [e_284]; rfl
  have fe_305 : fld (f_267 a_0) 10 = (v_294 : Int32).toInt := by rw [e_284]; rfl
  have fe_306 : fld (f_267 a_0) 12 = (v_297 : Int32).toInt := by rw [e_284]; rfl
  rw [fe_303, fe_304, fe_305, fe_306] at x_269
  have fe_307 : fld (f_267 a_0) 12 = (v_297 : Int32).toInt := by rw [e_284]; rfl
  rw [fe_307] at x_270
  rw [fe_282] at x_271
  have fe_308 : fld (f_267 a_0) 20 = (v_301 : Int32).toInt := by rw [e_284]; rfl
  rw [fe_308] at x_271
  try simp only [Int32.reduceToInt, Int64.reduceToInt] at x_269
  try simp only [Int32.reduceToInt, Int64.reduceToInt] at x_270
  try simp only [Int32.reduceToInt, Int64.reduceToInt] at x_271
  refine v_iast hC m_198 hf_283 (vp_in_iff.mpr (by decide)) dX12_hand_61 (fun f_309 hf_310 hk_311 => ?_)
  have hW_313 := hW_272.up hf_310 hk_311 t_199 ⟨_, rfl, (ok_261.up (i := 12) (by decide) (fun q1 q2 => absurd (And.intro q1 q2) (by decide)) (fun k9 q1 q2 q3 => by simp only [Int32.reduceToInt] at q3; omega))⟩
  obtain ⟨g_312, hf_310, ok_314, eg_315⟩ : ∃ g9, f_309 (q 14) = aI E 2076 g9 ∧ FOK g9 ∧ g9 = upd g_259 (12 : Int32).toNatClampNeg r_265 := ⟨_, hf_310, (ok_261.up (i := 12) (by decide) (fun q1 q2 => absurd (And.intro q1 q2) (by decide)) (fun k9 q1 q2 q3 => by simp only [Int32.reduceToInt] at q3; omega)), rfl⟩
  have hf_316 := (hk_311 a_0 (ne_kd e_284 hf_283 rfl)).trans e_284
  have fr_317 := FR.w hk_311 hf_283 (k := 2176) rfl
  refine v_aload_n hC dX12_hand_62 rfl ?_
  refine v_vv hC (rest := []) m_1 hf_316 rfl mi_X12_ends ms_X12_ends (p_X12_ends hW_313 k_0) mx_X12_ends ml_X12_178 (by decide) rfl (cells1 := 0) (slots1 := 0) (by decide) (by decide) (Nat.le_of_ble_eq_true rfl) (Nat.le_of_ble_eq_true rfl) rfl (Nat.le_of_ble_eq_true rfl) dX12_hand_63 (fun L_319 f_320 h_321 => ?_)
  obtain ⟨rfl, hW_324, hF_325, x_322, x_323⟩ := h_321
  have fe_326 : fld (f_309 a_0) 8 = (v_290 : Int32).toInt := by rw [hf_316]; rfl
  have fe_327 : fld (f_309 a_0) 10 = (v_294 : Int32).toInt := by rw [hf_316]; rfl
  have fe_328 : fld (f_309 a_0) 12 = (v_297 : Int32).toInt := by rw [hf_316]; rfl
  have fe_329 : fld (f_309 a_0) 20 = (v_301 : Int32).toInt := by rw [hf_316]; rfl
  have hf_330 := hF_325.at hf_310 rfl
  rw [fe_326, fe_327, fe_328] at x_322
  obtain ⟨v_332, v_333, v_335, v_337, v_339, v_341, v_343, v_344, v_345, v_346, v_348, e_331, b_334, b_336, b_338, b_340, b_342, b_347, b_349⟩ := hW_324.at m_1 t_2
  have fe_350 : fld (f_320 a_0) 8 = (v_337 : Int32).toInt := by rw [e_331]; rfl
  have fe_351 : fld (f_320 a_0) 9 = (v_339 : Int32).toInt := by rw [e_331]; rfl
  have fe_352 : fld (f_320 a_0) 10 = (v_341 : Int32).toInt := by rw [e_331]; rfl
  have fe_353 : fld (f_320 a_0) 12 = (v_344 : Int32).toInt := by rw [e_331]; rfl
  rw [fe_350, fe_351, fe_352, fe_353] at x_322
  rw [fe_329] at x_323
  have fe_354 : fld (f_320 a_0) 20 = (v_348 : Int32).toInt := by rw [e_331]; rfl
  rw [fe_354] at x_323
  refine v_aload_n hC dX12_hand_66 rfl ?_
  refine v_vv hC (rest := []) m_1 e_331 rfl mi_X12_endsAll ms_X12_endsAll (p_X12_endsAll hW_324 k_0) mx_X12_endsAll ml_X12_218 (by decide) rfl (cells1 := 0) (slots1 := 0) (by decide) (by decide) (Nat.le_of_ble_eq_true rfl) (Nat.le_of_ble_eq_true rfl) rfl (Nat.le_of_ble_eq_true rfl) dX12_hand_67 (fun L_356 f_357 h_358 => ?_)
  obtain ⟨rfl, hW_361, hF_362, x_359, x_360⟩ := h_358
  have fe_363 : fld (f_320 a_0) 12 = (v_344 : Int32).toInt := by rw [e_331]; rfl
  have fe_364 : fld (f_320 a_0) 20 = (v_348 : Int32).toInt := by rw [e_331]; rfl
  have hf_365 := hF_362.at hf_330 rfl
  rw [fe_363] at x_359
  obtain ⟨v_367, v_368, v_370, v_372, v_374, v_376, v_378, v_379, v_380, v_381, v_383, e_366, b_369, b_371, b_373, b_375, b_377, b_382, b_384⟩ := hW_361.at m_1 t_2
  have fe_385 : fld (f_357 a_0) 12 = (v_379 : Int32).toInt := by rw [e_366]; rfl
  rw [fe_385] at x_359
  rw [fe_364] at x_360
  have fe_386 : fld (f_357 a_0) 20 = (v_383 : Int32).toInt := by rw [e_366]; rfl
  rw [fe_386] at x_360
  refine v_aload_n hC dX12_hand_70 rfl ?_
  refine v_vi hC (rest := []) m_1 e_366 rfl mi_X12_good ms_X12_good (p_X12_good hW_361 k_0) mx_X12_good ml_X12_139 (by decide) rfl (cells1 := 0) (slots1 := 0) (by decide) (by decide) (Nat.le_of_ble_eq_true rfl) (Nat.le_of_ble_eq_true rfl) rfl (Nat.le_of_ble_eq_true rfl) dX12_hand_71 (fun r_387 L_388 f_389 h_390 => ?_)
  obtain ⟨rfl, rfl, b_391, x_392⟩ := h_390
  have fe_395 : fld (f_357 a_0) 12 = (v_379 : Int32).toInt := by rw [e_366]; rfl
  rw [fe_395] at x_392
  try simp only [Int32.reduceToInt, Int64.reduceToInt] at x_392
  refine v_if_ne hC dX12_hand_74 (tgt := 80) (by decide) (fun h_396 => ?_) (fun h_396 => ?_)
  · simp only [Int32.lt_iff_toInt_lt, Int32.le_iff_toInt_le, Int32.reduceToInt, ← Int32.toInt_inj] at h_396
    refine v_aload_n hC dX12_hand_80 rfl ?_
    refine v_bipush hC dX12_hand_81 (v := 10) (by decide) ?_
    refine v_bipush hC dX12_hand_83 (v := 13) (by decide) ?_
    obtain ⟨m_397, t_398⟩ := id k_3
    obtain ⟨g_400, e_399, ok_401⟩ := hW_361.at m_397 t_398
    have b_402 := ok_401.r0
    have b_403 := ok_401.w0
    refine v_vv hC (rest := []) m_1 e_366 rfl mi_X12_keeps ms_X12_keeps (p_X12_keeps k_0 e_366 e_399 hf_365 (by decide)) mx_X12_keeps ml_X12_197 (by decide) rfl (cells1 := 0) (slots1 := 0) (by decide) (by decide) (Nat.le_of_ble_eq_true rfl) (Nat.le_of_ble_eq_true rfl) rfl (Nat.le_of_ble_eq_true rfl) dX12_hand_85 (fun L_405 f_406 h_407 => ?_)
    obtain ⟨rfl, hf_408, hk_409⟩ := h_407
    have hf_410 := (hk_409 (q 14) nq_21.symm).trans hf_365
    have hf_411 := (hk_409 a_0 (ne_kd e_366 e_399 rfl)).trans e_366
    obtain ⟨g_414, e_415, ok_413, eg_416⟩ : ∃ g9, f_406 (q 1) = aI E 2076 g9 ∧ WOK g9 ∧ g9 = (va_cpy g_312 g_400 (10 : Int32).toNatClampNeg (10 : Int32).toNatClampNeg ((13 : Int32).toNatClampNeg - (10 : Int32).toNatClampNeg)) := ⟨_, hf_408, (WOK.hand ok_401 rfl rfl), rfl⟩
    have hW_412 := hW_361.up e_415 hk_409 t_398 ⟨_, rfl, ok_413⟩
    have fr_417 := FR.w hk_409 e_399 (k := 2176) rfl
    have b_418 := ok_413.r0
    have b_419 := ok_413.w0
    refine v_iconst hC dX12_hand_88 (v := 0) (by decide) ?_
    exact hR _ _ _ _ _ _ _ dX12_hand_89 rfl (Nat.le_of_ble_eq_true rfl) (Nat.le_of_ble_eq_true rfl) ⟨rfl, hW_412, ((((((((((((hF_49.tr hF_82).tr hF_120).tr hF_163).tr fr_211).tr hF_220).tr fr_264).tr hF_273).tr fr_317).tr hF_325).tr hF_362).tr fr_417).mono rfl), (by decide)⟩
  · simp only [Int32.lt_iff_toInt_lt, Int32.le_iff_toInt_le, Int32.reduceToInt, ← Int32.toInt_inj] at h_396
    refine v_bipush hC dX12_hand_77 (v := (-4)) (by decide) ?_
    exact hR _ _ _ _ _ _ _ dX12_hand_79 rfl (Nat.le_of_ble_eq_true rfl) (Nat.le_of_ble_eq_true rfl) ⟨rfl, hW_361, (((((((((((hF_49.tr hF_82).tr hF_120).tr hF_163).tr fr_211).tr hF_220).tr fr_264).tr hF_273).tr fr_317).tr hF_325).tr hF_362).mono rfl), (by decide)⟩
set_option maxRecDepth 100000 in
set_option maxHeartbeats 4000000 in
theorem p_X12_isWay {l : Launch} {E : Ez} {L : List Nat} {f : Nat → va_E} {T : Nat → va_E → Prop} {a_0 : Int32} (hW : WT T L f) : CI l yX12_isWay cX12_isWay 1 .boolean 1 0 0 E [.int a_0] L f (fun r L1 f1 => L = L1 ∧ f = f1 ∧ (0 ≤ r.toInt ∧ r.toInt ≤ 1) ∧ (r.toInt = 0 ∨ (0 ≤ a_0.toInt ∧ a_0.toInt ≤ 5))) := by
  refine ci_of (by decide) (Nat.le_of_ble_eq_true rfl) (fun z hz hnm hC hR => ?_)
  have hC : Cx z E cX12_isWay RX12 1 1 0 0 := hC
  subst hz
  show V z E 1 0 0 L f 0 [(0, .int a_0)] []
  refine v_iload_n hC dX12_isWay_0 rfl ?_
  obtain ⟨v_1, h_2⟩ : ∃ v9 : Int64, a_0.toInt64 = v9 := ⟨_, rfl⟩
  refine v_i2l hC dX12_isWay_1 h_2 ?_
  have h_3 : v_1.toInt = a_0.toInt := by rw [← h_2]; exact Int32.toInt_toInt64 _
  refine v_lconst hC dX12_isWay_2 (v := 0) (by decide) ?_
  refine v_ldc2 hC kl_X12_92 dX12_isWay_3 ?_
  refine v_si hC (rest := []) mt_X12_in (p_X12_in hW) mx_X12_in ml_X12_79 (by decide) rfl (cells1 := 0) (slots1 := 0) (by decide) (by decide) (Nat.le_of_ble_eq_true rfl) (Nat.le_of_ble_eq_true rfl) rfl (Nat.le_of_ble_eq_true rfl) dX12_isWay_6 (fun r_4 L_5 f_6 h_7 => ?_)
  obtain ⟨rfl, rfl, b_8, x_9⟩ := h_7
  try simp only [Int32.reduceToInt, Int64.reduceToInt] at x_9
  exact hR _ _ _ _ _ _ _ dX12_isWay_9 (nar01 (by first | omega | (simp only [Int32.lt_iff_toInt_lt, Int32.le_iff_toInt_le, Int32.reduceToInt, ← Int32.toInt_inj, true_and, and_true, or_true, true_or, false_or, or_false, false_and, and_false, not_true_eq_false, not_false_eq_true] <;> omega))) (Nat.le_of_ble_eq_true rfl) (Nat.le_of_ble_eq_true rfl) ⟨rfl, rfl, (by first | omega | (simp only [Int32.lt_iff_toInt_lt, Int32.le_iff_toInt_le, Int32.reduceToInt, ← Int32.toInt_inj, true_and, and_true, or_true, true_or, false_or, or_false, false_and, and_false, not_true_eq_false, not_false_eq_true] <;> omega)), (by first | omega | (simp only [Int32.lt_iff_toInt_lt, Int32.le_iff_toInt_le, Int32.reduceToInt, ← Int32.toInt_inj, true_and, and_true, or_true, true_or, false_or, or_false, false_and, and_false, not_true_eq_false, not_false_eq_true] <;> omega))⟩
set_option maxRecDepth 100000 in
set_option maxHeartbeats 4000000 in
theorem p_X12_signOf {l : Launch} {E : Ez} {L : List Nat} {f : Nat → va_E} {T : Nat → va_E → Prop} {a_0 : Int32} (hW : WT T L f) : CI l yX12_signOf cX12_signOf 1 .int 0 0 0 E [.int a_0] L f (fun r L1 f1 => L = L1 ∧ f = f1 ∧ ((-1) ≤ r.toInt ∧ r.toInt ≤ 4) ∧ (¬ r.toInt = 0 ∨ (107 ≤ a_0.toInt ∧ a_0.toInt ≤ 107))) := by
  refine ci_of (by decide) (Nat.le_of_ble_eq_true rfl) (fun z hz hnm hC hR => ?_)
  have hC : Cx z E cX12_signOf RX12 1 0 0 0 := hC
  subst hz
  show V z E 1 0 0 L f 0 [(0, .int a_0)] []
  refine v_iload_n hC dX12_signOf_0 rfl ?_
  refine v_bipush hC dX12_signOf_1 (v := 107) (by decide) ?_
  refine v_icmp_ne hC dX12_signOf_3 (tgt := 10) (by decide) (fun h_1 => ?_) (fun h_1 => ?_)
  · simp only [Int32.lt_iff_toInt_lt, Int32.le_iff_toInt_le, Int32.reduceToInt, ← Int32.toInt_inj] at h_1
    refine v_iload_n hC dX12_signOf_10 rfl ?_
    refine v_bipush hC dX12_signOf_11 (v := 112) (by decide) ?_
    refine v_icmp_ne hC dX12_signOf_13 (tgt := 20) (by decide) (fun h_2 => ?_) (fun h_2 => ?_)
    · simp only [Int32.lt_iff_toInt_lt, Int32.le_iff_toInt_le, Int32.reduceToInt, ← Int32.toInt_inj] at h_2
      refine v_iload_n hC dX12_signOf_20 rfl ?_
      refine v_bipush hC dX12_signOf_21 (v := 102) (by decide) ?_
      refine v_icmp_ne hC dX12_signOf_23 (tgt := 30) (by decide) (fun h_3 => ?_) (fun h_3 => ?_)
      · simp only [Int32.lt_iff_toInt_lt, Int32.le_iff_toInt_le, Int32.reduceToInt, ← Int32.toInt_inj] at h_3
        refine v_iload_n hC dX12_signOf_30 rfl ?_
        refine v_bipush hC dX12_signOf_31 (v := 104) (by decide) ?_
        refine v_icmp_ne hC dX12_signOf_33 (tgt := 40) (by decide) (fun h_4 => ?_) (fun h_4 => ?_)
        · simp only [Int32.lt_iff_toInt_lt, Int32.le_iff_toInt_le, Int32.reduceToInt, ← Int32.toInt_inj] at h_4
          refine v_iload_n hC dX12_signOf_40 rfl ?_
          refine v_bipush hC dX12_signOf_41 (v := 109) (by decide) ?_
          refine v_icmp_ne hC dX12_signOf_43 (tgt := 50) (by decide) (fun h_5 => ?_) (fun h_5 => ?_)
          · simp only [Int32.lt_iff_toInt_lt, Int32.le_iff_toInt_le, Int32.reduceToInt, ← Int32.toInt_inj] at h_5
            refine v_iconst hC dX12_signOf_50 (v := (-1)) (by decide) ?_
            exact hR _ _ _ _ _ _ _ dX12_signOf_51 rfl (Nat.le_of_ble_eq_true rfl) (Nat.le_of_ble_eq_true rfl) ⟨rfl, rfl, (by decide), (.inl (by decide))⟩
          · simp only [Int32.lt_iff_toInt_lt, Int32.le_iff_toInt_le, Int32.reduceToInt, ← Int32.toInt_inj] at h_5
            refine v_iconst hC dX12_signOf_46 (v := 4) (by decide) ?_
            refine v_goto hC dX12_signOf_47 (tgt := 51) (by decide) ?_
            exact hR _ _ _ _ _ _ _ dX12_signOf_51 rfl (Nat.le_of_ble_eq_true rfl) (Nat.le_of_ble_eq_true rfl) ⟨rfl, rfl, (by decide), (.inl (by decide))⟩
        · simp only [Int32.lt_iff_toInt_lt, Int32.le_iff_toInt_le, Int32.reduceToInt, ← Int32.toInt_inj] at h_4
          refine v_iconst hC dX12_signOf_36 (v := 3) (by decide) ?_
          refine v_goto hC dX12_signOf_37 (tgt := 51) (by decide) ?_
          exact hR _ _ _ _ _ _ _ dX12_signOf_51 rfl (Nat.le_of_ble_eq_true rfl) (Nat.le_of_ble_eq_true rfl) ⟨rfl, rfl, (by decide), (.inl (by decide))⟩
      · simp only [Int32.lt_iff_toInt_lt, Int32.le_iff_toInt_le, Int32.reduceToInt, ← Int32.toInt_inj] at h_3
        refine v_iconst hC dX12_signOf_26 (v := 2) (by decide) ?_
        refine v_goto hC dX12_signOf_27 (tgt := 51) (by decide) ?_
        exact hR _ _ _ _ _ _ _ dX12_signOf_51 rfl (Nat.le_of_ble_eq_true rfl) (Nat.le_of_ble_eq_true rfl) ⟨rfl, rfl, (by decide), (.inl (by decide))⟩
    · simp only [Int32.lt_iff_toInt_lt, Int32.le_iff_toInt_le, Int32.reduceToInt, ← Int32.toInt_inj] at h_2
      refine v_iconst hC dX12_signOf_16 (v := 1) (by decide) ?_
      refine v_goto hC dX12_signOf_17 (tgt := 51) (by decide) ?_
      exact hR _ _ _ _ _ _ _ dX12_signOf_51 rfl (Nat.le_of_ble_eq_true rfl) (Nat.le_of_ble_eq_true rfl) ⟨rfl, rfl, (by decide), (.inl (by decide))⟩
  · simp only [Int32.lt_iff_toInt_lt, Int32.le_iff_toInt_le, Int32.reduceToInt, ← Int32.toInt_inj] at h_1
    refine v_iconst hC dX12_signOf_6 (v := 0) (by decide) ?_
    refine v_goto hC dX12_signOf_7 (tgt := 51) (by decide) ?_
    exact hR _ _ _ _ _ _ _ dX12_signOf_51 rfl (Nat.le_of_ble_eq_true rfl) (Nat.le_of_ble_eq_true rfl) ⟨rfl, rfl, (by decide), (.inr (by first | omega | (simp only [Int32.lt_iff_toInt_lt, Int32.le_iff_toInt_le, Int32.reduceToInt, ← Int32.toInt_inj, true_and, and_true, or_true, true_or, false_or, or_false, false_and, and_false, not_true_eq_false, not_false_eq_true] <;> omega)))⟩
set_option maxRecDepth 100000 in
set_option maxHeartbeats 4000000 in
theorem p_X12_sortsHere {l : Launch} {E : Ez} {L : List Nat} {f : Nat → va_E} {T : Nat → va_E → Prop} {a_0 : Nat} {q : Nat → Nat} {g_w : Nat → Int32} (hW : WT T L f) (k_0 : isM T L E a_0 q) (e_w : f (q 1) = aI E 2076 g_w) (o_w : WOK g_w) : CI l yX12_sortsHere cX12_sortsHere 4 .int 1 0 0 E [.ref a_0] L f (fun r L1 f1 => L = L1 ∧ f = f1) := by
  refine ci_of (by decide) (Nat.le_of_ble_eq_true rfl) (fun z hz hnm hC hR => ?_)
  have hC : Cx z E cX12_sortsHere RX12 4 1 0 0 := hC
  subst hz
  show V z E 4 0 0 L f 0 [(0, .ref a_0)] []
  obtain ⟨m_1, t_2, nq_21, k_3, k_4, k_5, k_6, k_7, k_8, k_9, k_10, k_11, k_12, k_13, k_14, k_15, k_16, k_17, k_18, k_19, k_20⟩ := id k_0
  obtain ⟨m_22, t_23⟩ := id k_3
  have b_24 := o_w.r0
  have b_25 := o_w.w0
  refine v_iconst hC dX12_sortsHere_0 (v := 0) (by decide) ?_
  refine v_istore_n hC dX12_sortsHere_1 (by decide) (lv' := [(1, .int 0), (0, .ref a_0)]) rfl ?_
  refine v_aload_n hC dX12_sortsHere_2 rfl ?_
  obtain ⟨v_27, v_28, v_30, v_32, v_34, v_36, v_38, v_39, v_40, v_41, v_43, e_26, b_29, b_31, b_33, b_35, b_37, b_42, b_44⟩ := hW.at m_1 t_2
  refine v_get hC fl_X12_120 m_1 e_26 rfl dX12_sortsHere_3 ?_
  refine v_iconst hC dX12_sortsHere_6 (v := 1) (by decide) ?_
  refine v_icmp_eq hC dX12_sortsHere_7 (tgt := 12) (by decide) (fun h_45 => ?_) (fun h_45 => ?_)
  · simp only [Int32.lt_iff_toInt_lt, Int32.le_iff_toInt_le, Int32.reduceToInt, ← Int32.toInt_inj] at h_45
    refine v_aload_n hC dX12_sortsHere_12 rfl ?_
    refine v_get hC fl_X12_117 m_1 e_26 rfl dX12_sortsHere_13 ?_
    refine v_istore_n hC dX12_sortsHere_16 (by decide) (lv' := [(2, .int v_34), (1, .int 0), (0, .ref a_0)]) rfl ?_
    have lp_272 : ∀ (n_273 : Nat) (i_269 : Int32) (b_271 : (0 ≤ i_269.toInt ∧ i_269.toInt ≤ 600)) (i_270 : Int32) (hm_275 : 600 - i_269.toInt < (n_273 : Int)), V z E 4 0 0 L f 17 [(2, .int i_269), (1, .int i_270), (0, .ref a_0)] [] := by
      intro n_273
      induction n_273 with
      | zero =>
        intro i_269 b_271 i_270 hm_275
        exfalso; omega
      | succ n_273 ih_274 =>
        intro i_269 b_271 i_270 hm_275
        refine v_iload_n hC dX12_sortsHere_17 rfl ?_
        refine v_aload_n hC dX12_sortsHere_18 rfl ?_
        refine v_get hC fl_X12_108 m_1 e_26 rfl dX12_sortsHere_19 ?_
        refine v_icmp_ge hC dX12_sortsHere_22 (tgt := 63) (by decide) (fun h_276 => ?_) (fun h_276 => ?_)
        · simp only [Int32.lt_iff_toInt_lt, Int32.le_iff_toInt_le, Int32.reduceToInt, ← Int32.toInt_inj] at h_276
          refine v_iload_n hC dX12_sortsHere_63 rfl ?_
          exact hR _ _ _ _ _ _ _ dX12_sortsHere_64 rfl (Nat.le_of_ble_eq_true rfl) (Nat.le_of_ble_eq_true rfl) ⟨rfl, rfl⟩
        · simp only [Int32.lt_iff_toInt_lt, Int32.le_iff_toInt_le, Int32.reduceToInt, ← Int32.toInt_inj] at h_276
          refine v_aload_n hC dX12_sortsHere_25 rfl ?_
          refine v_get hC fl_X12_24 m_1 e_26 rfl dX12_sortsHere_26 ?_
          refine v_iload_n hC dX12_sortsHere_29 rfl ?_
          obtain ⟨m_277, t_278⟩ := id k_6
          obtain ⟨g_280, e_279, fit_281⟩ := hW.at m_277 t_278
          obtain ⟨v_282, h_283⟩ : ∃ v9 : Int32, g_280 (i_269 : Int32).toNatClampNeg = v9 := ⟨_, rfl⟩
          refine v_bald hC m_277 e_279 (vp_in_iff.mpr (by first | omega | (simp only [Int32.lt_iff_toInt_lt, Int32.le_iff_toInt_le, Int32.reduceToInt, ← Int32.toInt_inj, true_and, and_true, or_true, true_or, false_or, or_false, false_and, and_false, not_true_eq_false, not_false_eq_true] <;> omega))) h_283 dX12_sortsHere_30 ?_
          refine v_si hC (rest := []) mt_X12_signOf (p_X12_signOf hW) mx_X12_signOf ml_X12_175 (by decide) rfl (cells1 := 0) (slots1 := 0) (by decide) (by decide) (Nat.le_of_ble_eq_true rfl) (Nat.le_of_ble_eq_true rfl) rfl (Nat.le_of_ble_eq_true rfl) dX12_sortsHere_31 (fun r_284 L_285 f_286 h_287 => ?_)
          obtain ⟨rfl, rfl, b_288, h_289⟩ := h_287
          refine v_istore_n hC dX12_sortsHere_34 (by decide) (lv' := [(3, .int r_284), (2, .int i_269), (1, .int i_270), (0, .ref a_0)]) rfl ?_
          refine v_iload_n hC dX12_sortsHere_35 rfl ?_
          refine v_iconst hC dX12_sortsHere_36 (v := 2) (by decide) ?_
          refine v_icmp_lt hC dX12_sortsHere_37 (tgt := 49) (by decide) (fun h_292 => ?_) (fun h_292 => ?_)
          · simp only [Int32.lt_iff_toInt_lt, Int32.le_iff_toInt_le, Int32.reduceToInt, ← Int32.toInt_inj] at h_292
            refine v_iconst hC dX12_sortsHere_49 (v := (-1)) (by decide) ?_
            exact hR _ _ _ _ _ _ _ dX12_sortsHere_50 rfl (Nat.le_of_ble_eq_true rfl) (Nat.le_of_ble_eq_true rfl) ⟨rfl, rfl⟩
          · simp only [Int32.lt_iff_toInt_lt, Int32.le_iff_toInt_le, Int32.reduceToInt, ← Int32.toInt_inj] at h_292
            refine v_iload_n hC dX12_sortsHere_40 rfl ?_
            refine v_iload_n hC dX12_sortsHere_41 rfl ?_
            obtain ⟨v_293, h_294⟩ : ∃ v9 : Int32, i_270 >>> (r_284 &&& 31) = v9 := ⟨_, rfl⟩
            refine v_ishr hC dX12_sortsHere_42 h_294 ?_
            refine v_iconst hC dX12_sortsHere_43 (v := 1) (by decide) ?_
            obtain ⟨v_296, h_297⟩ : ∃ v9 : Int32, v_293 &&& 1 = v9 := ⟨_, rfl⟩
            refine v_iand hC dX12_sortsHere_44 h_297 ?_
            have h_298 := and_v h_297 (by decide)
            try simp only [Int32.reduceToInt] at h_298
            refine v_iconst hC dX12_sortsHere_45 (v := 1) (by decide) ?_
            refine v_icmp_ne hC dX12_sortsHere_46 (tgt := 51) (by decide) (fun h_299 => ?_) (fun h_299 => ?_)
            · simp only [Int32.lt_iff_toInt_lt, Int32.le_iff_toInt_le, Int32.reduceToInt, ← Int32.toInt_inj] at h_299
              refine v_iload_n hC dX12_sortsHere_51 rfl ?_
              refine v_iconst hC dX12_sortsHere_52 (v := 1) (by decide) ?_
              refine v_iload_n hC dX12_sortsHere_53 rfl ?_
              obtain ⟨v_300, h_301⟩ : ∃ v9 : Int32, (1 : Int32) <<< (r_284 &&& 31) = v9 := ⟨_, rfl⟩
              refine v_ishl hC dX12_sortsHere_54 h_301 ?_
              obtain ⟨v_303, h_304⟩ : ∃ v9 : Int32, i_270 ||| v_300 = v9 := ⟨_, rfl⟩
              refine v_ior hC dX12_sortsHere_55 h_304 ?_
              refine v_istore_n hC dX12_sortsHere_56 (by decide) (lv' := [(1, .int v_303), (3, .int r_284), (2, .int i_269), (0, .ref a_0)]) rfl ?_
              obtain ⟨v_306, h_307⟩ : ∃ v9 : Int32, i_269 + Int32.ofInt 1 = v9 := ⟨_, rfl⟩
              have h_308 := add_v (b := 1) h_307 (by first | omega | (simp only [Int32.lt_iff_toInt_lt, Int32.le_iff_toInt_le, Int32.reduceToInt, ← Int32.toInt_inj, true_and, and_true, or_true, true_or, false_or, or_false, false_and, and_false, not_true_eq_false, not_false_eq_true] <;> omega)) (by first | omega | (simp only [Int32.lt_iff_toInt_lt, Int32.le_iff_toInt_le, Int32.reduceToInt, ← Int32.toInt_inj, true_and, and_true, or_true, true_or, false_or, or_false, false_and, and_false, not_true_eq_false, not_false_eq_true] <;> omega))
              simp only [Int32.reduceToInt] at h_308
              refine v_iinc hC dX12_sortsHere_57 (k := 2) rfl (v := v_306) h_307 (by decide) (lv' := [(2, .int v_306), (1, .int v_303), (3, .int r_284), (0, .ref a_0)]) rfl ?_
              refine v_goto hC dX12_sortsHere_60 (tgt := 17) (by decide) ?_
              refine v_pick [0, 1, 3] rfl ?_
              exact ih_274 v_306 (by first | omega | (simp only [Int32.lt_iff_toInt_lt, Int32.le_iff_toInt_le, Int32.reduceToInt, ← Int32.toInt_inj, true_and, and_true, or_true, true_or, false_or, or_false, false_and, and_false, not_true_eq_false, not_false_eq_true] <;> omega)) v_303 (by first | omega | (simp only [Int32.lt_iff_toInt_lt, Int32.le_iff_toInt_le, Int32.reduceToInt, ← Int32.toInt_inj, true_and, and_true, or_true, true_or, false_or, or_false, false_and, and_false, not_true_eq_false, not_false_eq_true] <;> omega))
            · simp only [Int32.lt_iff_toInt_lt, Int32.le_iff_toInt_le, Int32.reduceToInt, ← Int32.toInt_inj] at h_299
              refine v_iconst hC dX12_sortsHere_49 (v := (-1)) (by decide) ?_
              exact hR _ _ _ _ _ _ _ dX12_sortsHere_50 rfl (Nat.le_of_ble_eq_true rfl) (Nat.le_of_ble_eq_true rfl) ⟨rfl, rfl⟩
    refine v_pick [0, 1, 2] rfl ?_
    exact lp_272 602 v_34 (by first | omega | (simp only [Int32.lt_iff_toInt_lt, Int32.le_iff_toInt_le, Int32.reduceToInt, ← Int32.toInt_inj, true_and, and_true, or_true, true_or, false_or, or_false, false_and, and_false, not_true_eq_false, not_false_eq_true] <;> omega)) 0 (by first | omega | (simp only [Int32.lt_iff_toInt_lt, Int32.le_iff_toInt_le, Int32.reduceToInt, ← Int32.toInt_inj, true_and, and_true, or_true, true_or, false_or, or_false, false_and, and_false, not_true_eq_false, not_false_eq_true] <;> omega))
  · simp only [Int32.lt_iff_toInt_lt, Int32.le_iff_toInt_le, Int32.reduceToInt, ← Int32.toInt_inj] at h_45
    refine v_iconst hC dX12_sortsHere_10 (v := (-1)) (by decide) ?_
    exact hR _ _ _ _ _ _ _ dX12_sortsHere_11 rfl (Nat.le_of_ble_eq_true rfl) (Nat.le_of_ble_eq_true rfl) ⟨rfl, rfl⟩
set_option maxRecDepth 100000 in
set_option maxHeartbeats 4000000 in
theorem p_X12_rows {l : Launch} {E : Ez} {L : List Nat} {f : Nat → va_E} {T : Nat → va_E → Prop} {a_0 : Nat} {q : Nat → Nat} {g_w : Nat → Int32} (hW : WT T L f) (k_0 : isM T L E a_0 q) (e_w : f (q 1) = aI E 2076 g_w) (o_w : WOK g_w) : CI l yX12_rows cX12_rows 1 .int 0 0 0 E [.ref a_0] L f (fun r L1 f1 => L = L1 ∧ f = f1 ∧ r = (g_w 0)) := by
  refine ci_of (by decide) (Nat.le_of_ble_eq_true rfl) (fun z hz hnm hC hR => ?_)
  have hC : Cx z E cX12_rows RX12 1 0 0 0 := hC
  subst hz
  show V z E 1 0 0 L f 0 [(0, .ref a_0)] []
  obtain ⟨m_1, t_2, nq_21, k_3, k_4, k_5, k_6, k_7, k_8, k_9, k_10, k_11, k_12, k_13, k_14, k_15, k_16, k_17, k_18, k_19, k_20⟩ := id k_0
  obtain ⟨m_22, t_23⟩ := id k_3
  have b_24 := o_w.r0
  have b_25 := o_w.w0
  refine v_aload_n hC dX12_rows_0 rfl ?_
  obtain ⟨v_27, v_28, v_30, v_32, v_34, v_36, v_38, v_39, v_40, v_41, v_43, e_26, b_29, b_31, b_33, b_35, b_37, b_42, b_44⟩ := hW.at m_1 t_2
  refine v_get hC fl_X12_13 m_1 e_26 rfl dX12_rows_1 ?_
  refine v_iconst hC dX12_rows_4 (v := 0) (by decide) ?_
  refine v_iald hC m_22 e_w (vp_in_iff.mpr (by decide)) (v := g_w 0) rfl dX12_rows_5 ?_
  exact hR _ _ _ _ _ _ _ dX12_rows_6 rfl (Nat.le_of_ble_eq_true rfl) (Nat.le_of_ble_eq_true rfl) ⟨rfl, rfl, rfl⟩
