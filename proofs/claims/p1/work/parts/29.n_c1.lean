set_option maxRecDepth 100000 in
set_option maxHeartbeats 4000000 in
theorem a256_X12_number {l : Launch} {E : Ez} {L : List Nat} {f : Nat → va_E} {aa_0 aa_1 aa_2 aa_3 aa_4 aa_5 aa_6 aa_7 aa_8 aa_9 aa_10 aa_11 aa_12 aa_13 aa_14 aa_15 aa_16 aa_17 aa_18 : Nat} (m_aa_0 : aa_0 ∈ L) (e_aa_0 : f aa_0 = ob 12 [.int 0, .ref aa_1, .ref aa_2, .ref aa_3, .ref aa_4, .int 0, .ref aa_5, .int 0, .int 0, .int 0, .int 0, .int 0, .int 1, .int 0, .ref aa_6, .ref aa_7, .ref aa_8, .int 0, .ref aa_9, .ref aa_10, .int (-1), .ref aa_11, .ref aa_12, .ref aa_13, .ref aa_14, .ref aa_15, .ref aa_16, .ref aa_17, .ref aa_18]) (m_aa_6 : aa_6 ∈ L) (e_aa_6 : f aa_6 = aI E 2076 (fun _ => 0)) : CI l yX12_number cX12_number 4 .int 1 0 0 E [.ref aa_0, .int 0, .int 100] L f (fun r L1 f1 => 0 = r ∧ L = L1 ∧ f = f1) := by
  refine ci_of (by decide) (Nat.le_of_ble_eq_true rfl) (fun z hz hnm hC hR => ?_)
  have hC : Cx z E cX12_number RX12 4 1 0 0 := hC
  subst hz
  show V z E 4 0 0 L f 0 [(0, .ref aa_0), (1, .int 0), (2, .int 100)] []
  refine v_aload_n hC dX12_number_0 rfl ?_
  refine v_vi hC (rest := []) m_aa_0 e_aa_0 rfl mi_X12_good ms_X12_good (a235_X12_good m_aa_0 e_aa_0) mx_X12_good ml_X12_139 (by decide) rfl (cells1 := 0) (slots1 := 0) (by decide) (by decide) (Nat.le_of_ble_eq_true rfl) (Nat.le_of_ble_eq_true rfl) rfl (Nat.le_of_ble_eq_true rfl) dX12_number_1 (fun r_1 L_2 f_3 h_4 => ?_)
  obtain ⟨rfl, rfl, rfl⟩ := h_4
  refine v_if_eq_t hC dX12_number_4 (tgt := 20) (by decide) (by decide) ?_
  refine v_aload_n hC dX12_number_20 rfl ?_
  refine v_vi hC (rest := []) m_aa_0 e_aa_0 rfl mi_X12_good ms_X12_good (a235_X12_good m_aa_0 e_aa_0) mx_X12_good ml_X12_139 (by decide) rfl (cells1 := 0) (slots1 := 0) (by decide) (by decide) (Nat.le_of_ble_eq_true rfl) (Nat.le_of_ble_eq_true rfl) rfl (Nat.le_of_ble_eq_true rfl) dX12_number_21 (fun r_5 L_6 f_7 h_8 => ?_)
  obtain ⟨rfl, rfl, rfl⟩ := h_8
  refine v_if_eq_t hC dX12_number_24 (tgt := 47) (by decide) (by decide) ?_
  refine v_aload_n hC dX12_number_47 rfl ?_
  refine v_vi hC (rest := []) m_aa_0 e_aa_0 rfl mi_X12_good ms_X12_good (a235_X12_good m_aa_0 e_aa_0) mx_X12_good ml_X12_139 (by decide) rfl (cells1 := 0) (slots1 := 0) (by decide) (by decide) (Nat.le_of_ble_eq_true rfl) (Nat.le_of_ble_eq_true rfl) rfl (Nat.le_of_ble_eq_true rfl) dX12_number_48 (fun r_9 L_10 f_11 h_12 => ?_)
  obtain ⟨rfl, rfl, rfl⟩ := h_12
  refine v_if_ne_f hC dX12_number_51 (tgt := 56) (by decide) (by decide) ?_
  refine v_iconst hC dX12_number_54 (v := 0) (by decide) ?_
  exact hR _ _ _ _ _ _ _ dX12_number_55 rfl (Nat.le_of_ble_eq_true rfl) (Nat.le_of_ble_eq_true rfl) ⟨rfl, rfl, rfl⟩
set_option maxRecDepth 100000 in
set_option maxHeartbeats 4000000 in
theorem a256_X12_told {l : Launch} {E : Ez} {L : List Nat} {f : Nat → va_E} {ii_0 : Nat} {aa_0 aa_1 aa_2 aa_3 aa_4 aa_5 aa_6 aa_7 aa_8 aa_9 aa_10 aa_11 aa_12 aa_13 aa_14 aa_15 aa_16 aa_17 aa_18 : Nat} (hii_0 : ii_0 < 77) (m_aa_0 : aa_0 ∈ L) (e_aa_0 : f aa_0 = ob 12 [.int 0, .ref aa_1, .ref aa_2, .ref aa_3, .ref aa_4, .int 0, .ref aa_5, .int 0, .int 0, .int 0, .int 0, .int 0, .int 1, .int 0, .ref aa_6, .ref aa_7, .ref aa_8, .int 0, .ref aa_9, .ref aa_10, .int (-1), .ref aa_11, .ref aa_12, .ref aa_13, .ref aa_14, .ref aa_15, .ref aa_16, .ref aa_17, .ref aa_18]) (m_aa_6 : aa_6 ∈ L) (e_aa_6 : f aa_6 = aI E 2076 (fun _ => 0)) : CI l yX12_told cX12_told 4 .int 5 0 0 E [.ref aa_0, .ref (eK E ii_0), .int 0, .int 100] L f (fun r L1 f1 => 0 = r ∧ L = L1 ∧ f = f1) := by
  refine ci_of (by decide) (Nat.le_of_ble_eq_true rfl) (fun z hz hnm hC hR => ?_)
  have hC : Cx z E cX12_told RX12 4 5 0 0 := hC
  subst hz
  show V z E 4 0 0 L f 0 [(0, .ref aa_0), (1, .ref (eK E ii_0)), (2, .int 0), (3, .int 100)] []
  refine v_aload_n hC dX12_told_0 rfl ?_
  refine v_aload_n hC dX12_told_1 rfl ?_
  refine v_vv hC (rest := []) m_aa_0 e_aa_0 rfl mi_X12_needs ms_X12_needs (a241_X12_needs hii_0 m_aa_0 e_aa_0 m_aa_6 e_aa_6) mx_X12_needs ml_X12_166 (by decide) rfl (cells1 := 0) (slots1 := 0) (by decide) (by decide) (Nat.le_of_ble_eq_true rfl) (Nat.le_of_ble_eq_true rfl) rfl (Nat.le_of_ble_eq_true rfl) dX12_told_2 (fun L_2 f_3 h_4 => ?_)
  obtain ⟨rfl, rfl⟩ := h_4
  refine v_aload_n hC dX12_told_5 rfl ?_
  refine v_iload_n hC dX12_told_6 rfl ?_
  refine v_iload_n hC dX12_told_7 rfl ?_
  refine v_vi hC (rest := []) m_aa_0 e_aa_0 rfl mi_X12_number ms_X12_number (a256_X12_number m_aa_0 e_aa_0 m_aa_6 e_aa_6) mx_X12_number ml_X12_170 (by decide) rfl (cells1 := 0) (slots1 := 0) (by decide) (by decide) (Nat.le_of_ble_eq_true rfl) (Nat.le_of_ble_eq_true rfl) rfl (Nat.le_of_ble_eq_true rfl) dX12_told_8 (fun r_5 L_6 f_7 h_8 => ?_)
  obtain ⟨rfl, rfl, rfl⟩ := h_8
  exact hR _ _ _ _ _ _ _ dX12_told_11 rfl (Nat.le_of_ble_eq_true rfl) (Nat.le_of_ble_eq_true rfl) ⟨rfl, rfl, rfl⟩
set_option maxRecDepth 100000 in
set_option maxHeartbeats 4000000 in
theorem a260_X12_endsAll {l : Launch} {E : Ez} {L : List Nat} {f : Nat → va_E} {aa_0 aa_1 aa_2 aa_3 aa_4 aa_5 aa_6 aa_7 aa_8 aa_9 aa_10 aa_11 aa_12 aa_13 aa_14 aa_15 aa_16 aa_17 aa_18 : Nat} (m_aa_0 : aa_0 ∈ L) (e_aa_0 : f aa_0 = ob 12 [.int 0, .ref aa_1, .ref aa_2, .ref aa_3, .ref aa_4, .int 0, .ref aa_5, .int 0, .int 0, .int 0, .int 0, .int 0, .int 1, .int 0, .ref aa_6, .ref aa_7, .ref aa_8, .int 0, .ref aa_9, .ref aa_10, .int (-1), .ref aa_11, .ref aa_12, .ref aa_13, .ref aa_14, .ref aa_15, .ref aa_16, .ref aa_17, .ref aa_18]) (m_aa_6 : aa_6 ∈ L) (e_aa_6 : f aa_6 = aI E 2076 (fun _ => 0)) : CV l yX12_endsAll cX12_endsAll 1 1 0 0 E [.ref aa_0] L f (fun L1 f1 => L = L1 ∧ f = f1) := by
  refine cv_of (by decide) (Nat.le_of_ble_eq_true rfl) (fun z hz hnm hC hR => ?_)
  have hC : Cx z E cX12_endsAll RX12 1 1 0 0 := hC
  subst hz
  show V z E 1 0 0 L f 0 [(0, .ref aa_0)] []
  refine v_aload_n hC dX12_endsAll_0 rfl ?_
  refine v_vi hC (rest := []) m_aa_0 e_aa_0 rfl mi_X12_good ms_X12_good (a235_X12_good m_aa_0 e_aa_0) mx_X12_good ml_X12_139 (by decide) rfl (cells1 := 0) (slots1 := 0) (by decide) (by decide) (Nat.le_of_ble_eq_true rfl) (Nat.le_of_ble_eq_true rfl) rfl (Nat.le_of_ble_eq_true rfl) dX12_endsAll_1 (fun r_1 L_2 f_3 h_4 => ?_)
  obtain ⟨rfl, rfl, rfl⟩ := h_4
  refine v_if_eq_t hC dX12_endsAll_4 (tgt := 19) (by decide) (by decide) ?_
  exact hR _ _ _ _ _ _ dX12_endsAll_19 (Nat.le_of_ble_eq_true rfl) (Nat.le_of_ble_eq_true rfl) ⟨rfl, rfl⟩
set_option maxRecDepth 100000 in
set_option maxHeartbeats 4000000 in
theorem y_hand {l : Launch} {E : Ez} {L : List Nat} {f : Nat → va_E} {m wo img hi tp fv fr cl0 pl wd rd tr0 co bi wl mn wi nu mv : Nat} (m_m : m ∈ L) (e_m : f m = ob 12 [.int 0, .ref wo, .ref img, .ref hi, .ref tp, .int 0, .ref fv, .int 0, .int 0, .int 0, .int 0, .int 0, .int 0, .int (-1), .ref fr, .ref cl0, .ref pl, .int 0, .ref wd, .ref rd, .int (-1), .ref tr0, .ref co, .ref bi, .ref wl, .ref mn, .ref wi, .ref nu, .ref mv]) (m_fr : fr ∈ L) (e_fr : f fr = aI E 2076 (fun _ => 0)) : CI l yX12_hand cX12_hand 1 .int 6 0 0 E [.ref m] L f (fun r L1 f1 => (-4 : Int32) = r) := by
  refine ci_of (by decide) (Nat.le_of_ble_eq_true rfl) (fun z hz hnm hC hR => ?_)
  have hC : Cx z E cX12_hand RX12 1 6 0 0 := hC
  subst hz
  show V z E 1 0 0 L f 0 [(0, .ref m)] []
  refine v_aload_n hC dX12_hand_0 rfl ?_
  refine v_vv hC (rest := []) m_m e_m rfl mi_X12_begin ms_X12_begin (a219_X12_begin m_m e_m) mx_X12_begin ml_X12_181 (by decide) rfl (cells1 := 0) (slots1 := 0) (by decide) (by decide) (Nat.le_of_ble_eq_true rfl) (Nat.le_of_ble_eq_true rfl) rfl (Nat.le_of_ble_eq_true rfl) dX12_hand_1 (fun L_2 f_3 h_4 => ?_)
  obtain ⟨rfl, rfl⟩ := h_4
  refine v_aload_n hC dX12_hand_4 rfl ?_
  refine v_vv hC (rest := []) m_m e_m rfl mi_X12_advance ms_X12_advance (a221_X12_advance m_m e_m m_fr e_fr) mx_X12_advance ml_X12_156 (by decide) rfl (cells1 := 0) (slots1 := 0) (by decide) (by decide) (Nat.le_of_ble_eq_true rfl) (Nat.le_of_ble_eq_true rfl) rfl (Nat.le_of_ble_eq_true rfl) dX12_hand_5 (fun L_6 f_7 h_8 => ?_)
  obtain ⟨rfl, rfl⟩ := h_8
  refine v_aload_n hC dX12_hand_8 rfl ?_
  refine v_ldcS hC sr_X12_210 dX12_hand_9 ?_
  refine v_vv hC (rest := []) m_m e_m rfl mi_X12_needs ms_X12_needs (a225_X12_needs (by decide) m_m e_m m_fr e_fr) mx_X12_needs ml_X12_166 (by decide) rfl (cells1 := 0) (slots1 := 0) (by decide) (by decide) (Nat.le_of_ble_eq_true rfl) (Nat.le_of_ble_eq_true rfl) rfl (Nat.le_of_ble_eq_true rfl) dX12_hand_11 (fun L_10 f_11 h_12 => ?_)
  obtain ⟨rfl, hf_13, hk_14⟩ := h_12
  have hf_15 := (hk_14 fr (ne_kd e_fr e_m rfl)).trans e_fr
  refine v_aload_n hC dX12_hand_14 rfl ?_
  refine v_get hC fl_X12_34 m_m hf_13 rfl dX12_hand_15 ?_
  refine v_bipush hC dX12_hand_18 (v := 10) (by decide) ?_
  refine v_aload_n hC dX12_hand_20 rfl ?_
  refine v_ldcS hC sr_X12_212 dX12_hand_21 ?_
  refine v_iconst hC dX12_hand_23 (v := 0) (by decide) ?_
  refine v_bipush hC dX12_hand_24 (v := 100) (by decide) ?_
  refine v_vi hC (rest := [.int 10, .ref fr]) m_m hf_13 rfl mi_X12_told ms_X12_told (a256_X12_told (by decide) m_m hf_13 m_fr hf_15) mx_X12_told ml_X12_189 (by decide) rfl (cells1 := 0) (slots1 := 0) (by decide) (by decide) (Nat.le_of_ble_eq_true rfl) (Nat.le_of_ble_eq_true rfl) rfl (Nat.le_of_ble_eq_true rfl) dX12_hand_26 (fun r_16 L_17 f_18 h_19 => ?_)
  obtain ⟨rfl, rfl, rfl⟩ := h_19
  refine v_iast hC m_fr hf_15 (by unfold vp_in; decide) dX12_hand_29 (fun f_20 hf_21 hk_22 => ?_)
  rw [upd_zero] at hf_21
  obtain rfl : f_11 = f_20 := (funext (noop hf_15 hf_21 hk_22)).symm
  refine v_aload_n hC dX12_hand_30 rfl ?_
  refine v_get hC fl_X12_34 m_m hf_13 rfl dX12_hand_31 ?_
  refine v_bipush hC dX12_hand_34 (v := 11) (by decide) ?_
  refine v_aload_n hC dX12_hand_36 rfl ?_
  refine v_ldcS hC sr_X12_214 dX12_hand_37 ?_
  refine v_iconst hC dX12_hand_39 (v := 0) (by decide) ?_
  refine v_bipush hC dX12_hand_40 (v := 100) (by decide) ?_
  refine v_vi hC (rest := [.int 11, .ref fr]) m_m hf_13 rfl mi_X12_told ms_X12_told (a256_X12_told (by decide) m_m hf_13 m_fr hf_15) mx_X12_told ml_X12_189 (by decide) rfl (cells1 := 0) (slots1 := 0) (by decide) (by decide) (Nat.le_of_ble_eq_true rfl) (Nat.le_of_ble_eq_true rfl) rfl (Nat.le_of_ble_eq_true rfl) dX12_hand_42 (fun r_23 L_24 f_25 h_26 => ?_)
  obtain ⟨rfl, rfl, rfl⟩ := h_26
  refine v_iast hC m_fr hf_15 (by unfold vp_in; decide) dX12_hand_45 (fun f_27 hf_28 hk_29 => ?_)
  rw [upd_zero] at hf_28
  obtain rfl : f_11 = f_27 := (funext (noop hf_15 hf_28 hk_29)).symm
  refine v_aload_n hC dX12_hand_46 rfl ?_
  refine v_get hC fl_X12_34 m_m hf_13 rfl dX12_hand_47 ?_
  refine v_bipush hC dX12_hand_50 (v := 12) (by decide) ?_
  refine v_aload_n hC dX12_hand_52 rfl ?_
  refine v_ldcS hC sr_X12_216 dX12_hand_53 ?_
  refine v_iconst hC dX12_hand_55 (v := 0) (by decide) ?_
  refine v_bipush hC dX12_hand_56 (v := 100) (by decide) ?_
  refine v_vi hC (rest := [.int 12, .ref fr]) m_m hf_13 rfl mi_X12_told ms_X12_told (a256_X12_told (by decide) m_m hf_13 m_fr hf_15) mx_X12_told ml_X12_189 (by decide) rfl (cells1 := 0) (slots1 := 0) (by decide) (by decide) (Nat.le_of_ble_eq_true rfl) (Nat.le_of_ble_eq_true rfl) rfl (Nat.le_of_ble_eq_true rfl) dX12_hand_58 (fun r_30 L_31 f_32 h_33 => ?_)
  obtain ⟨rfl, rfl, rfl⟩ := h_33
  refine v_iast hC m_fr hf_15 (by unfold vp_in; decide) dX12_hand_61 (fun f_34 hf_35 hk_36 => ?_)
  rw [upd_zero] at hf_35
  obtain rfl : f_11 = f_34 := (funext (noop hf_15 hf_35 hk_36)).symm
  refine v_aload_n hC dX12_hand_62 rfl ?_
  refine v_vv hC (rest := []) m_m hf_13 rfl mi_X12_ends ms_X12_ends (a251_X12_ends m_m hf_13 m_fr hf_15) mx_X12_ends ml_X12_178 (by decide) rfl (cells1 := 0) (slots1 := 0) (by decide) (by decide) (Nat.le_of_ble_eq_true rfl) (Nat.le_of_ble_eq_true rfl) rfl (Nat.le_of_ble_eq_true rfl) dX12_hand_63 (fun L_38 f_39 h_40 => ?_)
  obtain ⟨rfl, rfl⟩ := h_40
  refine v_aload_n hC dX12_hand_66 rfl ?_
  refine v_vv hC (rest := []) m_m hf_13 rfl mi_X12_endsAll ms_X12_endsAll (a260_X12_endsAll m_m hf_13 m_fr hf_15) mx_X12_endsAll ml_X12_218 (by decide) rfl (cells1 := 0) (slots1 := 0) (by decide) (by decide) (Nat.le_of_ble_eq_true rfl) (Nat.le_of_ble_eq_true rfl) rfl (Nat.le_of_ble_eq_true rfl) dX12_hand_67 (fun L_42 f_43 h_44 => ?_)
  obtain ⟨rfl, rfl⟩ := h_44
  refine v_aload_n hC dX12_hand_70 rfl ?_
  refine v_vi hC (rest := []) m_m hf_13 rfl mi_X12_good ms_X12_good (a235_X12_good m_m hf_13) mx_X12_good ml_X12_139 (by decide) rfl (cells1 := 0) (slots1 := 0) (by decide) (by decide) (Nat.le_of_ble_eq_true rfl) (Nat.le_of_ble_eq_true rfl) rfl (Nat.le_of_ble_eq_true rfl) dX12_hand_71 (fun r_45 L_46 f_47 h_48 => ?_)
  obtain ⟨rfl, rfl, rfl⟩ := h_48
  refine v_if_ne_f hC dX12_hand_74 (tgt := 80) (by decide) (by decide) ?_
  refine v_bipush hC dX12_hand_77 (v := (-4)) (by decide) ?_
  exact hR _ _ _ _ _ _ _ dX12_hand_79 rfl (Nat.le_of_ble_eq_true rfl) (Nat.le_of_ble_eq_true rfl) rfl
