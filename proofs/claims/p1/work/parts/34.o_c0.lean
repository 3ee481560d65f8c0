def sp_keep (k : Int32) : Int32 := if (0 ≤ k ∧ k < 3) then 0 else -2
set_option maxRecDepth 100000 in
set_option maxHeartbeats 4000000 in
theorem a263_X12_sortsHere {l : Launch} {E : Ez} {L : List Nat} {f : Nat → va_E} {aa_0 aa_1 aa_2 aa_3 aa_4 aa_5 aa_6 aa_7 aa_8 aa_9 aa_10 aa_11 aa_12 aa_13 aa_14 aa_15 aa_16 aa_17 aa_18 : Nat} (m_aa_0 : aa_0 ∈ L) (e_aa_0 : f aa_0 = ob 12 [.int 0, .ref aa_1, .ref aa_2, .ref aa_3, .ref aa_4, .int 0, .ref aa_5, .int 0, .int 0, .int 0, .int 0, .int 0, .int 1, .int 0, .ref aa_6, .ref aa_7, .ref aa_8, .int 0, .ref aa_9, .ref aa_10, .int (-1), .ref aa_11, .ref aa_12, .ref aa_13, .ref aa_14, .ref aa_15, .ref aa_16, .ref aa_17, .ref aa_18]) : CI l yX12_sortsHere cX12_sortsHere 4 .int 0 0 0 E [.ref aa_0] L f (fun r L1 f1 => (-1) = r ∧ L = L1 ∧ f = f1) := by
  refine ci_of (by decide) (Nat.le_of_ble_eq_true rfl) (fun z hz hnm hC hR => ?_)
  have hC : Cx z E cX12_sortsHere RX12 4 0 0 0 := hC
  subst hz
  show V z E 4 0 0 L f 0 [(0, .ref aa_0)] []
  refine v_iconst hC dX12_sortsHere_0 (v := 0) (by decide) ?_
  refine v_istore_n hC dX12_sortsHere_1 (by decide) (lv' := [(1, .int 0), (0, .ref aa_0)]) rfl ?_
  refine v_aload_n hC dX12_sortsHere_2 rfl ?_
  refine v_get hC fl_X12_120 m_aa_0 e_aa_0 rfl dX12_sortsHere_3 ?_
  refine v_iconst hC dX12_sortsHere_6 (v := 1) (by decide) ?_
  refine v_icmp_eq_f hC dX12_sortsHere_7 (tgt := 12) (by decide) (by decide) ?_
  refine v_iconst hC dX12_sortsHere_10 (v := (-1)) (by decide) ?_
  exact hR _ _ _ _ _ _ _ dX12_sortsHere_11 rfl (Nat.le_of_ble_eq_true rfl) (Nat.le_of_ble_eq_true rfl) ⟨rfl, rfl, rfl⟩
set_option maxRecDepth 100000 in
set_option maxHeartbeats 4000000 in
theorem a265_X12_good {l : Launch} {E : Ez} {L : List Nat} {f : Nat → va_E} {aa_0 aa_1 aa_2 aa_3 aa_4 aa_5 aa_6 aa_7 aa_8 aa_9 aa_10 aa_11 aa_12 aa_13 aa_14 aa_15 aa_16 aa_17 aa_18 : Nat} (m_aa_0 : aa_0 ∈ L) (e_aa_0 : f aa_0 = ob 12 [.int 0, .ref aa_1, .ref aa_2, .ref aa_3, .ref aa_4, .int 0, .ref aa_5, .int 0, .int 0, .int 0, .int 0, .int 0, .int 1, .int 0, .ref aa_6, .ref aa_7, .ref aa_8, .int 0, .ref aa_9, .ref aa_10, .int (-1), .ref aa_11, .ref aa_12, .ref aa_13, .ref aa_14, .ref aa_15, .ref aa_16, .ref aa_17, .ref aa_18]) : CI l yX12_good cX12_good 1 .boolean 0 0 0 E [.ref aa_0] L f (fun r L1 f1 => 0 = r ∧ L = L1 ∧ f = f1) := by
  refine ci_of (by decide) (Nat.le_of_ble_eq_true rfl) (fun z hz hnm hC hR => ?_)
  have hC : Cx z E cX12_good RX12 1 0 0 0 := hC
  subst hz
  show V z E 1 0 0 L f 0 [(0, .ref aa_0)] []
  refine v_aload_n hC dX12_good_0 rfl ?_
  refine v_get hC fl_X12_111 m_aa_0 e_aa_0 rfl dX12_good_1 ?_
  refine v_if_ne_t hC dX12_good_4 (tgt := 11) (by decide) (by decide) ?_
  refine v_iconst hC dX12_good_11 (v := 0) (by decide) ?_
  exact hR _ _ _ _ _ _ _ dX12_good_12 rfl (Nat.le_of_ble_eq_true rfl) (Nat.le_of_ble_eq_true rfl) ⟨rfl, rfl, rfl⟩
set_option maxRecDepth 100000 in
set_option maxHeartbeats 4000000 in
theorem a265_X12_is {l : Launch} {E : Ez} {L : List Nat} {f : Nat → va_E} {ii_0 : Nat} {aa_0 aa_1 aa_2 aa_3 aa_4 aa_5 aa_6 aa_7 aa_8 aa_9 aa_10 aa_11 aa_12 aa_13 aa_14 aa_15 aa_16 aa_17 aa_18 : Nat} {gg_0 : Nat → Int32} (hii_0 : ii_0 < 77) (m_aa_0 : aa_0 ∈ L) (e_aa_0 : f aa_0 = ob 12 [.int 0, .ref aa_1, .ref aa_2, .ref aa_3, .ref aa_4, .int 0, .ref aa_5, .int 0, .int 0, .int 0, .int 0, .int 0, .int 1, .int 0, .ref aa_6, .ref aa_7, .ref aa_8, .int 0, .ref aa_9, .ref aa_10, .int (-1), .ref aa_11, .ref aa_12, .ref aa_13, .ref aa_14, .ref aa_15, .ref aa_16, .ref aa_17, .ref aa_18]) (m_aa_6 : aa_6 ∈ L) (e_aa_6 : f aa_6 = aI E 2076 gg_0) : CI l yX12_is cX12_is 4 .boolean 2 0 0 E [.ref aa_0, .ref (eK E ii_0)] L f (fun r L1 f1 => 0 = r ∧ L = L1 ∧ f = f1) := by
  refine ci_of (by decide) (Nat.le_of_ble_eq_true rfl) (fun z hz hnm hC hR => ?_)
  have hC : Cx z E cX12_is RX12 4 2 0 0 := hC
  subst hz
  show V z E 4 0 0 L f 0 [(0, .ref aa_0), (1, .ref (eK E ii_0))] []
  refine v_aload_n hC dX12_is_0 rfl ?_
  refine v_vi hC (rest := []) m_aa_0 e_aa_0 rfl mi_X12_good ms_X12_good (a265_X12_good m_aa_0 e_aa_0) mx_X12_good ml_X12_139 (by decide) rfl (cells1 := 0) (slots1 := 0) (by decide) (by decide) (Nat.le_of_ble_eq_true rfl) (Nat.le_of_ble_eq_true rfl) rfl (Nat.le_of_ble_eq_true rfl) dX12_is_1 (fun r_1 L_2 f_3 h_4 => ?_)
  obtain ⟨rfl, rfl, rfl⟩ := h_4
  refine v_if_eq_t hC dX12_is_4 (tgt := 35) (by decide) (by decide) ?_
  refine v_iconst hC dX12_is_35 (v := 0) (by decide) ?_
  refine v_istore_n hC dX12_is_36 (by decide) (lv' := [(2, .int 0), (0, .ref aa_0), (1, .ref (eK E ii_0))]) rfl ?_
  refine v_iconst hC dX12_is_37 (v := 0) (by decide) ?_
  refine v_istore_n hC dX12_is_38 (by decide) (lv' := [(3, .int 0), (2, .int 0), (0, .ref aa_0), (1, .ref (eK E ii_0))]) rfl ?_
  refine v_iload_n hC dX12_is_39 rfl ?_
  refine v_aload_n hC dX12_is_40 rfl ?_
  refine v_viS hC (rest := [.int 0]) hii_0 rfl mi_J0_length_8abf5 ms_J0_length_8abf5 (c_strlen hii_0) mx_J0_length_8abf5 ml_X12_143 (by decide) rfl (cells1 := 0) (slots1 := 0) (by decide) (by decide) (Nat.le_of_ble_eq_true rfl) (Nat.le_of_ble_eq_true rfl) rfl (Nat.le_of_ble_eq_true rfl) dX12_is_41 (fun r_5 L_6 f_7 h_8 => ?_)
  obtain ⟨rfl, rfl, rfl⟩ := h_8
  refine v_icmp_ge hC dX12_is_44 (tgt := 82) (by decide) (fun h_9 => ?_) (fun h_9 => ?_)
  · refine v_iload_n hC dX12_is_82 rfl ?_
    exact hR _ _ _ _ _ _ _ dX12_is_83 rfl (Nat.le_of_ble_eq_true rfl) (Nat.le_of_ble_eq_true rfl) ⟨rfl, rfl, rfl⟩
  · refine v_iload_n hC dX12_is_47 rfl ?_
    refine v_if_eq_t hC dX12_is_48 (tgt := 82) (by decide) (by decide) ?_
    refine v_iload_n hC dX12_is_82 rfl ?_
    exact hR _ _ _ _ _ _ _ dX12_is_83 rfl (Nat.le_of_ble_eq_true rfl) (Nat.le_of_ble_eq_true rfl) ⟨rfl, rfl, rfl⟩
set_option maxRecDepth 100000 in
set_option maxHeartbeats 4000000 in
theorem a265_X12_takes {l : Launch} {E : Ez} {L : List Nat} {f : Nat → va_E} {ii_0 : Nat} {aa_0 aa_1 aa_2 aa_3 aa_4 aa_5 aa_6 aa_7 aa_8 aa_9 aa_10 aa_11 aa_12 aa_13 aa_14 aa_15 aa_16 aa_17 aa_18 : Nat} {gg_0 : Nat → Int32} (hii_0 : ii_0 < 77) (m_aa_0 : aa_0 ∈ L) (e_aa_0 : f aa_0 = ob 12 [.int 0, .ref aa_1, .ref aa_2, .ref aa_3, .ref aa_4, .int 0, .ref aa_5, .int 0, .int 0, .int 0, .int 0, .int 0, .int 1, .int 0, .ref aa_6, .ref aa_7, .ref aa_8, .int 0, .ref aa_9, .ref aa_10, .int (-1), .ref aa_11, .ref aa_12, .ref aa_13, .ref aa_14, .ref aa_15, .ref aa_16, .ref aa_17, .ref aa_18]) (m_aa_6 : aa_6 ∈ L) (e_aa_6 : f aa_6 = aI E 2076 gg_0) : CI l yX12_takes cX12_takes 3 .boolean 3 0 0 E [.ref aa_0, .ref (eK E ii_0)] L f (fun r L1 f1 => 0 = r ∧ L = L1 ∧ f = f1) := by
  refine ci_of (by decide) (Nat.le_of_ble_eq_true rfl) (fun z hz hnm hC hR => ?_)
  have hC : Cx z E cX12_takes RX12 3 3 0 0 := hC
  subst hz
  show V z E 3 0 0 L f 0 [(0, .ref aa_0), (1, .ref (eK E ii_0))] []
  refine v_aload_n hC dX12_takes_0 rfl ?_
  refine v_aload_n hC dX12_takes_1 rfl ?_
  refine v_vi hC (rest := []) m_aa_0 e_aa_0 rfl mi_X12_is ms_X12_is (a265_X12_is hii_0 m_aa_0 e_aa_0 m_aa_6 e_aa_6) mx_X12_is ml_X12_152 (by decide) rfl (cells1 := 0) (slots1 := 0) (by decide) (by decide) (Nat.le_of_ble_eq_true rfl) (Nat.le_of_ble_eq_true rfl) rfl (Nat.le_of_ble_eq_true rfl) dX12_takes_2 (fun r_1 L_2 f_3 h_4 => ?_)
  obtain ⟨rfl, rfl, rfl⟩ := h_4
  refine v_istore_n hC dX12_takes_5 (by decide) (lv' := [(2, .int 0), (0, .ref aa_0), (1, .ref (eK E ii_0))]) rfl ?_
  refine v_iload_n hC dX12_takes_6 rfl ?_
  refine v_if_eq_t hC dX12_takes_7 (tgt := 14) (by decide) (by decide) ?_
  refine v_iload_n hC dX12_takes_14 rfl ?_
  exact hR _ _ _ _ _ _ _ dX12_takes_15 rfl (Nat.le_of_ble_eq_true rfl) (Nat.le_of_ble_eq_true rfl) ⟨rfl, rfl, rfl⟩
set_option maxRecDepth 100000 in
set_option maxHeartbeats 4000000 in
theorem a271_X12_ends {l : Launch} {E : Ez} {L : List Nat} {f : Nat → va_E} {aa_0 aa_1 aa_2 aa_3 aa_4 aa_5 aa_6 aa_7 aa_8 aa_9 aa_10 aa_11 aa_12 aa_13 aa_14 aa_15 aa_16 aa_17 aa_18 : Nat} {gg_0 : Nat → Int32} (m_aa_0 : aa_0 ∈ L) (e_aa_0 : f aa_0 = ob 12 [.int 0, .ref aa_1, .ref aa_2, .ref aa_3, .ref aa_4, .int 0, .ref aa_5, .int 0, .int 0, .int 0, .int 0, .int 0, .int 1, .int 0, .ref aa_6, .ref aa_7, .ref aa_8, .int 0, .ref aa_9, .ref aa_10, .int (-1), .ref aa_11, .ref aa_12, .ref aa_13, .ref aa_14, .ref aa_15, .ref aa_16, .ref aa_17, .ref aa_18]) (m_aa_6 : aa_6 ∈ L) (e_aa_6 : f aa_6 = aI E 2076 gg_0) : CV l yX12_ends cX12_ends 1 1 0 0 E [.ref aa_0] L f (fun L1 f1 => L = L1 ∧ f = f1) := by
  refine cv_of (by decide) (Nat.le_of_ble_eq_true rfl) (fun z hz hnm hC hR => ?_)
  have hC : Cx z E cX12_ends RX12 1 1 0 0 := hC
  subst hz
  show V z E 1 0 0 L f 0 [(0, .ref aa_0)] []
  refine v_aload_n hC dX12_ends_0 rfl ?_
  refine v_vi hC (rest := []) m_aa_0 e_aa_0 rfl mi_X12_good ms_X12_good (a265_X12_good m_aa_0 e_aa_0) mx_X12_good ml_X12_139 (by decide) rfl (cells1 := 0) (slots1 := 0) (by decide) (by decide) (Nat.le_of_ble_eq_true rfl) (Nat.le_of_ble_eq_true rfl) rfl (Nat.le_of_ble_eq_true rfl) dX12_ends_1 (fun r_1 L_2 f_3 h_4 => ?_)
  obtain ⟨rfl, rfl, rfl⟩ := h_4
  refine v_if_eq_t hC dX12_ends_4 (tgt := 20) (by decide) (by decide) ?_
  refine v_aload_n hC dX12_ends_20 rfl ?_
  refine v_vi hC (rest := []) m_aa_0 e_aa_0 rfl mi_X12_good ms_X12_good (a265_X12_good m_aa_0 e_aa_0) mx_X12_good ml_X12_139 (by decide) rfl (cells1 := 0) (slots1 := 0) (by decide) (by decide) (Nat.le_of_ble_eq_true rfl) (Nat.le_of_ble_eq_true rfl) rfl (Nat.le_of_ble_eq_true rfl) dX12_ends_21 (fun r_5 L_6 f_7 h_8 => ?_)
  obtain ⟨rfl, rfl, rfl⟩ := h_8
  refine v_if_eq_t hC dX12_ends_24 (tgt := 31) (by decide) (by decide) ?_
  exact hR _ _ _ _ _ _ dX12_ends_31 (Nat.le_of_ble_eq_true rfl) (Nat.le_of_ble_eq_true rfl) ⟨rfl, rfl⟩
set_option maxRecDepth 100000 in
set_option maxHeartbeats 4000000 in
theorem a273_X12_endsAll {l : Launch} {E : Ez} {L : List Nat} {f : Nat → va_E} {aa_0 aa_1 aa_2 aa_3 aa_4 aa_5 aa_6 aa_7 aa_8 aa_9 aa_10 aa_11 aa_12 aa_13 aa_14 aa_15 aa_16 aa_17 aa_18 : Nat} {gg_0 : Nat → Int32} (m_aa_0 : aa_0 ∈ L) (e_aa_0 : f aa_0 = ob 12 [.int 0, .ref aa_1, .ref aa_2, .ref aa_3, .ref aa_4, .int 0, .ref aa_5, .int 0, .int 0, .int 0, .int 0, .int 0, .int 1, .int 0, .ref aa_6, .ref aa_7, .ref aa_8, .int 0, .ref aa_9, .ref aa_10, .int (-1), .ref aa_11, .ref aa_12, .ref aa_13, .ref aa_14, .ref aa_15, .ref aa_16, .ref aa_17, .ref aa_18]) (m_aa_6 : aa_6 ∈ L) (e_aa_6 : f aa_6 = aI E 2076 gg_0) : CV l yX12_endsAll cX12_endsAll 1 1 0 0 E [.ref aa_0] L f (fun L1 f1 => L = L1 ∧ f = f1) := by
  refine cv_of (by decide) (Nat.le_of_ble_eq_true rfl) (fun z hz hnm hC hR => ?_)
  have hC : Cx z E cX12_endsAll RX12 1 1 0 0 := hC
  subst hz
  show V z E 1 0 0 L f 0 [(0, .ref aa_0)] []
  refine v_aload_n hC dX12_endsAll_0 rfl ?_
  refine v_vi hC (rest := []) m_aa_0 e_aa_0 rfl mi_X12_good ms_X12_good (a265_X12_good m_aa_0 e_aa_0) mx_X12_good ml_X12_139 (by decide) rfl (cells1 := 0) (slots1 := 0) (by decide) (by decide) (Nat.le_of_ble_eq_true rfl) (Nat.le_of_ble_eq_true rfl) rfl (Nat.le_of_ble_eq_true rfl) dX12_endsAll_1 (fun r_1 L_2 f_3 h_4 => ?_)
  obtain ⟨rfl, rfl, rfl⟩ := h_4
  refine v_if_eq_t hC dX12_endsAll_4 (tgt := 19) (by decide) (by decide) ?_
  exact hR _ _ _ _ _ _ dX12_endsAll_19 (Nat.le_of_ble_eq_true rfl) (Nat.le_of_ble_eq_true rfl) ⟨rfl, rfl⟩
set_option maxRecDepth 100000 in
set_option maxHeartbeats 4000000 in
theorem y_way {l : Launch} {E : Ez} {L : List Nat} {f : Nat → va_E} {m wo img hi tp fv fr cl0 pl wd rd tr0 co bi wl mn wi nu mv : Nat} {k : Int32} (m_m : m ∈ L) (e_m : f m = ob 12 [.int 0, .ref wo, .ref img, .ref hi, .ref tp, .int 0, .ref fv, .int 0, .int 0, .int 0, .int 0, .int 0, .int 0, .int (-1), .ref fr, .ref cl0, .ref pl, .int 0, .ref wd, .ref rd, .int (-1), .ref tr0, .ref co, .ref bi, .ref wl, .ref mn, .ref wi, .ref nu, .ref mv]) (m_fr : fr ∈ L) (e_fr : f fr = aI E 2076 (fun _ => 0)) : CI l yX12_way cX12_way 4 .int 5 0 0 E [.ref m, .int k] L f (fun r L1 f1 => sp_way k = r) := by
  refine ci_of (by decide) (Nat.le_of_ble_eq_true rfl) (fun z hz hnm hC hR => ?_)
  have hC : Cx z E cX12_way RX12 4 5 0 0 := hC
  subst hz
  show V z E 4 0 0 L f 0 [(0, .ref m), (1, .int k)] []
  refine v_iload_n hC dX12_way_0 rfl ?_
  refine v_si hC (rest := []) mt_X12_isWay (d_isWay) mx_X12_isWay ml_X12_221 (by decide) rfl (cells1 := 0) (slots1 := 0) (by decide) (by decide) (Nat.le_of_ble_eq_true rfl) (Nat.le_of_ble_eq_true rfl) rfl (Nat.le_of_ble_eq_true rfl) dX12_way_1 (fun r_1 L_2 f_3 h_4 => ?_)
  obtain ⟨rfl, rfl, rfl⟩ := h_4
  refine v_if_ne hC dX12_way_4 (tgt := 10) (by decide) (fun h_5 => ?_) (fun h_5 => ?_)
  · have h_6 := bI_1 h_5
    refine v_aload_n hC dX12_way_10 rfl ?_
    refine v_vv hC (rest := []) m_m e_m rfl mi_X12_begin ms_X12_begin (a219_X12_begin m_m e_m) mx_X12_begin ml_X12_181 (by decide) rfl (cells1 := 0) (slots1 := 0) (by decide) (by decide) (Nat.le_of_ble_eq_true rfl) (Nat.le_of_ble_eq_true rfl) rfl (Nat.le_of_ble_eq_true rfl) dX12_way_11 (fun L_8 f_9 h_10 => ?_)
    obtain ⟨rfl, rfl⟩ := h_10
    refine v_aload_n hC dX12_way_14 rfl ?_
    refine v_vv hC (rest := []) m_m e_m rfl mi_X12_advance ms_X12_advance (a221_X12_advance m_m e_m m_fr e_fr) mx_X12_advance ml_X12_156 (by decide) rfl (cells1 := 0) (slots1 := 0) (by decide) (by decide) (Nat.le_of_ble_eq_true rfl) (Nat.le_of_ble_eq_true rfl) rfl (Nat.le_of_ble_eq_true rfl) dX12_way_15 (fun L_12 f_13 h_14 => ?_)
    obtain ⟨rfl, rfl⟩ := h_14
    refine v_aload_n hC dX12_way_18 rfl ?_
    refine v_ldcS hC sr_X12_224 dX12_way_19 ?_
    refine v_vv hC (rest := []) m_m e_m rfl mi_X12_needs ms_X12_needs (a225_X12_needs (by decide) m_m e_m m_fr e_fr) mx_X12_needs ml_X12_166 (by decide) rfl (cells1 := 0) (slots1 := 0) (by decide) (by decide) (Nat.le_of_ble_eq_true rfl) (Nat.le_of_ble_eq_true rfl) rfl (Nat.le_of_ble_eq_true rfl) dX12_way_21 (fun L_16 f_17 h_18 => ?_)
    obtain ⟨rfl, hf_19, hk_20⟩ := h_18
    have hf_21 := (hk_20 fr (ne_kd e_fr e_m rfl)).trans e_fr
    refine v_aload_n hC dX12_way_24 rfl ?_
    refine v_ldcS hC sr_X12_226 dX12_way_25 ?_
    refine v_vv hC (rest := []) m_m hf_19 rfl mi_X12_needs ms_X12_needs (a241_X12_needs (by decide) m_m hf_19 m_fr hf_21) mx_X12_needs ml_X12_166 (by decide) rfl (cells1 := 0) (slots1 := 0) (by decide) (by decide) (Nat.le_of_ble_eq_true rfl) (Nat.le_of_ble_eq_true rfl) rfl (Nat.le_of_ble_eq_true rfl) dX12_way_27 (fun L_23 f_24 h_25 => ?_)
    obtain ⟨rfl, rfl⟩ := h_25
    refine v_bipush hC dX12_way_30 (v := 120) (by decide) ?_
    refine v_bipush hC dX12_way_32 (v := 7) (by decide) ?_
    refine v_iload_n hC dX12_way_34 rfl ?_
    refine v_imul hC dX12_way_35 rfl ?_
    refine v_iadd hC dX12_way_36 rfl ?_
    refine v_istore_n hC dX12_way_37 (by decide) (lv' := [(2, .int (120 + (7 * k))), (0, .ref m), (1, .int k)]) rfl ?_
    refine v_aload_n hC dX12_way_38 rfl ?_
    refine v_vi hC (rest := []) m_m hf_19 rfl mi_X12_sortsHere ms_X12_sortsHere (a263_X12_sortsHere m_m hf_19) mx_X12_sortsHere ml_X12_228 (by decide) rfl (cells1 := 0) (slots1 := 0) (by decide) (by decide) (Nat.le_of_ble_eq_true rfl) (Nat.le_of_ble_eq_true rfl) rfl (Nat.le_of_ble_eq_true rfl) dX12_way_39 (fun r_26 L_27 f_28 h_29 => ?_)
    obtain ⟨rfl, rfl, rfl⟩ := h_29
    refine v_istore_n hC dX12_way_42 (by decide) (lv' := [(3, .int (-1)), (2, .int (120 + (7 * k))), (0, .ref m), (1, .int k)]) rfl ?_
    refine v_iload_n hC dX12_way_43 rfl ?_
    refine v_iconst hC dX12_way_44 (v := (-1)) (by decide) ?_
    refine v_icmp_ne_f hC dX12_way_45 (tgt := 53) (by decide) (by decide) ?_
    refine v_aload_n hC dX12_way_48 rfl ?_
    refine v_iconst hC dX12_way_49 (v := 1) (by decide) ?_
    refine v_vv hC (rest := []) m_m hf_19 rfl mi_X12_errs ms_X12_errs (a245_X12_errs m_m hf_19 m_fr hf_21) mx_X12_errs ml_X12_162 (by decide) rfl (cells1 := 0) (slots1 := 0) (by decide) (by decide) (Nat.le_of_ble_eq_true rfl) (Nat.le_of_ble_eq_true rfl) rfl (Nat.le_of_ble_eq_true rfl) dX12_way_50 (fun L_31 f_32 h_33 => ?_)
    obtain ⟨rfl, rfl⟩ := h_33
    refine v_aload_n hC dX12_way_53 rfl ?_
    refine v_vi hC (rest := []) m_m hf_19 rfl mi_X12_good ms_X12_good (a235_X12_good m_m hf_19) mx_X12_good ml_X12_139 (by decide) rfl (cells1 := 0) (slots1 := 0) (by decide) (by decide) (Nat.le_of_ble_eq_true rfl) (Nat.le_of_ble_eq_true rfl) rfl (Nat.le_of_ble_eq_true rfl) dX12_way_54 (fun r_34 L_35 f_36 h_37 => ?_)
    obtain ⟨rfl, rfl, rfl⟩ := h_37
    refine v_if_eq_t hC dX12_way_57 (tgt := 64) (by decide) (by decide) ?_
    refine v_aload_n hC dX12_way_64 rfl ?_
    refine v_get hC fl_X12_34 m_m hf_19 rfl dX12_way_65 ?_
    refine v_iload_n hC dX12_way_68 rfl ?_
    refine v_iconst hC dX12_way_69 (v := 1) (by decide) ?_
    refine v_iast hC m_fr hf_21 (inb_am 120 7 6 2076 (show 0 ≤ k ∧ k < 6 by simp only [Int32.lt_iff_toInt_lt, Int32.le_iff_toInt_le, Int32.reduceToInt, ← Int32.toInt_inj] at h_6 ⊢; omega) (by decide) (by decide) (by decide) (by decide)) dX12_way_70 (fun f_38 hf_39 hk_40 => ?_)
    obtain ⟨g_41, hf_39⟩ : ∃ g9, f_38 fr = aI E 2076 g9 := ⟨_, hf_39⟩
    have hf_42 := (hk_40 m (ne_kd hf_19 hf_21 rfl)).trans hf_19
    refine v_aload_n hC dX12_way_71 rfl ?_
    refine v_get hC fl_X12_34 m_m hf_42 rfl dX12_way_72 ?_
    refine v_iload_n hC dX12_way_75 rfl ?_
    refine v_iconst hC dX12_way_76 (v := 1) (by decide) ?_
    refine v_iadd hC dX12_way_77 rfl ?_
    refine v_iload_n hC dX12_way_78 rfl ?_
    refine v_iast hC m_fr hf_39 (inb_am1 1 (show 0 ≤ k ∧ k < 6 by simp only [Int32.lt_iff_toInt_lt, Int32.le_iff_toInt_le, Int32.reduceToInt, ← Int32.toInt_inj] at h_6 ⊢; omega) (by decide)) dX12_way_79 (fun f_43 hf_44 hk_45 => ?_)
    obtain ⟨g_46, hf_44⟩ : ∃ g9, f_43 fr = aI E 2076 g9 := ⟨_, hf_44⟩
    have hf_47 := (hk_45 m (ne_kd hf_42 hf_39 rfl)).trans hf_42
    refine v_aload_n hC dX12_way_80 rfl ?_
    refine v_get hC fl_X12_34 m_m hf_47 rfl dX12_way_81 ?_
    refine v_iload_n hC dX12_way_84 rfl ?_
    refine v_iconst hC dX12_way_85 (v := 2) (by decide) ?_
    refine v_iadd hC dX12_way_86 rfl ?_
    refine v_aload_n hC dX12_way_87 rfl ?_
    refine v_ldcS hC sr_X12_231 dX12_way_88 ?_
    refine v_vi hC (rest := [.int ((120 + (7 * k)) + 2), .ref fr]) m_m hf_47 rfl mi_X12_takes ms_X12_takes (a265_X12_takes (by decide) m_m hf_47 m_fr hf_44) mx_X12_takes ml_X12_159 (by decide) rfl (cells1 := 0) (slots1 := 0) (by decide) (by decide) (Nat.le_of_ble_eq_true rfl) (Nat.le_of_ble_eq_true rfl) rfl (Nat.le_of_ble_eq_true rfl) dX12_way_90 (fun r_48 L_49 f_50 h_51 => ?_)
    obtain ⟨rfl, rfl, rfl⟩ := h_51
    refine v_if_eq_t hC dX12_way_93 (tgt := 106) (by decide) (by decide) ?_
    refine v_iconst hC dX12_way_106 (v := 1) (by decide) ?_
    refine v_iast hC m_fr hf_44 (inb_am1 2 (show 0 ≤ k ∧ k < 6 by simp only [Int32.lt_iff_toInt_lt, Int32.le_iff_toInt_le, Int32.reduceToInt, ← Int32.toInt_inj] at h_6 ⊢; omega) (by decide)) dX12_way_107 (fun f_52 hf_53 hk_54 => ?_)
    obtain ⟨g_55, hf_53⟩ : ∃ g9, f_52 fr = aI E 2076 g9 := ⟨_, hf_53⟩
    have hf_56 := (hk_54 m (ne_kd hf_47 hf_44 rfl)).trans hf_47
    refine v_aload_n hC dX12_way_108 rfl ?_
    refine v_get hC fl_X12_34 m_m hf_56 rfl dX12_way_109 ?_
    refine v_iload_n hC dX12_way_112 rfl ?_
    refine v_iconst hC dX12_way_113 (v := 3) (by decide) ?_
    refine v_iadd hC dX12_way_114 rfl ?_
    refine v_aload_n hC dX12_way_115 rfl ?_
    refine v_ldcS hC sr_X12_233 dX12_way_116 ?_
    refine v_vi hC (rest := [.int ((120 + (7 * k)) + 3), .ref fr]) m_m hf_56 rfl mi_X12_takes ms_X12_takes (a265_X12_takes (by decide) m_m hf_56 m_fr hf_53) mx_X12_takes ml_X12_159 (by decide) rfl (cells1 := 0) (slots1 := 0) (by decide) (by decide) (Nat.le_of_ble_eq_true rfl) (Nat.le_of_ble_eq_true rfl) rfl (Nat.le_of_ble_eq_true rfl) dX12_way_118 (fun r_57 L_58 f_59 h_60 => ?_)
    obtain ⟨rfl, rfl, rfl⟩ := h_60
    refine v_if_eq_t hC dX12_way_121 (tgt := 133) (by decide) (by decide) ?_
    refine v_iconst hC dX12_way_133 (v := 1) (by decide) ?_
    refine v_iast hC m_fr hf_53 (inb_am1 3 (show 0 ≤ k ∧ k < 6 by simp only [Int32.lt_iff_toInt_lt, Int32.le_iff_toInt_le, Int32.reduceToInt, ← Int32.toInt_inj] at h_6 ⊢; omega) (by decide)) dX12_way_134 (fun f_61 hf_62 hk_63 => ?_)
    obtain ⟨g_64, hf_62⟩ : ∃ g9, f_61 fr = aI E 2076 g9 := ⟨_, hf_62⟩
    have hf_65 := (hk_63 m (ne_kd hf_56 hf_53 rfl)).trans hf_56
    refine v_aload_n hC dX12_way_135 rfl ?_
    refine v_get hC fl_X12_34 m_m hf_65 rfl dX12_way_136 ?_
    refine v_iload_n hC dX12_way_139 rfl ?_
    refine v_iconst hC dX12_way_140 (v := 4) (by decide) ?_
    refine v_iadd hC dX12_way_141 rfl ?_
    refine v_iconst hC dX12_way_142 (v := 1) (by decide) ?_
    refine v_iast hC m_fr hf_62 (inb_am1 4 (show 0 ≤ k ∧ k < 6 by simp only [Int32.lt_iff_toInt_lt, Int32.le_iff_toInt_le, Int32.reduceToInt, ← Int32.toInt_inj] at h_6 ⊢; omega) (by decide)) dX12_way_143 (fun f_66 hf_67 hk_68 => ?_)
    obtain ⟨g_69, hf_67⟩ : ∃ g9, f_66 fr = aI E 2076 g9 := ⟨_, hf_67⟩
    have hf_70 := (hk_68 m (ne_kd hf_65 hf_62 rfl)).trans hf_65
    refine v_aload_n hC dX12_way_144 rfl ?_
    refine v_ldcS hC sr_X12_235 dX12_way_145 ?_
    refine v_vi hC (rest := []) m_m hf_70 rfl mi_X12_takes ms_X12_takes (a265_X12_takes (by decide) m_m hf_70 m_fr hf_67) mx_X12_takes ml_X12_159 (by decide) rfl (cells1 := 0) (slots1 := 0) (by decide) (by decide) (Nat.le_of_ble_eq_true rfl) (Nat.le_of_ble_eq_true rfl) rfl (Nat.le_of_ble_eq_true rfl) dX12_way_147 (fun r_71 L_72 f_73 h_74 => ?_)
    obtain ⟨rfl, rfl, rfl⟩ := h_74
    refine v_if_eq_t hC dX12_way_150 (tgt := 196) (by decide) (by decide) ?_
    refine v_aload_n hC dX12_way_196 rfl ?_
    refine v_get hC fl_X12_34 m_m hf_70 rfl dX12_way_197 ?_
    refine v_iload_n hC dX12_way_200 rfl ?_
    refine v_iconst hC dX12_way_201 (v := 5) (by decide) ?_
    refine v_iadd hC dX12_way_202 rfl ?_
    refine v_aload_n hC dX12_way_203 rfl ?_
    refine v_ldcS hC sr_X12_237 dX12_way_204 ?_
    refine v_vi hC (rest := [.int ((120 + (7 * k)) + 5), .ref fr]) m_m hf_70 rfl mi_X12_takes ms_X12_takes (a265_X12_takes (by decide) m_m hf_70 m_fr hf_67) mx_X12_takes ml_X12_159 (by decide) rfl (cells1 := 0) (slots1 := 0) (by decide) (by decide) (Nat.le_of_ble_eq_true rfl) (Nat.le_of_ble_eq_true rfl) rfl (Nat.le_of_ble_eq_true rfl) dX12_way_206 (fun r_75 L_76 f_77 h_78 => ?_)
    obtain ⟨rfl, rfl, rfl⟩ := h_78
    refine v_if_eq_t hC dX12_way_209 (tgt := 216) (by decide) (by decide) ?_
    refine v_iconst hC dX12_way_216 (v := 0) (by decide) ?_
    refine v_iast hC m_fr hf_67 (inb_am1 5 (show 0 ≤ k ∧ k < 6 by simp only [Int32.lt_iff_toInt_lt, Int32.le_iff_toInt_le, Int32.reduceToInt, ← Int32.toInt_inj] at h_6 ⊢; omega) (by decide)) dX12_way_217 (fun f_79 hf_80 hk_81 => ?_)
    obtain ⟨g_82, hf_80⟩ : ∃ g9, f_79 fr = aI E 2076 g9 := ⟨_, hf_80⟩
    have hf_83 := (hk_81 m (ne_kd hf_70 hf_67 rfl)).trans hf_70
    refine v_aload_n hC dX12_way_218 rfl ?_
    refine v_get hC fl_X12_34 m_m hf_83 rfl dX12_way_219 ?_
    refine v_iload_n hC dX12_way_222 rfl ?_
    refine v_bipush hC dX12_way_223 (v := 6) (by decide) ?_
    refine v_iadd hC dX12_way_225 rfl ?_
    refine v_aload_n hC dX12_way_226 rfl ?_
    refine v_ldcS hC sr_X12_239 dX12_way_227 ?_
    refine v_vi hC (rest := [.int ((120 + (7 * k)) + 6), .ref fr]) m_m hf_83 rfl mi_X12_takes ms_X12_takes (a265_X12_takes (by decide) m_m hf_83 m_fr hf_80) mx_X12_takes ml_X12_159 (by decide) rfl (cells1 := 0) (slots1 := 0) (by decide) (by decide) (Nat.le_of_ble_eq_true rfl) (Nat.le_of_ble_eq_true rfl) rfl (Nat.le_of_ble_eq_true rfl) dX12_way_229 (fun r_84 L_85 f_86 h_87 => ?_)
    obtain ⟨rfl, rfl, rfl⟩ := h_87
    refine v_if_eq_t hC dX12_way_232 (tgt := 239) (by decide) (by decide) ?_
    refine v_iconst hC dX12_way_239 (v := 0) (by decide) ?_
    refine v_iast hC m_fr hf_80 (inb_am1 6 (show 0 ≤ k ∧ k < 6 by simp only [Int32.lt_iff_toInt_lt, Int32.le_iff_toInt_le, Int32.reduceToInt, ← Int32.toInt_inj] at h_6 ⊢; omega) (by decide)) dX12_way_240 (fun f_88 hf_89 hk_90 => ?_)
    obtain ⟨g_91, hf_89⟩ : ∃ g9, f_88 fr = aI E 2076 g9 := ⟨_, hf_89⟩
    have hf_92 := (hk_90 m (ne_kd hf_83 hf_80 rfl)).trans hf_83
    refine v_aload_n hC dX12_way_241 rfl ?_
    refine v_vv hC (rest := []) m_m hf_92 rfl mi_X12_ends ms_X12_ends (a271_X12_ends m_m hf_92 m_fr hf_89) mx_X12_ends ml_X12_178 (by decide) rfl (cells1 := 0) (slots1 := 0) (by decide) (by decide) (Nat.le_of_ble_eq_true rfl) (Nat.le_of_ble_eq_true rfl) rfl (Nat.le_of_ble_eq_true rfl) dX12_way_242 (fun L_94 f_95 h_96 => ?_)
    obtain ⟨rfl, rfl⟩ := h_96
    refine v_aload_n hC dX12_way_245 rfl ?_
    refine v_vv hC (rest := []) m_m hf_92 rfl mi_X12_endsAll ms_X12_endsAll (a273_X12_endsAll m_m hf_92 m_fr hf_89) mx_X12_endsAll ml_X12_218 (by decide) rfl (cells1 := 0) (slots1 := 0) (by decide) (by decide) (Nat.le_of_ble_eq_true rfl) (Nat.le_of_ble_eq_true rfl) rfl (Nat.le_of_ble_eq_true rfl) dX12_way_246 (fun L_98 f_99 h_100 => ?_)
    obtain ⟨rfl, rfl⟩ := h_100
    refine v_aload_n hC dX12_way_249 rfl ?_
    refine v_vi hC (rest := []) m_m hf_92 rfl mi_X12_good ms_X12_good (a265_X12_good m_m hf_92) mx_X12_good ml_X12_139 (by decide) rfl (cells1 := 0) (slots1 := 0) (by decide) (by decide) (Nat.le_of_ble_eq_true rfl) (Nat.le_of_ble_eq_true rfl) rfl (Nat.le_of_ble_eq_true rfl) dX12_way_250 (fun r_101 L_102 f_103 h_104 => ?_)
    obtain ⟨rfl, rfl, rfl⟩ := h_104
    refine v_if_ne_f hC dX12_way_253 (tgt := 259) (by decide) (by decide) ?_
    refine v_bipush hC dX12_way_256 (v := (-4)) (by decide) ?_
    exact hR _ _ _ _ _ _ _ dX12_way_258 rfl (Nat.le_of_ble_eq_true rfl) (Nat.le_of_ble_eq_true rfl) (by unfold sp_way; simp only [Int32.lt_iff_toInt_lt, Int32.le_iff_toInt_le, Int32.reduceToInt, ← Int32.toInt_inj] at h_6 ⊢; first | omega | (split <;> first | rfl | (exfalso; omega)))
  · have h_105 := bI_0 h_5
    refine v_bipush hC dX12_way_7 (v := (-2)) (by decide) ?_
    exact hR _ _ _ _ _ _ _ dX12_way_9 rfl (Nat.le_of_ble_eq_true rfl) (Nat.le_of_ble_eq_true rfl) (by unfold sp_way; simp only [Int32.lt_iff_toInt_lt, Int32.le_iff_toInt_le, Int32.reduceToInt, ← Int32.toInt_inj] at h_105 ⊢; first | omega | (split <;> first | rfl | (exfalso; omega)))
set_option maxRecDepth 100000 in
set_option maxHeartbeats 4000000 in
theorem a276_X12_rows {l : Launch} {E : Ez} {L : List Nat} {f : Nat → va_E} {aa_0 aa_1 aa_2 aa_3 aa_4 aa_5 aa_6 aa_7 aa_8 aa_9 aa_10 aa_11 aa_12 aa_13 aa_14 aa_15 aa_16 aa_17 aa_18 : Nat} (m_aa_0 : aa_0 ∈ L) (e_aa_0 : f aa_0 = ob 12 [.int 0, .ref aa_1, .ref aa_2, .ref aa_3, .ref aa_4, .int 0, .ref aa_5, .int 0, .int 0, .int 0, .int 0, .int 0, .int 0, .int (-1), .ref aa_6, .ref aa_7, .ref aa_8, .int 0, .ref aa_9, .ref aa_10, .int (-1), .ref aa_11, .ref aa_12, .ref aa_13, .ref aa_14, .ref aa_15, .ref aa_16, .ref aa_17, .ref aa_18]) (m_aa_1 : aa_1 ∈ L) (e_aa_1 : f aa_1 = aI E 2076 (fun _ => 0)) : CI l yX12_rows cX12_rows 1 .int 0 0 0 E [.ref aa_0] L f (fun r L1 f1 => 0 = r ∧ L = L1 ∧ f = f1) := by
  refine ci_of (by decide) (Nat.le_of_ble_eq_true rfl) (fun z hz hnm hC hR => ?_)
  have hC : Cx z E cX12_rows RX12 1 0 0 0 := hC
  subst hz
  show V z E 1 0 0 L f 0 [(0, .ref aa_0)] []
  refine v_aload_n hC dX12_rows_0 rfl ?_
  refine v_get hC fl_X12_13 m_aa_0 e_aa_0 rfl dX12_rows_1 ?_
  refine v_iconst hC dX12_rows_4 (v := 0) (by decide) ?_
  refine v_iald hC m_aa_1 e_aa_1 (by unfold vp_in; decide) (v := 0) rfl dX12_rows_5 ?_
  exact hR _ _ _ _ _ _ _ dX12_rows_6 rfl (Nat.le_of_ble_eq_true rfl) (Nat.le_of_ble_eq_true rfl) ⟨rfl, rfl, rfl⟩
set_option maxRecDepth 100000 in
set_option maxHeartbeats 4000000 in
theorem a278_X12_wide {l : Launch} {E : Ez} {L : List Nat} {f : Nat → va_E} {aa_0 aa_1 aa_2 aa_3 aa_4 aa_5 aa_6 aa_7 aa_8 aa_9 aa_10 aa_11 aa_12 aa_13 aa_14 aa_15 aa_16 aa_17 aa_18 : Nat} (m_aa_0 : aa_0 ∈ L) (e_aa_0 : f aa_0 = ob 12 [.int 0, .ref aa_1, .ref aa_2, .ref aa_3, .ref aa_4, .int 0, .ref aa_5, .int 0, .int 0, .int 0, .int 0, .int 0, .int 0, .int (-1), .ref aa_6, .ref aa_7, .ref aa_8, .int 0, .ref aa_9, .ref aa_10, .int (-1), .ref aa_11, .ref aa_12, .ref aa_13, .ref aa_14, .ref aa_15, .ref aa_16, .ref aa_17, .ref aa_18]) (m_aa_1 : aa_1 ∈ L) (e_aa_1 : f aa_1 = aI E 2076 (fun _ => 0)) : CI l yX12_wide cX12_wide 1 .int 0 0 0 E [.ref aa_0] L f (fun r L1 f1 => 0 = r ∧ L = L1 ∧ f = f1) := by
  refine ci_of (by decide) (Nat.le_of_ble_eq_true rfl) (fun z hz hnm hC hR => ?_)
  have hC : Cx z E cX12_wide RX12 1 0 0 0 := hC
  subst hz
  show V z E 1 0 0 L f 0 [(0, .ref aa_0)] []
  refine v_aload_n hC dX12_wide_0 rfl ?_
  refine v_get hC fl_X12_13 m_aa_0 e_aa_0 rfl dX12_wide_1 ?_
  refine v_iconst hC dX12_wide_4 (v := 1) (by decide) ?_
  refine v_iald hC m_aa_1 e_aa_1 (by unfold vp_in; decide) (v := 0) rfl dX12_wide_5 ?_
  exact hR _ _ _ _ _ _ _ dX12_wide_6 rfl (Nat.le_of_ble_eq_true rfl) (Nat.le_of_ble_eq_true rfl) ⟨rfl, rfl, rfl⟩
set_option maxRecDepth 100000 in
set_option maxHeartbeats 4000000 in
theorem a280_X12_area {l : Launch} {E : Ez} {L : List Nat} {f : Nat → va_E} {aa_0 aa_1 aa_2 aa_3 aa_4 aa_5 aa_6 aa_7 aa_8 aa_9 aa_10 aa_11 aa_12 aa_13 aa_14 aa_15 aa_16 aa_17 aa_18 : Nat} {gg_0 : Nat → Int32} (m_aa_0 : aa_0 ∈ L) (e_aa_0 : f aa_0 = ob 12 [.int 0, .ref aa_1, .ref aa_2, .ref aa_3, .ref aa_4, .int 0, .ref aa_5, .int 0, .int 0, .int 0, .int 0, .int 0, .int 0, .int (-1), .ref aa_6, .ref aa_7, .ref aa_8, .int 0, .ref aa_9, .ref aa_10, .int (-1), .ref aa_11, .ref aa_12, .ref aa_13, .ref aa_14, .ref aa_15, .ref aa_16, .ref aa_17, .ref aa_18]) (m_aa_1 : aa_1 ∈ L) (e_aa_1 : f aa_1 = aI E 2076 (fun _ => 0)) (m_aa_15 : aa_15 ∈ L) (e_aa_15 : f aa_15 = aI E 4 gg_0) : CI l yX12_area cX12_area 1 .int 1 0 0 E [.ref aa_0] L f (fun r L1 f1 => 0 = r ∧ L = L1 ∧ f = f1) := by
  refine ci_of (by decide) (Nat.le_of_ble_eq_true rfl) (fun z hz hnm hC hR => ?_)
  have hC : Cx z E cX12_area RX12 1 1 0 0 := hC
  subst hz
  show V z E 1 0 0 L f 0 [(0, .ref aa_0)] []
  refine v_aload_n hC dX12_area_0 rfl ?_
  refine v_vi hC (rest := []) m_aa_0 e_aa_0 rfl mi_X12_rows ms_X12_rows (a276_X12_rows m_aa_0 e_aa_0 m_aa_1 e_aa_1) mx_X12_rows ml_X12_83 (by decide) rfl (cells1 := 0) (slots1 := 0) (by decide) (by decide) (Nat.le_of_ble_eq_true rfl) (Nat.le_of_ble_eq_true rfl) rfl (Nat.le_of_ble_eq_true rfl) dX12_area_1 (fun r_1 L_2 f_3 h_4 => ?_)
  obtain ⟨rfl, rfl, rfl⟩ := h_4
  refine v_aload_n hC dX12_area_4 rfl ?_
  refine v_vi hC (rest := [.int 0]) m_aa_0 e_aa_0 rfl mi_X12_wide ms_X12_wide (a278_X12_wide m_aa_0 e_aa_0 m_aa_1 e_aa_1) mx_X12_wide ml_X12_87 (by decide) rfl (cells1 := 0) (slots1 := 0) (by decide) (by decide) (Nat.le_of_ble_eq_true rfl) (Nat.le_of_ble_eq_true rfl) rfl (Nat.le_of_ble_eq_true rfl) dX12_area_5 (fun r_5 L_6 f_7 h_8 => ?_)
  obtain ⟨rfl, rfl, rfl⟩ := h_8
  refine v_imul hC dX12_area_8 (v := 0) (by decide) ?_
  exact hR _ _ _ _ _ _ _ dX12_area_9 rfl (Nat.le_of_ble_eq_true rfl) (Nat.le_of_ble_eq_true rfl) ⟨rfl, rfl, rfl⟩
set_option maxRecDepth 100000 in
set_option maxHeartbeats 4000000 in
theorem a280_X12_frees {l : Launch} {E : Ez} {L : List Nat} {f : Nat → va_E} {aa_0 aa_1 aa_2 aa_3 aa_4 aa_5 aa_6 aa_7 aa_8 aa_9 aa_10 aa_11 aa_12 aa_13 aa_14 aa_15 aa_16 aa_17 aa_18 : Nat} {gg_0 : Nat → Int32} (m_aa_0 : aa_0 ∈ L) (e_aa_0 : f aa_0 = ob 12 [.int 0, .ref aa_1, .ref aa_2, .ref aa_3, .ref aa_4, .int 0, .ref aa_5, .int 0, .int 0, .int 0, .int 0, .int 0, .int 0, .int (-1), .ref aa_6, .ref aa_7, .ref aa_8, .int 0, .ref aa_9, .ref aa_10, .int (-1), .ref aa_11, .ref aa_12, .ref aa_13, .ref aa_14, .ref aa_15, .ref aa_16, .ref aa_17, .ref aa_18]) (m_aa_1 : aa_1 ∈ L) (e_aa_1 : f aa_1 = aI E 2076 (fun _ => 0)) (m_aa_15 : aa_15 ∈ L) (e_aa_15 : f aa_15 = aI E 4 gg_0) : CI l yX12_frees cX12_frees 3 .int 2 0 0 E [.ref aa_0] L f (fun r L1 f1 => 0 = r ∧ L = L1 ∧ f = f1) := by
  refine ci_of (by decide) (Nat.le_of_ble_eq_true rfl) (fun z hz hnm hC hR => ?_)
  have hC : Cx z E cX12_frees RX12 3 2 0 0 := hC
  subst hz
  show V z E 3 0 0 L f 0 [(0, .ref aa_0)] []
  refine v_iconst hC dX12_frees_0 (v := 0) (by decide) ?_
  refine v_istore_n hC dX12_frees_1 (by decide) (lv' := [(1, .int 0), (0, .ref aa_0)]) rfl ?_
  refine v_iconst hC dX12_frees_2 (v := 0) (by decide) ?_
  refine v_istore_n hC dX12_frees_3 (by decide) (lv' := [(2, .int 0), (1, .int 0), (0, .ref aa_0)]) rfl ?_
  refine v_iload_n hC dX12_frees_4 rfl ?_
  refine v_aload_n hC dX12_frees_5 rfl ?_
  refine v_vi hC (rest := [.int 0]) m_aa_0 e_aa_0 rfl mi_X12_area ms_X12_area (a280_X12_area m_aa_0 e_aa_0 m_aa_1 e_aa_1 m_aa_15 e_aa_15) mx_X12_area ml_X12_203 (by decide) rfl (cells1 := 0) (slots1 := 0) (by decide) (by decide) (Nat.le_of_ble_eq_true rfl) (Nat.le_of_ble_eq_true rfl) rfl (Nat.le_of_ble_eq_true rfl) dX12_frees_6 (fun r_1 L_2 f_3 h_4 => ?_)
  obtain ⟨rfl, rfl, rfl⟩ := h_4
  refine v_icmp_ge_t hC dX12_frees_9 (tgt := 34) (by decide) (by decide) ?_
  refine v_iload_n hC dX12_frees_34 rfl ?_
  exact hR _ _ _ _ _ _ _ dX12_frees_35 rfl (Nat.le_of_ble_eq_true rfl) (Nat.le_of_ble_eq_true rfl) ⟨rfl, rfl, rfl⟩
set_option maxRecDepth 100000 in
set_option maxHeartbeats 4000000 in
theorem y_count {l : Launch} {E : Ez} {L : List Nat} {f : Nat → va_E} {m wo img hi tp fv fr cl0 pl wd rd tr0 co bi wl mn wi nu mv : Nat} {gmn : Nat → Int32} {w : Int32} (m_m : m ∈ L) (e_m : f m = ob 12 [.int 0, .ref wo, .ref img, .ref hi, .ref tp, .int 0, .ref fv, .int 0, .int 0, .int 0, .int 0, .int 0, .int 0, .int (-1), .ref fr, .ref cl0, .ref pl, .int 0, .ref wd, .ref rd, .int (-1), .ref tr0, .ref co, .ref bi, .ref wl, .ref mn, .ref wi, .ref nu, .ref mv]) (m_wo : wo ∈ L) (e_wo : f wo = aI E 2076 (fun _ => 0)) (m_mn : mn ∈ L) (e_mn : f mn = aI E 4 gmn) (pmn : ∀ i : Nat, i < 4 → gmn i = -1) : CI l yX12_count cX12_count 4 .int 3 0 0 E [.ref m, .int w] L f (fun r L1 f1 => sp_count w = r) := by
  refine ci_of (by decide) (Nat.le_of_ble_eq_true rfl) (fun z hz hnm hC hR => ?_)
  have hC : Cx z E cX12_count RX12 4 3 0 0 := hC
  subst hz
  show V z E 4 0 0 L f 0 [(0, .ref m), (1, .int w)] []
  refine v_iconst hC dX12_count_0 (v := 0) (by decide) ?_
  refine v_istore_n hC dX12_count_1 (by decide) (lv' := [(2, .int 0), (0, .ref m), (1, .int w)]) rfl ?_
  refine v_iload_n hC dX12_count_2 rfl ?_
  by_cases h_1 : w = 0
  · refine v_tableIn hC dX12_count_3 (off := 53) (tgt := 56) (by rw [h_1]; decide) (by rw [h_1]; decide) (by rw [h_1]; rfl) (by decide) ?_
    refine v_aload_n hC dX12_count_56 rfl ?_
    refine v_vi hC (rest := []) m_m e_m rfl mi_X12_rows ms_X12_rows (a276_X12_rows m_m e_m m_wo e_wo) mx_X12_rows ml_X12_83 (by decide) rfl (cells1 := 0) (slots1 := 0) (by decide) (by decide) (Nat.le_of_ble_eq_true rfl) (Nat.le_of_ble_eq_true rfl) rfl (Nat.le_of_ble_eq_true rfl) dX12_count_57 (fun r_2 L_3 f_4 h_5 => ?_)
    obtain ⟨rfl, rfl, rfl⟩ := h_5
    exact hR _ _ _ _ _ _ _ dX12_count_60 rfl (Nat.le_of_ble_eq_true rfl) (Nat.le_of_ble_eq_true rfl) (by unfold sp_count; simp only [Int32.lt_iff_toInt_lt, Int32.le_iff_toInt_le, Int32.reduceToInt, ← Int32.toInt_inj] at h_1 ⊢; first | omega | (split <;> first | rfl | (exfalso; omega)))
  by_cases h_6 : w = 1
  · refine v_tableIn hC dX12_count_3 (off := 58) (tgt := 61) (by rw [h_6]; decide) (by rw [h_6]; decide) (by rw [h_6]; rfl) (by decide) ?_
    refine v_aload_n hC dX12_count_61 rfl ?_
    refine v_vi hC (rest := []) m_m e_m rfl mi_X12_wide ms_X12_wide (a278_X12_wide m_m e_m m_wo e_wo) mx_X12_wide ml_X12_87 (by decide) rfl (cells1 := 0) (slots1 := 0) (by decide) (by decide) (Nat.le_of_ble_eq_true rfl) (Nat.le_of_ble_eq_true rfl) rfl (Nat.le_of_ble_eq_true rfl) dX12_count_62 (fun r_7 L_8 f_9 h_10 => ?_)
    obtain ⟨rfl, rfl, rfl⟩ := h_10
    exact hR _ _ _ _ _ _ _ dX12_count_65 rfl (Nat.le_of_ble_eq_true rfl) (Nat.le_of_ble_eq_true rfl) (by unfold sp_count; simp only [Int32.lt_iff_toInt_lt, Int32.le_iff_toInt_le, Int32.reduceToInt, ← Int32.toInt_inj] at h_1 h_6 ⊢; first | omega | (split <;> first | rfl | (exfalso; omega)))
  by_cases h_11 : w = 2
  · refine v_tableIn hC dX12_count_3 (off := 63) (tgt := 66) (by rw [h_11]; decide) (by rw [h_11]; decide) (by rw [h_11]; rfl) (by decide) ?_
    refine v_aload_n hC dX12_count_66 rfl ?_
    refine v_vi hC (rest := []) m_m e_m rfl mi_X12_frees ms_X12_frees (a280_X12_frees m_m e_m m_wo e_wo m_mn e_mn) mx_X12_frees ml_X12_200 (by decide) rfl (cells1 := 0) (slots1 := 0) (by decide) (by decide) (Nat.le_of_ble_eq_true rfl) (Nat.le_of_ble_eq_true rfl) rfl (Nat.le_of_ble_eq_true rfl) dX12_count_67 (fun r_12 L_13 f_14 h_15 => ?_)
    obtain ⟨rfl, rfl, rfl⟩ := h_15
    exact hR _ _ _ _ _ _ _ dX12_count_70 rfl (Nat.le_of_ble_eq_true rfl) (Nat.le_of_ble_eq_true rfl) (by unfold sp_count; simp only [Int32.lt_iff_toInt_lt, Int32.le_iff_toInt_le, Int32.reduceToInt, ← Int32.toInt_inj] at h_1 h_6 h_11 ⊢; first | omega | (split <;> first | rfl | (exfalso; omega)))
  by_cases h_16 : w = 3
  · refine v_tableIn hC dX12_count_3 (off := 68) (tgt := 71) (by rw [h_16]; decide) (by rw [h_16]; decide) (by rw [h_16]; rfl) (by decide) ?_
    refine v_iconst hC dX12_count_71 (v := 0) (by decide) ?_
    refine v_istore_n hC dX12_count_72 (by decide) (lv' := [(3, .int 0), (2, .int 0), (0, .ref m), (1, .int w)]) rfl ?_
    refine v_iload_n hC dX12_count_73 rfl ?_
    refine v_bipush hC dX12_count_74 (v := 6) (by decide) ?_
    refine v_icmp_ge_f hC dX12_count_76 (tgt := 94) (by decide) (by decide) ?_
    refine v_iload_n hC dX12_count_79 rfl ?_
    refine v_aload_n hC dX12_count_80 rfl ?_
    refine v_iload_n hC dX12_count_81 rfl ?_
    refine v_iconst hC dX12_count_82 (v := 0) (by decide) ?_
    refine v_vi hC (rest := [.int 0]) m_m e_m rfl mi_X12_ofWay ms_X12_ofWay (d_ofWay0 m_m e_m m_wo e_wo (by decide)) mx_X12_ofWay ml_X12_94 (by decide) rfl (cells1 := 0) (slots1 := 0) (by decide) (by decide) (Nat.le_of_ble_eq_true rfl) (Nat.le_of_ble_eq_true rfl) rfl (Nat.le_of_ble_eq_true rfl) dX12_count_83 (fun r_17 L_18 f_19 h_20 => ?_)
    obtain ⟨rfl, rfl, rfl⟩ := h_20
    refine v_iadd hC dX12_count_86 (v := 0) (by decide) ?_
    refine v_istore_n hC dX12_count_87 (by decide) (lv' := [(2, .int 0), (3, .int 0), (0, .ref m), (1, .int w)]) rfl ?_
    refine v_iinc hC dX12_count_88 (k := 1) rfl (v := 1) (by decide) (by decide) (lv' := [(3, .int 1), (2, .int 0), (0, .ref m), (1, .int w)]) rfl ?_
    refine v_goto hC dX12_count_91 (tgt := 73) (by decide) ?_
    refine v_iload_n hC dX12_count_73 rfl ?_
    refine v_bipush hC dX12_count_74 (v := 6) (by decide) ?_
    refine v_icmp_ge_f hC dX12_count_76 (tgt := 94) (by decide) (by decide) ?_
    refine v_iload_n hC dX12_count_79 rfl ?_
    refine v_aload_n hC dX12_count_80 rfl ?_
    refine v_iload_n hC dX12_count_81 rfl ?_
    refine v_iconst hC dX12_count_82 (v := 0) (by decide) ?_
    refine v_vi hC (rest := [.int 0]) m_m e_m rfl mi_X12_ofWay ms_X12_ofWay (d_ofWay0 m_m e_m m_wo e_wo (by decide)) mx_X12_ofWay ml_X12_94 (by decide) rfl (cells1 := 0) (slots1 := 0) (by decide) (by decide) (Nat.le_of_ble_eq_true rfl) (Nat.le_of_ble_eq_true rfl) rfl (Nat.le_of_ble_eq_true rfl) dX12_count_83 (fun r_21 L_22 f_23 h_24 => ?_)
    obtain ⟨rfl, rfl, rfl⟩ := h_24
    refine v_iadd hC dX12_count_86 (v := 0) (by decide) ?_
    refine v_istore_n hC dX12_count_87 (by decide) (lv' := [(2, .int 0), (3, .int 1), (0, .ref m), (1, .int w)]) rfl ?_
    refine v_iinc hC dX12_count_88 (k := 1) rfl (v := 2) (by decide) (by decide) (lv' := [(3, .int 2), (2, .int 0), (0, .ref m), (1, .int w)]) rfl ?_
    refine v_goto hC dX12_count_91 (tgt := 73) (by decide) ?_
    refine v_iload_n hC dX12_count_73 rfl ?_
    refine v_bipush hC dX12_count_74 (v := 6) (by decide) ?_
    refine v_icmp_ge_f hC dX12_count_76 (tgt := 94) (by decide) (by decide) ?_
    refine v_iload_n hC dX12_count_79 rfl ?_
    refine v_aload_n hC dX12_count_80 rfl ?_
    refine v_iload_n hC dX12_count_81 rfl ?_
    refine v_iconst hC dX12_count_82 (v := 0) (by decide) ?_
    refine v_vi hC (rest := [.int 0]) m_m e_m rfl mi_X12_ofWay ms_X12_ofWay (d_ofWay0 m_m e_m m_wo e_wo (by decide)) mx_X12_ofWay ml_X12_94 (by decide) rfl (cells1 := 0) (slots1 := 0) (by decide) (by decide) (Nat.le_of_ble_eq_true rfl) (Nat.le_of_ble_eq_true rfl) rfl (Nat.le_of_ble_eq_true rfl) dX12_count_83 (fun r_25 L_26 f_27 h_28 => ?_)
    obtain ⟨rfl, rfl, rfl⟩ := h_28
    refine v_iadd hC dX12_count_86 (v := 0) (by decide) ?_
    refine v_istore_n hC dX12_count_87 (by decide) (lv' := [(2, .int 0), (3, .int 2), (0, .ref m), (1, .int w)]) rfl ?_
    refine v_iinc hC dX12_count_88 (k := 1) rfl (v := 3) (by decide) (by decide) (lv' := [(3, .int 3), (2, .int 0), (0, .ref m), (1, .int w)]) rfl ?_
    refine v_goto hC dX12_count_91 (tgt := 73) (by decide) ?_
    refine v_iload_n hC dX12_count_73 rfl ?_
    refine v_bipush hC dX12_count_74 (v := 6) (by decide) ?_
    refine v_icmp_ge_f hC dX12_count_76 (tgt := 94) (by decide) (by decide) ?_
    refine v_iload_n hC dX12_count_79 rfl ?_
    refine v_aload_n hC dX12_count_80 rfl ?_
    refine v_iload_n hC dX12_count_81 rfl ?_
    refine v_iconst hC dX12_count_82 (v := 0) (by decide) ?_
    refine v_vi hC (rest := [.int 0]) m_m e_m rfl mi_X12_ofWay ms_X12_ofWay (d_ofWay0 m_m e_m m_wo e_wo (by decide)) mx_X12_ofWay ml_X12_94 (by decide) rfl (cells1 := 0) (slots1 := 0) (by decide) (by decide) (Nat.le_of_ble_eq_true rfl) (Nat.le_of_ble_eq_true rfl) rfl (Nat.le_of_ble_eq_true rfl) dX12_count_83 (fun r_29 L_30 f_31 h_32 => ?_)
    obtain ⟨rfl, rfl, rfl⟩ := h_32
    refine v_iadd hC dX12_count_86 (v := 0) (by decide) ?_
    refine v_istore_n hC dX12_count_87 (by decide) (lv' := [(2, .int 0), (3, .int 3), (0, .ref m), (1, .int w)]) rfl ?_
    refine v_iinc hC dX12_count_88 (k := 1) rfl (v := 4) (by decide) (by decide) (lv' := [(3, .int 4), (2, .int 0), (0, .ref m), (1, .int w)]) rfl ?_
    refine v_goto hC dX12_count_91 (tgt := 73) (by decide) ?_
    refine v_iload_n hC dX12_count_73 rfl ?_
    refine v_bipush hC dX12_count_74 (v := 6) (by decide) ?_
    refine v_icmp_ge_f hC dX12_count_76 (tgt := 94) (by decide) (by decide) ?_
    refine v_iload_n hC dX12_count_79 rfl ?_
    refine v_aload_n hC dX12_count_80 rfl ?_
    refine v_iload_n hC dX12_count_81 rfl ?_
    refine v_iconst hC dX12_count_82 (v := 0) (by decide) ?_
    refine v_vi hC (rest := [.int 0]) m_m e_m rfl mi_X12_ofWay ms_X12_ofWay (d_ofWay0 m_m e_m m_wo e_wo (by decide)) mx_X12_ofWay ml_X12_94 (by decide) rfl (cells1 := 0) (slots1 := 0) (by decide) (by decide) (Nat.le_of_ble_eq_true rfl) (Nat.le_of_ble_eq_true rfl) rfl (Nat.le_of_ble_eq_true rfl) dX12_count_83 (fun r_33 L_34 f_35 h_36 => ?_)
    obtain ⟨rfl, rfl, rfl⟩ := h_36
    refine v_iadd hC dX12_count_86 (v := 0) (by decide) ?_
    refine v_istore_n hC dX12_count_87 (by decide) (lv' := [(2, .int 0), (3, .int 4), (0, .ref m), (1, .int w)]) rfl ?_
    refine v_iinc hC dX12_count_88 (k := 1) rfl (v := 5) (by decide) (by decide) (lv' := [(3, .int 5), (2, .int 0), (0, .ref m), (1, .int w)]) rfl ?_
    refine v_goto hC dX12_count_91 (tgt := 73) (by decide) ?_
    refine v_iload_n hC dX12_count_73 rfl ?_
    refine v_bipush hC dX12_count_74 (v := 6) (by decide) ?_
    refine v_icmp_ge_f hC dX12_count_76 (tgt := 94) (by decide) (by decide) ?_
    refine v_iload_n hC dX12_count_79 rfl ?_
    refine v_aload_n hC dX12_count_80 rfl ?_
    refine v_iload_n hC dX12_count_81 rfl ?_
    refine v_iconst hC dX12_count_82 (v := 0) (by decide) ?_
    refine v_vi hC (rest := [.int 0]) m_m e_m rfl mi_X12_ofWay ms_X12_ofWay (d_ofWay0 m_m e_m m_wo e_wo (by decide)) mx_X12_ofWay ml_X12_94 (by decide) rfl (cells1 := 0) (slots1 := 0) (by decide) (by decide) (Nat.le_of_ble_eq_true rfl) (Nat.le_of_ble_eq_true rfl) rfl (Nat.le_of_ble_eq_true rfl) dX12_count_83 (fun r_37 L_38 f_39 h_40 => ?_)
    obtain ⟨rfl, rfl, rfl⟩ := h_40
    refine v_iadd hC dX12_count_86 (v := 0) (by decide) ?_
    refine v_istore_n hC dX12_count_87 (by decide) (lv' := [(2, .int 0), (3, .int 5), (0, .ref m), (1, .int w)]) rfl ?_
    refine v_iinc hC dX12_count_88 (k := 1) rfl (v := 6) (by decide) (by decide) (lv' := [(3, .int 6), (2, .int 0), (0, .ref m), (1, .int w)]) rfl ?_
    refine v_goto hC dX12_count_91 (tgt := 73) (by decide) ?_
    refine v_iload_n hC dX12_count_73 rfl ?_
    refine v_bipush hC dX12_count_74 (v := 6) (by decide) ?_
    refine v_icmp_ge_t hC dX12_count_76 (tgt := 94) (by decide) (by decide) ?_
    refine v_iload_n hC dX12_count_94 rfl ?_
    exact hR _ _ _ _ _ _ _ dX12_count_95 rfl (Nat.le_of_ble_eq_true rfl) (Nat.le_of_ble_eq_true rfl) (by unfold sp_count; simp only [Int32.lt_iff_toInt_lt, Int32.le_iff_toInt_le, Int32.reduceToInt, ← Int32.toInt_inj] at h_1 h_6 h_11 h_16 ⊢; first | omega | (split <;> first | rfl | (exfalso; omega)))
  by_cases h_41 : w = 4
  · refine v_tableIn hC dX12_count_3 (off := 93) (tgt := 96) (by rw [h_41]; decide) (by rw [h_41]; decide) (by rw [h_41]; rfl) (by decide) ?_
    refine v_aload_n hC dX12_count_96 rfl ?_
    refine v_get hC fl_X12_13 m_m e_m rfl dX12_count_97 ?_
    refine v_iconst hC dX12_count_100 (v := 3) (by decide) ?_
    refine v_iald hC m_wo e_wo (by unfold vp_in; decide) (v := 0) rfl dX12_count_101 ?_
    exact hR _ _ _ _ _ _ _ dX12_count_102 rfl (Nat.le_of_ble_eq_true rfl) (Nat.le_of_ble_eq_true rfl) (by unfold sp_count; simp only [Int32.lt_iff_toInt_lt, Int32.le_iff_toInt_le, Int32.reduceToInt, ← Int32.toInt_inj] at h_1 h_6 h_11 h_16 h_41 ⊢; first | omega | (split <;> first | rfl | (exfalso; omega)))
  by_cases h_42 : w = 5
  · refine v_tableIn hC dX12_count_3 (off := 100) (tgt := 103) (by rw [h_42]; decide) (by rw [h_42]; decide) (by rw [h_42]; rfl) (by decide) ?_
    refine v_aload_n hC dX12_count_103 rfl ?_
    refine v_get hC fl_X12_13 m_m e_m rfl dX12_count_104 ?_
    refine v_bipush hC dX12_count_107 (v := 6) (by decide) ?_
    refine v_iald hC m_wo e_wo (by unfold vp_in; decide) (v := 0) rfl dX12_count_109 ?_
    exact hR _ _ _ _ _ _ _ dX12_count_110 rfl (Nat.le_of_ble_eq_true rfl) (Nat.le_of_ble_eq_true rfl) (by unfold sp_count; simp only [Int32.lt_iff_toInt_lt, Int32.le_iff_toInt_le, Int32.reduceToInt, ← Int32.toInt_inj] at h_1 h_6 h_11 h_16 h_41 h_42 ⊢; first | omega | (split <;> first | rfl | (exfalso; omega)))
  by_cases h_43 : w = 6
  · refine v_tableIn hC dX12_count_3 (off := 108) (tgt := 111) (by rw [h_43]; decide) (by rw [h_43]; decide) (by rw [h_43]; rfl) (by decide) ?_
    refine v_iconst hC dX12_count_111 (v := 0) (by decide) ?_
    refine v_istore_n hC dX12_count_112 (by decide) (lv' := [(3, .int 0), (2, .int 0), (0, .ref m), (1, .int w)]) rfl ?_
    refine v_iload_n hC dX12_count_113 rfl ?_
    refine v_iconst hC dX12_count_114 (v := 4) (by decide) ?_
    refine v_icmp_ge_f hC dX12_count_115 (tgt := 140) (by decide) (by decide) ?_
    refine v_iload_n hC dX12_count_118 rfl ?_
    refine v_aload_n hC dX12_count_119 rfl ?_
    refine v_iload_n hC dX12_count_120 rfl ?_
    refine v_vi hC (rest := [.int 0]) m_m e_m rfl mi_X12_isThere ms_X12_isThere (d_isThere m_m e_m m_wo e_wo (by decide)) mx_X12_isThere ml_X12_351 (by decide) rfl (cells1 := 0) (slots1 := 0) (by decide) (by decide) (Nat.le_of_ble_eq_true rfl) (Nat.le_of_ble_eq_true rfl) rfl (Nat.le_of_ble_eq_true rfl) dX12_count_121 (fun r_44 L_45 f_46 h_47 => ?_)
    obtain ⟨rfl, rfl, rfl⟩ := h_47
    refine v_if_eq_t hC dX12_count_124 (tgt := 131) (by decide) (by decide) ?_
    refine v_iconst hC dX12_count_131 (v := 0) (by decide) ?_
    refine v_iadd hC dX12_count_132 (v := 0) (by decide) ?_
    refine v_istore_n hC dX12_count_133 (by decide) (lv' := [(2, .int 0), (3, .int 0), (0, .ref m), (1, .int w)]) rfl ?_
    refine v_iinc hC dX12_count_134 (k := 1) rfl (v := 1) (by decide) (by decide) (lv' := [(3, .int 1), (2, .int 0), (0, .ref m), (1, .int w)]) rfl ?_
    refine v_goto hC dX12_count_137 (tgt := 113) (by decide) ?_
    refine v_iload_n hC dX12_count_113 rfl ?_
    refine v_iconst hC dX12_count_114 (v := 4) (by decide) ?_
    refine v_icmp_ge_f hC dX12_count_115 (tgt := 140) (by decide) (by decide) ?_
    refine v_iload_n hC dX12_count_118 rfl ?_
    refine v_aload_n hC dX12_count_119 rfl ?_
    refine v_iload_n hC dX12_count_120 rfl ?_
    refine v_vi hC (rest := [.int 0]) m_m e_m rfl mi_X12_isThere ms_X12_isThere (d_isThere m_m e_m m_wo e_wo (by decide)) mx_X12_isThere ml_X12_351 (by decide) rfl (cells1 := 0) (slots1 := 0) (by decide) (by decide) (Nat.le_of_ble_eq_true rfl) (Nat.le_of_ble_eq_true rfl) rfl (Nat.le_of_ble_eq_true rfl) dX12_count_121 (fun r_48 L_49 f_50 h_51 => ?_)
    obtain ⟨rfl, rfl, rfl⟩ := h_51
    refine v_if_eq_t hC dX12_count_124 (tgt := 131) (by decide) (by decide) ?_
    refine v_iconst hC dX12_count_131 (v := 0) (by decide) ?_
    refine v_iadd hC dX12_count_132 (v := 0) (by decide) ?_
    refine v_istore_n hC dX12_count_133 (by decide) (lv' := [(2, .int 0), (3, .int 1), (0, .ref m), (1, .int w)]) rfl ?_
    refine v_iinc hC dX12_count_134 (k := 1) rfl (v := 2) (by decide) (by decide) (lv' := [(3, .int 2), (2, .int 0), (0, .ref m), (1, .int w)]) rfl ?_
    refine v_goto hC dX12_count_137 (tgt := 113) (by decide) ?_
    refine v_iload_n hC dX12_count_113 rfl ?_
    refine v_iconst hC dX12_count_114 (v := 4) (by decide) ?_
    refine v_icmp_ge_f hC dX12_count_115 (tgt := 140) (by decide) (by decide) ?_
    refine v_iload_n hC dX12_count_118 rfl ?_
    refine v_aload_n hC dX12_count_119 rfl ?_
    refine v_iload_n hC dX12_count_120 rfl ?_
    refine v_vi hC (rest := [.int 0]) m_m e_m rfl mi_X12_isThere ms_X12_isThere (d_isThere m_m e_m m_wo e_wo (by decide)) mx_X12_isThere ml_X12_351 (by decide) rfl (cells1 := 0) (slots1 := 0) (by decide) (by decide) (Nat.le_of_ble_eq_true rfl) (Nat.le_of_ble_eq_true rfl) rfl (Nat.le_of_ble_eq_true rfl) dX12_count_121 (fun r_52 L_53 f_54 h_55 => ?_)
    obtain ⟨rfl, rfl, rfl⟩ := h_55
    refine v_if_eq_t hC dX12_count_124 (tgt := 131) (by decide) (by decide) ?_
    refine v_iconst hC dX12_count_131 (v := 0) (by decide) ?_
    refine v_iadd hC dX12_count_132 (v := 0) (by decide) ?_
    refine v_istore_n hC dX12_count_133 (by decide) (lv' := [(2, .int 0), (3, .int 2), (0, .ref m), (1, .int w)]) rfl ?_
    refine v_iinc hC dX12_count_134 (k := 1) rfl (v := 3) (by decide) (by decide) (lv' := [(3, .int 3), (2, .int 0), (0, .ref m), (1, .int w)]) rfl ?_
    refine v_goto hC dX12_count_137 (tgt := 113) (by decide) ?_
    refine v_iload_n hC dX12_count_113 rfl ?_
    refine v_iconst hC dX12_count_114 (v := 4) (by decide) ?_
    refine v_icmp_ge_f hC dX12_count_115 (tgt := 140) (by decide) (by decide) ?_
    refine v_iload_n hC dX12_count_118 rfl ?_
    refine v_aload_n hC dX12_count_119 rfl ?_
    refine v_iload_n hC dX12_count_120 rfl ?_
    refine v_vi hC (rest := [.int 0]) m_m e_m rfl mi_X12_isThere ms_X12_isThere (d_isThere m_m e_m m_wo e_wo (by decide)) mx_X12_isThere ml_X12_351 (by decide) rfl (cells1 := 0) (slots1 := 0) (by decide) (by decide) (Nat.le_of_ble_eq_true rfl) (Nat.le_of_ble_eq_true rfl) rfl (Nat.le_of_ble_eq_true rfl) dX12_count_121 (fun r_56 L_57 f_58 h_59 => ?_)
    obtain ⟨rfl, rfl, rfl⟩ := h_59
    refine v_if_eq_t hC dX12_count_124 (tgt := 131) (by decide) (by decide) ?_
    refine v_iconst hC dX12_count_131 (v := 0) (by decide) ?_
    refine v_iadd hC dX12_count_132 (v := 0) (by decide) ?_
    refine v_istore_n hC dX12_count_133 (by decide) (lv' := [(2, .int 0), (3, .int 3), (0, .ref m), (1, .int w)]) rfl ?_
    refine v_iinc hC dX12_count_134 (k := 1) rfl (v := 4) (by decide) (by decide) (lv' := [(3, .int 4), (2, .int 0), (0, .ref m), (1, .int w)]) rfl ?_
    refine v_goto hC dX12_count_137 (tgt := 113) (by decide) ?_
    refine v_iload_n hC dX12_count_113 rfl ?_
    refine v_iconst hC dX12_count_114 (v := 4) (by decide) ?_
    refine v_icmp_ge_t hC dX12_count_115 (tgt := 140) (by decide) (by decide) ?_
    refine v_iload_n hC dX12_count_140 rfl ?_
    exact hR _ _ _ _ _ _ _ dX12_count_141 rfl (Nat.le_of_ble_eq_true rfl) (Nat.le_of_ble_eq_true rfl) (by unfold sp_count; simp only [Int32.lt_iff_toInt_lt, Int32.le_iff_toInt_le, Int32.reduceToInt, ← Int32.toInt_inj] at h_1 h_6 h_11 h_16 h_41 h_42 h_43 ⊢; first | omega | (split <;> first | rfl | (exfalso; omega)))
  by_cases h_60 : w = 7
  · refine v_tableIn hC dX12_count_3 (off := 139) (tgt := 142) (by rw [h_60]; decide) (by rw [h_60]; decide) (by rw [h_60]; rfl) (by decide) ?_
    refine v_aload_n hC dX12_count_142 rfl ?_
    refine v_get hC fl_X12_102 m_m e_m rfl dX12_count_143 ?_
    exact hR _ _ _ _ _ _ _ dX12_count_146 rfl (Nat.le_of_ble_eq_true rfl) (Nat.le_of_ble_eq_true rfl) (by unfold sp_count; simp only [Int32.lt_iff_toInt_lt, Int32.le_iff_toInt_le, Int32.reduceToInt, ← Int32.toInt_inj] at h_1 h_6 h_11 h_16 h_41 h_42 h_43 h_60 ⊢; first | omega | (split <;> first | rfl | (exfalso; omega)))
  by_cases h_61 : w = 8
  · refine v_tableIn hC dX12_count_3 (off := 144) (tgt := 147) (by rw [h_61]; decide) (by rw [h_61]; decide) (by rw [h_61]; rfl) (by decide) ?_
    refine v_iconst hC dX12_count_147 (v := 0) (by decide) ?_
    refine v_aload_n hC dX12_count_148 rfl ?_
    refine v_get hC fl_X12_49 m_m e_m rfl dX12_count_149 ?_
    refine v_mmax hC mm_X12_386 mm_smax mm_i mm_cmax (by decide) (Nat.le_of_ble_eq_true rfl) (Nat.le_of_ble_eq_true rfl) (Nat.le_of_ble_eq_true rfl) (v := 0) (by decide) dX12_count_152 ?_
    exact hR _ _ _ _ _ _ _ dX12_count_155 rfl (Nat.le_of_ble_eq_true rfl) (Nat.le_of_ble_eq_true rfl) (by unfold sp_count; simp only [Int32.lt_iff_toInt_lt, Int32.le_iff_toInt_le, Int32.reduceToInt, ← Int32.toInt_inj] at h_1 h_6 h_11 h_16 h_41 h_42 h_43 h_60 h_61 ⊢; first | omega | (split <;> first | rfl | (exfalso; omega)))
  by_cases h_62 : w = 9
  · refine v_tableIn hC dX12_count_3 (off := 153) (tgt := 156) (by rw [h_62]; decide) (by rw [h_62]; decide) (by rw [h_62]; rfl) (by decide) ?_
    refine v_iconst hC dX12_count_156 (v := 0) (by decide) ?_
    refine v_istore_n hC dX12_count_157 (by decide) (lv' := [(3, .int 0), (2, .int 0), (0, .ref m), (1, .int w)]) rfl ?_
    refine v_iload_n hC dX12_count_158 rfl ?_
    refine v_iconst hC dX12_count_159 (v := 4) (by decide) ?_
    refine v_icmp_ge_f hC dX12_count_160 (tgt := 187) (by decide) (by decide) ?_
    refine v_iload_n hC dX12_count_163 rfl ?_
    refine v_aload_n hC dX12_count_164 rfl ?_
    refine v_get hC fl_X12_64 m_m e_m rfl dX12_count_165 ?_
    refine v_iload_n hC dX12_count_168 rfl ?_
    refine v_iald hC m_mn e_mn (by unfold vp_in; decide) (v := (-1)) (pm_at pmn (by decide)) dX12_count_169 ?_
    refine v_iconst hC dX12_count_170 (v := (-1)) (by decide) ?_
    refine v_icmp_ne_f hC dX12_count_171 (tgt := 178) (by decide) (by decide) ?_
    refine v_iconst hC dX12_count_174 (v := 0) (by decide) ?_
    refine v_goto hC dX12_count_175 (tgt := 179) (by decide) ?_
    refine v_iadd hC dX12_count_179 (v := 0) (by decide) ?_
    refine v_istore_n hC dX12_count_180 (by decide) (lv' := [(2, .int 0), (3, .int 0), (0, .ref m), (1, .int w)]) rfl ?_
    refine v_iinc hC dX12_count_181 (k := 1) rfl (v := 1) (by decide) (by decide) (lv' := [(3, .int 1), (2, .int 0), (0, .ref m), (1, .int w)]) rfl ?_
    refine v_goto hC dX12_count_184 (tgt := 158) (by decide) ?_
    refine v_iload_n hC dX12_count_158 rfl ?_
    refine v_iconst hC dX12_count_159 (v := 4) (by decide) ?_
    refine v_icmp_ge_f hC dX12_count_160 (tgt := 187) (by decide) (by decide) ?_
    refine v_iload_n hC dX12_count_163 rfl ?_
    refine v_aload_n hC dX12_count_164 rfl ?_
    refine v_get hC fl_X12_64 m_m e_m rfl dX12_count_165 ?_
    refine v_iload_n hC dX12_count_168 rfl ?_
    refine v_iald hC m_mn e_mn (by unfold vp_in; decide) (v := (-1)) (pm_at pmn (by decide)) dX12_count_169 ?_
    refine v_iconst hC dX12_count_170 (v := (-1)) (by decide) ?_
    refine v_icmp_ne_f hC dX12_count_171 (tgt := 178) (by decide) (by decide) ?_
    refine v_iconst hC dX12_count_174 (v := 0) (by decide) ?_
    refine v_goto hC dX12_count_175 (tgt := 179) (by decide) ?_
    refine v_iadd hC dX12_count_179 (v := 0) (by decide) ?_
    refine v_istore_n hC dX12_count_180 (by decide) (lv' := [(2, .int 0), (3, .int 1), (0, .ref m), (1, .int w)]) rfl ?_
    refine v_iinc hC dX12_count_181 (k := 1) rfl (v := 2) (by decide) (by decide) (lv' := [(3, .int 2), (2, .int 0), (0, .ref m), (1, .int w)]) rfl ?_
    refine v_goto hC dX12_count_184 (tgt := 158) (by decide) ?_
    refine v_iload_n hC dX12_count_158 rfl ?_
    refine v_iconst hC dX12_count_159 (v := 4) (by decide) ?_
    refine v_icmp_ge_f hC dX12_count_160 (tgt := 187) (by decide) (by decide) ?_
    refine v_iload_n hC dX12_count_163 rfl ?_
    refine v_aload_n hC dX12_count_164 rfl ?_
    refine v_get hC fl_X12_64 m_m e_m rfl dX12_count_165 ?_
    refine v_iload_n hC dX12_count_168 rfl ?_
    refine v_iald hC m_mn e_mn (by unfold vp_in; decide) (v := (-1)) (pm_at pmn (by decide)) dX12_count_169 ?_
    refine v_iconst hC dX12_count_170 (v := (-1)) (by decide) ?_
    refine v_icmp_ne_f hC dX12_count_171 (tgt := 178) (by decide) (by decide) ?_
    refine v_iconst hC dX12_count_174 (v := 0) (by decide) ?_
    refine v_goto hC dX12_count_175 (tgt := 179) (by decide) ?_
    refine v_iadd hC dX12_count_179 (v := 0) (by decide) ?_
    refine v_istore_n hC dX12_count_180 (by decide) (lv' := [(2, .int 0), (3, .int 2), (0, .ref m), (1, .int w)]) rfl ?_
    refine v_iinc hC dX12_count_181 (k := 1) rfl (v := 3) (by decide) (by decide) (lv' := [(3, .int 3), (2, .int 0), (0, .ref m), (1, .int w)]) rfl ?_
    refine v_goto hC dX12_count_184 (tgt := 158) (by decide) ?_
    refine v_iload_n hC dX12_count_158 rfl ?_
    refine v_iconst hC dX12_count_159 (v := 4) (by decide) ?_
    refine v_icmp_ge_f hC dX12_count_160 (tgt := 187) (by decide) (by decide) ?_
    refine v_iload_n hC dX12_count_163 rfl ?_
    refine v_aload_n hC dX12_count_164 rfl ?_
    refine v_get hC fl_X12_64 m_m e_m rfl dX12_count_165 ?_
    refine v_iload_n hC dX12_count_168 rfl ?_
    refine v_iald hC m_mn e_mn (by unfold vp_in; decide) (v := (-1)) (pm_at pmn (by decide)) dX12_count_169 ?_
    refine v_iconst hC dX12_count_170 (v := (-1)) (by decide) ?_
    refine v_icmp_ne_f hC dX12_count_171 (tgt := 178) (by decide) (by decide) ?_
    refine v_iconst hC dX12_count_174 (v := 0) (by decide) ?_
    refine v_goto hC dX12_count_175 (tgt := 179) (by decide) ?_
    refine v_iadd hC dX12_count_179 (v := 0) (by decide) ?_
    refine v_istore_n hC dX12_count_180 (by decide) (lv' := [(2, .int 0), (3, .int 3), (0, .ref m), (1, .int w)]) rfl ?_
    refine v_iinc hC dX12_count_181 (k := 1) rfl (v := 4) (by decide) (by decide) (lv' := [(3, .int 4), (2, .int 0), (0, .ref m), (1, .int w)]) rfl ?_
    refine v_goto hC dX12_count_184 (tgt := 158) (by decide) ?_
    refine v_iload_n hC dX12_count_158 rfl ?_
    refine v_iconst hC dX12_count_159 (v := 4) (by decide) ?_
    refine v_icmp_ge_t hC dX12_count_160 (tgt := 187) (by decide) (by decide) ?_
    refine v_iload_n hC dX12_count_187 rfl ?_
    exact hR _ _ _ _ _ _ _ dX12_count_188 rfl (Nat.le_of_ble_eq_true rfl) (Nat.le_of_ble_eq_true rfl) (by unfold sp_count; simp only [Int32.lt_iff_toInt_lt, Int32.le_iff_toInt_le, Int32.reduceToInt, ← Int32.toInt_inj] at h_1 h_6 h_11 h_16 h_41 h_42 h_43 h_60 h_61 h_62 ⊢; first | omega | (split <;> first | rfl | (exfalso; omega)))
  refine v_tableOut hC dX12_count_3 (tgt := 189) (by simp only [Int32.lt_iff_toInt_lt, Int32.le_iff_toInt_le, Int32.reduceToInt, ← Int32.toInt_inj] at h_1 h_6 h_11 h_16 h_41 h_42 h_43 h_60 h_61 h_62 ⊢; omega) (by decide) ?_
  refine v_iconst hC dX12_count_189 (v := (-1)) (by decide) ?_
  exact hR _ _ _ _ _ _ _ dX12_count_190 rfl (Nat.le_of_ble_eq_true rfl) (Nat.le_of_ble_eq_true rfl) (by unfold sp_count; simp only [Int32.lt_iff_toInt_lt, Int32.le_iff_toInt_le, Int32.reduceToInt, ← Int32.toInt_inj] at h_1 h_6 h_11 h_16 h_41 h_42 h_43 h_60 h_61 h_62 ⊢; first | omega | (split <;> first | rfl | (exfalso; omega)))
set_option maxRecDepth 100000 in
set_option maxHeartbeats 4000000 in
theorem y_back {l : Launch} {E : Ez} {L : List Nat} {f : Nat → va_E} {m wo img hi tp fv fr cl0 pl wd rd tr0 co bi wl mn wi nu mv : Nat} {k : Int32} (m_m : m ∈ L) (e_m : f m = ob 12 [.int 0, .ref wo, .ref img, .ref hi, .ref tp, .int 0, .ref fv, .int 0, .int 0, .int 0, .int 0, .int 0, .int 0, .int (-1), .ref fr, .ref cl0, .ref pl, .int 0, .ref wd, .ref rd, .int (-1), .ref tr0, .ref co, .ref bi, .ref wl, .ref mn, .ref wi, .ref nu, .ref mv]) (m_hi : hi ∈ L) (e_hi : f hi = aZ E 3 (fun _ => 0)) : CI l yX12_back cX12_back 3 .int 1 0 0 E [.ref m, .int k] L f (fun r L1 f1 => sp_back k = r) := by
  refine ci_of (by decide) (Nat.le_of_ble_eq_true rfl) (fun z hz hnm hC hR => ?_)
  have hC : Cx z E cX12_back RX12 3 1 0 0 := hC
  subst hz
  show V z E 3 0 0 L f 0 [(0, .ref m), (1, .int k)] []
  refine v_iload_n hC dX12_back_0 rfl ?_
  refine v_i2l hC dX12_back_1 rfl ?_
  refine v_lconst hC dX12_back_2 (v := 0) (by decide) ?_
  refine v_ldc2 hC kl_X12_77 dX12_back_3 ?_
  refine v_si hC (rest := []) mt_X12_in c_in mx_X12_in ml_X12_79 (by decide) rfl (cells1 := 0) (slots1 := 0) (by decide) (by decide) (Nat.le_of_ble_eq_true rfl) (Nat.le_of_ble_eq_true rfl) rfl (Nat.le_of_ble_eq_true rfl) dX12_back_6 (fun r_1 L_2 f_3 h_4 => ?_)
  obtain ⟨r_19, rfl, rfl⟩ := h_4
  obtain rfl : bI (0 ≤ k ∧ k ≤ 2) = r_1 := (bI_iff (by simp only [Int64.le_iff_toInt_le, Int32.le_iff_toInt_le, Int32.toInt_toInt64, Int64.reduceToInt, Int32.reduceToInt])).trans r_19
  refine v_if_ne hC dX12_back_9 (tgt := 15) (by decide) (fun h_5 => ?_) (fun h_5 => ?_)
  · have h_6 := bI_1 h_5
    refine v_aload_n hC dX12_back_15 rfl ?_
    refine v_get hC fl_X12_20 m_m e_m rfl dX12_back_16 ?_
    refine v_iload_n hC dX12_back_19 rfl ?_
    refine v_zald hC m_hi e_hi (vp_in_iff.mpr (by simp only [Int32.lt_iff_toInt_lt, Int32.le_iff_toInt_le, Int32.reduceToInt, ← Int32.toInt_inj] at h_6 ⊢; omega)) (v := 0) rfl dX12_back_20 ?_
    refine v_if_ne_f hC dX12_back_21 (tgt := 27) (by decide) (by decide) ?_
    refine v_bipush hC dX12_back_24 (v := (-6)) (by decide) ?_
    exact hR _ _ _ _ _ _ _ dX12_back_26 rfl (Nat.le_of_ble_eq_true rfl) (Nat.le_of_ble_eq_true rfl) (by unfold sp_back; simp only [Int32.lt_iff_toInt_lt, Int32.le_iff_toInt_le, Int32.reduceToInt, ← Int32.toInt_inj] at h_6 ⊢; first | omega | (split <;> first | rfl | (exfalso; omega)))
  · have h_7 := bI_0 h_5
    refine v_bipush hC dX12_back_12 (v := (-2)) (by decide) ?_
    exact hR _ _ _ _ _ _ _ dX12_back_14 rfl (Nat.le_of_ble_eq_true rfl) (Nat.le_of_ble_eq_true rfl) (by unfold sp_back; simp only [Int32.lt_iff_toInt_lt, Int32.le_iff_toInt_le, Int32.reduceToInt, ← Int32.toInt_inj] at h_7 ⊢; first | omega | (split <;> first | rfl | (exfalso; omega)))
set_option maxRecDepth 100000 in
set_option maxHeartbeats 4000000 in
theorem y_write {l : Launch} {E : Ez} {L : List Nat} {f : Nat → va_E} {m wo img hi tp fv fr cl0 pl wd rd tr0 co bi wl mn wi nu mv : Nat} {gmn : Nat → Int32} {a : Int32} {i : Int32} {v : Int64} (m_m : m ∈ L) (e_m : f m = ob 12 [.int 0, .ref wo, .ref img, .ref hi, .ref tp, .int 0, .ref fv, .int 0, .int 0, .int 0, .int 0, .int 0, .int 0, .int (-1), .ref fr, .ref cl0, .ref pl, .int 0, .ref wd, .ref rd, .int (-1), .ref tr0, .ref co, .ref bi, .ref wl, .ref mn, .ref wi, .ref nu, .ref mv]) (m_mn : mn ∈ L) (e_mn : f mn = aI E 4 gmn) (pmn : ∀ i : Nat, i < 4 → gmn i = -1) : CI l yX12_write cX12_write 5 .int 2 0 0 E [.ref m, .int a, .int i, .long v] L f (fun r L1 f1 => sp_slot a = r) := by
  refine ci_of (by decide) (Nat.le_of_ble_eq_true rfl) (fun z hz hnm hC hR => ?_)
  have hC : Cx z E cX12_write RX12 5 2 0 0 := hC
  subst hz
  show V z E 5 0 0 L f 0 [(0, .ref m), (1, .int a), (2, .int i), (3, .long v)] []
  refine v_iload_n hC dX12_write_0 rfl ?_
  refine v_si hC (rest := []) mt_X12_isSlot (d_isSlot) mx_X12_isSlot ml_X12_425 (by decide) rfl (cells1 := 0) (slots1 := 0) (by decide) (by decide) (Nat.le_of_ble_eq_true rfl) (Nat.le_of_ble_eq_true rfl) rfl (Nat.le_of_ble_eq_true rfl) dX12_write_1 (fun r_1 L_2 f_3 h_4 => ?_)
  obtain ⟨rfl, rfl, rfl⟩ := h_4
  refine v_if_ne hC dX12_write_4 (tgt := 10) (by decide) (fun h_5 => ?_) (fun h_5 => ?_)
  · have h_6 := bI_1 h_5
    refine v_aload_n hC dX12_write_10 rfl ?_
    refine v_get hC fl_X12_64 m_m e_m rfl dX12_write_11 ?_
    refine v_iload_n hC dX12_write_14 rfl ?_
    refine v_iald hC m_mn e_mn (vp_in_iff.mpr (by simp only [Int32.lt_iff_toInt_lt, Int32.le_iff_toInt_le, Int32.reduceToInt, ← Int32.toInt_inj] at h_6 ⊢; omega)) (v := (-1)) (pm_at pmn (show 0 ≤ a ∧ a < 4 by simp only [Int32.lt_iff_toInt_lt, Int32.le_iff_toInt_le, Int32.reduceToInt, ← Int32.toInt_inj] at h_6 ⊢; omega)) dX12_write_15 ?_
    refine v_iconst hC dX12_write_16 (v := (-1)) (by decide) ?_
    refine v_icmp_ne_f hC dX12_write_17 (tgt := 23) (by decide) (by decide) ?_
    refine v_bipush hC dX12_write_20 (v := (-6)) (by decide) ?_
    exact hR _ _ _ _ _ _ _ dX12_write_22 rfl (Nat.le_of_ble_eq_true rfl) (Nat.le_of_ble_eq_true rfl) (by unfold sp_slot; simp only [Int32.lt_iff_toInt_lt, Int32.le_iff_toInt_le, Int32.reduceToInt, ← Int32.toInt_inj] at h_6 ⊢; first | omega | (split <;> first | rfl | (exfalso; omega)))
  · have h_7 := bI_0 h_5
    refine v_bipush hC dX12_write_7 (v := (-2)) (by decide) ?_
    exact hR _ _ _ _ _ _ _ dX12_write_9 rfl (Nat.le_of_ble_eq_true rfl) (Nat.le_of_ble_eq_true rfl) (by unfold sp_slot; simp only [Int32.lt_iff_toInt_lt, Int32.le_iff_toInt_le, Int32.reduceToInt, ← Int32.toInt_inj] at h_7 ⊢; first | omega | (split <;> first | rfl | (exfalso; omega)))
set_option maxRecDepth 100000 in
set_option maxHeartbeats 4000000 in
theorem y_paste {l : Launch} {E : Ez} {L : List Nat} {f : Nat → va_E} {m wo img hi tp fv fr cl0 pl wd rd tr0 co bi wl mn wi nu mv : Nat} {gmn : Nat → Int32} {a : Int32} {i : Int32} {b : Int32} {k : Int32} {n : Int32} (m_m : m ∈ L) (e_m : f m = ob 12 [.int 0, .ref wo, .ref img, .ref hi, .ref tp, .int 0, .ref fv, .int 0, .int 0, .int 0, .int 0, .int 0, .int 0, .int (-1), .ref fr, .ref cl0, .ref pl, .int 0, .ref wd, .ref rd, .int (-1), .ref tr0, .ref co, .ref bi, .ref wl, .ref mn, .ref wi, .ref nu, .ref mv]) (m_mn : mn ∈ L) (e_mn : f mn = aI E 4 gmn) (pmn : ∀ i : Nat, i < 4 → gmn i = -1) : CI l yX12_paste cX12_paste 7 .int 2 0 0 E [.ref m, .int a, .int i, .int b, .int k, .int n] L f (fun r L1 f1 => sp_slots a b = r) := by
  refine ci_of (by decide) (Nat.le_of_ble_eq_true rfl) (fun z hz hnm hC hR => ?_)
  have hC : Cx z E cX12_paste RX12 7 2 0 0 := hC
  subst hz
  show V z E 7 0 0 L f 0 [(0, .ref m), (1, .int a), (2, .int i), (3, .int b), (4, .int k), (5, .int n)] []
  refine v_iload_n hC dX12_paste_0 rfl ?_
  refine v_si hC (rest := []) mt_X12_isSlot (d_isSlot) mx_X12_isSlot ml_X12_425 (by decide) rfl (cells1 := 0) (slots1 := 0) (by decide) (by decide) (Nat.le_of_ble_eq_true rfl) (Nat.le_of_ble_eq_true rfl) rfl (Nat.le_of_ble_eq_true rfl) dX12_paste_1 (fun r_1 L_2 f_3 h_4 => ?_)
  obtain ⟨rfl, rfl, rfl⟩ := h_4
  refine v_if_eq hC dX12_paste_4 (tgt := 14) (by decide) (fun h_5 => ?_) (fun h_5 => ?_)
  · have h_6 := bI_0 h_5
    refine v_bipush hC dX12_paste_14 (v := (-2)) (by decide) ?_
    exact hR _ _ _ _ _ _ _ dX12_paste_16 rfl (Nat.le_of_ble_eq_true rfl) (Nat.le_of_ble_eq_true rfl) (by unfold sp_slots; simp only [Int32.lt_iff_toInt_lt, Int32.le_iff_toInt_le, Int32.reduceToInt, ← Int32.toInt_inj] at h_6 ⊢; first | omega | (split <;> first | rfl | (exfalso; omega)))
  · have h_7 := bI_1 h_5
    refine v_iload_n hC dX12_paste_7 rfl ?_
    refine v_si hC (rest := []) mt_X12_isSlot (d_isSlot) mx_X12_isSlot ml_X12_425 (by decide) rfl (cells1 := 0) (slots1 := 0) (by decide) (by decide) (Nat.le_of_ble_eq_true rfl) (Nat.le_of_ble_eq_true rfl) rfl (Nat.le_of_ble_eq_true rfl) dX12_paste_8 (fun r_8 L_9 f_10 h_11 => ?_)
    obtain ⟨rfl, rfl, rfl⟩ := h_11
    refine v_if_ne hC dX12_paste_11 (tgt := 17) (by decide) (fun h_12 => ?_) (fun h_12 => ?_)
    · have h_13 := bI_1 h_12
      refine v_aload_n hC dX12_paste_17 rfl ?_
      refine v_get hC fl_X12_64 m_m e_m rfl dX12_paste_18 ?_
      refine v_iload_n hC dX12_paste_21 rfl ?_
      refine v_iald hC m_mn e_mn (vp_in_iff.mpr (by simp only [Int32.lt_iff_toInt_lt, Int32.le_iff_toInt_le, Int32.reduceToInt, ← Int32.toInt_inj] at h_7 h_13 ⊢; omega)) (v := (-1)) (pm_at pmn (show 0 ≤ a ∧ a < 4 by simp only [Int32.lt_iff_toInt_lt, Int32.le_iff_toInt_le, Int32.reduceToInt, ← Int32.toInt_inj] at h_7 h_13 ⊢; omega)) dX12_paste_22 ?_
      refine v_iconst hC dX12_paste_23 (v := (-1)) (by decide) ?_
      refine v_icmp_eq_t hC dX12_paste_24 (tgt := 37) (by decide) (by decide) ?_
      refine v_bipush hC dX12_paste_37 (v := (-6)) (by decide) ?_
      exact hR _ _ _ _ _ _ _ dX12_paste_39 rfl (Nat.le_of_ble_eq_true rfl) (Nat.le_of_ble_eq_true rfl) (by unfold sp_slots; simp only [Int32.lt_iff_toInt_lt, Int32.le_iff_toInt_le, Int32.reduceToInt, ← Int32.toInt_inj] at h_7 h_13 ⊢; first | omega | (split <;> first | rfl | (exfalso; omega)))
    · have h_14 := bI_0 h_12
      refine v_bipush hC dX12_paste_14 (v := (-2)) (by decide) ?_
      exact hR _ _ _ _ _ _ _ dX12_paste_16 rfl (Nat.le_of_ble_eq_true rfl) (Nat.le_of_ble_eq_true rfl) (by unfold sp_slots; simp only [Int32.lt_iff_toInt_lt, Int32.le_iff_toInt_le, Int32.reduceToInt, ← Int32.toInt_inj] at h_7 h_14 ⊢; first | omega | (split <;> first | rfl | (exfalso; omega)))
set_option maxRecDepth 100000 in
set_option maxHeartbeats 4000000 in
theorem y_lay {l : Launch} {E : Ez} {L : List Nat} {f : Nat → va_E} {m wo img hi tp fv fr cl0 pl wd rd tr0 co bi wl mn wi nu mv : Nat} {gmn : Nat → Int32} {a : Int32} {b : Int32} (m_m : m ∈ L) (e_m : f m = ob 12 [.int 0, .ref wo, .ref img, .ref hi, .ref tp, .int 0, .ref fv, .int 0, .int 0, .int 0, .int 0, .int 0, .int 0, .int (-1), .ref fr, .ref cl0, .ref pl, .int 0, .ref wd, .ref rd, .int (-1), .ref tr0, .ref co, .ref bi, .ref wl, .ref mn, .ref wi, .ref nu, .ref mv]) (m_mn : mn ∈ L) (e_mn : f mn = aI E 4 gmn) (pmn : ∀ i : Nat, i < 4 → gmn i = -1) : CI l yX12_lay cX12_lay 7 .int 2 0 0 E [.ref m, .int a, .int b] L f (fun r L1 f1 => sp_slots a b = r) := by
  refine ci_of (by decide) (Nat.le_of_ble_eq_true rfl) (fun z hz hnm hC hR => ?_)
  have hC : Cx z E cX12_lay RX12 7 2 0 0 := hC
  subst hz
  show V z E 7 0 0 L f 0 [(0, .ref m), (1, .int a), (2, .int b)] []
  refine v_iload_n hC dX12_lay_0 rfl ?_
  refine v_si hC (rest := []) mt_X12_isSlot (d_isSlot) mx_X12_isSlot ml_X12_425 (by decide) rfl (cells1 := 0) (slots1 := 0) (by decide) (by decide) (Nat.le_of_ble_eq_true rfl) (Nat.le_of_ble_eq_true rfl) rfl (Nat.le_of_ble_eq_true rfl) dX12_lay_1 (fun r_1 L_2 f_3 h_4 => ?_)
  obtain ⟨rfl, rfl, rfl⟩ := h_4
  refine v_if_eq hC dX12_lay_4 (tgt := 14) (by decide) (fun h_5 => ?_) (fun h_5 => ?_)
  · have h_6 := bI_0 h_5
    refine v_bipush hC dX12_lay_14 (v := (-2)) (by decide) ?_
    exact hR _ _ _ _ _ _ _ dX12_lay_16 rfl (Nat.le_of_ble_eq_true rfl) (Nat.le_of_ble_eq_true rfl) (by unfold sp_slots; simp only [Int32.lt_iff_toInt_lt, Int32.le_iff_toInt_le, Int32.reduceToInt, ← Int32.toInt_inj] at h_6 ⊢; first | omega | (split <;> first | rfl | (exfalso; omega)))
  · have h_7 := bI_1 h_5
    refine v_iload_n hC dX12_lay_7 rfl ?_
    refine v_si hC (rest := []) mt_X12_isCloth (d_isCloth) mx_X12_isCloth ml_X12_319 (by decide) rfl (cells1 := 0) (slots1 := 0) (by decide) (by decide) (Nat.le_of_ble_eq_true rfl) (Nat.le_of_ble_eq_true rfl) rfl (Nat.le_of_ble_eq_true rfl) dX12_lay_8 (fun r_8 L_9 f_10 h_11 => ?_)
    obtain ⟨rfl, rfl, rfl⟩ := h_11
    refine v_if_ne hC dX12_lay_11 (tgt := 17) (by decide) (fun h_12 => ?_) (fun h_12 => ?_)
    · have h_13 := bI_1 h_12
      refine v_aload_n hC dX12_lay_17 rfl ?_
      refine v_get hC fl_X12_64 m_m e_m rfl dX12_lay_18 ?_
      refine v_iload_n hC dX12_lay_21 rfl ?_
      refine v_iald hC m_mn e_mn (vp_in_iff.mpr (by simp only [Int32.lt_iff_toInt_lt, Int32.le_iff_toInt_le, Int32.reduceToInt, ← Int32.toInt_inj] at h_7 h_13 ⊢; omega)) (v := (-1)) (pm_at pmn (show 0 ≤ a ∧ a < 4 by simp only [Int32.lt_iff_toInt_lt, Int32.le_iff_toInt_le, Int32.reduceToInt, ← Int32.toInt_inj] at h_7 h_13 ⊢; omega)) dX12_lay_22 ?_
      refine v_iconst hC dX12_lay_23 (v := (-1)) (by decide) ?_
      refine v_icmp_eq_t hC dX12_lay_24 (tgt := 35) (by decide) (by decide) ?_
      refine v_bipush hC dX12_lay_35 (v := (-6)) (by decide) ?_
      exact hR _ _ _ _ _ _ _ dX12_lay_37 rfl (Nat.le_of_ble_eq_true rfl) (Nat.le_of_ble_eq_true rfl) (by unfold sp_slots; simp only [Int32.lt_iff_toInt_lt, Int32.le_iff_toInt_le, Int32.reduceToInt, ← Int32.toInt_inj] at h_7 h_13 ⊢; first | omega | (split <;> first | rfl | (exfalso; omega)))
    · have h_14 := bI_0 h_12
      refine v_bipush hC dX12_lay_14 (v := (-2)) (by decide) ?_
      exact hR _ _ _ _ _ _ _ dX12_lay_16 rfl (Nat.le_of_ble_eq_true rfl) (Nat.le_of_ble_eq_true rfl) (by unfold sp_slots; simp only [Int32.lt_iff_toInt_lt, Int32.le_iff_toInt_le, Int32.reduceToInt, ← Int32.toInt_inj] at h_7 h_14 ⊢; first | omega | (split <;> first | rfl | (exfalso; omega)))
set_option maxRecDepth 100000 in
set_option maxHeartbeats 4000000 in
theorem y_keep {l : Launch} {E : Ez} {L : List Nat} {f : Nat → va_E} {m wo img hi tp fv fr cl0 pl wd rd tr0 co bi wl mn wi nu mv : Nat} {k : Int32} (m_m : m ∈ L) (e_m : f m = ob 12 [.int 0, .ref wo, .ref img, .ref hi, .ref tp, .int 0, .ref fv, .int 0, .int 0, .int 0, .int 0, .int 0, .int 0, .int (-1), .ref fr, .ref cl0, .ref pl, .int 0, .ref wd, .ref rd, .int (-1), .ref tr0, .ref co, .ref bi, .ref wl, .ref mn, .ref wi, .ref nu, .ref mv]) (m_wo : wo ∈ L) (e_wo : f wo = aI E 2076 (fun _ => 0)) (m_img : img ∈ L) (e_img : f img = aI E 6228 (fun _ => 0)) (m_hi : hi ∈ L) (e_hi : f hi = aZ E 3 (fun _ => 0)) : CI l yX12_keep cX12_keep 3 .int 1 0 0 E [.ref m, .int k] L f (fun r L1 f1 => sp_keep k = r) := by
  refine ci_of (by decide) (Nat.le_of_ble_eq_true rfl) (fun z hz hnm hC hR => ?_)
  have hC : Cx z E cX12_keep RX12 3 1 0 0 := hC
  subst hz
  show V z E 3 0 0 L f 0 [(0, .ref m), (1, .int k)] []
  refine v_iload_n hC dX12_keep_0 rfl ?_
  refine v_i2l hC dX12_keep_1 rfl ?_
  refine v_lconst hC dX12_keep_2 (v := 0) (by decide) ?_
  refine v_ldc2 hC kl_X12_77 dX12_keep_3 ?_
  refine v_si hC (rest := []) mt_X12_in c_in mx_X12_in ml_X12_79 (by decide) rfl (cells1 := 0) (slots1 := 0) (by decide) (by decide) (Nat.le_of_ble_eq_true rfl) (Nat.le_of_ble_eq_true rfl) rfl (Nat.le_of_ble_eq_true rfl) dX12_keep_6 (fun r_1 L_2 f_3 h_4 => ?_)
  obtain ⟨r_19, rfl, rfl⟩ := h_4
  obtain rfl : bI (0 ≤ k ∧ k ≤ 2) = r_1 := (bI_iff (by simp only [Int64.le_iff_toInt_le, Int32.le_iff_toInt_le, Int32.toInt_toInt64, Int64.reduceToInt, Int32.reduceToInt])).trans r_19
  refine v_if_ne hC dX12_keep_9 (tgt := 15) (by decide) (fun h_5 => ?_) (fun h_5 => ?_)
  · have h_6 := bI_1 h_5
    refine v_iconst hC dX12_keep_15 (v := 0) (by decide) ?_
    refine v_istore_n hC dX12_keep_16 (by decide) (lv' := [(2, .int 0), (0, .ref m), (1, .int k)]) rfl ?_
    have loop : ∀ (n9 i9 : Nat), i9 + n9 = 2076 → V z E 3 0 0 L f 17 [(2, .int (nI i9)), (0, .ref m), (1, .int k)] [] := by
      intro n9
      induction n9 with
      | zero =>
        intro i9 hi9
        refine v_iload_n hC dX12_keep_17 rfl ?_
        refine v_sipush hC dX12_keep_18 (v := 2076) (by decide) ?_
        refine v_icmp_ge_t hC dX12_keep_21 (tgt := 48) (by decide) (by rw [show i9 = 2076 by omega]; exact Int32.le_refl _) ?_
        refine v_aload_n hC dX12_keep_48 rfl ?_
        refine v_get hC fl_X12_20 m_m e_m rfl dX12_keep_49 ?_
        refine v_iload_n hC dX12_keep_52 rfl ?_
        refine v_iconst hC dX12_keep_53 (v := 1) (by decide) ?_
        refine v_zast hC m_hi e_hi (vp_in_iff.mpr (by simp only [Int32.lt_iff_toInt_lt, Int32.le_iff_toInt_le, Int32.reduceToInt, ← Int32.toInt_inj] at h_6 ⊢; omega)) dX12_keep_54 (fun f_7 hf_8 hk_9 => ?_)
        obtain ⟨g_10, hf_8⟩ : ∃ g9, f_7 hi = aZ E 3 g9 := ⟨_, hf_8⟩
        have hf_11 := (hk_9 m (ne_kd e_m e_hi rfl)).trans e_m
        have hf_12 := (hk_9 wo (ne_kd e_wo e_hi rfl)).trans e_wo
        have hf_13 := (hk_9 img (ne_kd e_img e_hi rfl)).trans e_img
        refine v_iconst hC dX12_keep_55 (v := 0) (by decide) ?_
        exact hR _ _ _ _ _ _ _ dX12_keep_56 rfl (Nat.le_of_ble_eq_true rfl) (Nat.le_of_ble_eq_true rfl) (by unfold sp_keep; simp only [Int32.lt_iff_toInt_lt, Int32.le_iff_toInt_le, Int32.reduceToInt, ← Int32.toInt_inj] at h_6 ⊢; first | omega | (split <;> first | rfl | (exfalso; omega)))
      | succ n9 ih =>
        intro i9 hi9
        refine v_iload_n hC dX12_keep_17 rfl ?_
        refine v_sipush hC dX12_keep_18 (v := 2076) (by decide) ?_
        refine v_icmp_ge_f hC dX12_keep_21 (tgt := 48) (by decide) (nI_ge (a := i9) (b := 2076) (by omega) (by omega)) ?_
        refine v_aload_n hC dX12_keep_24 rfl ?_
        refine v_get hC fl_X12_17 m_m e_m rfl dX12_keep_25 ?_
        refine v_sipush hC dX12_keep_28 (v := 2076) (by decide) ?_
        refine v_iload_n hC dX12_keep_31 rfl ?_
        refine v_imul hC dX12_keep_32 rfl ?_
        refine v_iload_n hC dX12_keep_33 rfl ?_
        refine v_iadd hC dX12_keep_34 rfl ?_
        refine v_aload_n hC dX12_keep_35 rfl ?_
        refine v_get hC fl_X12_13 m_m e_m rfl dX12_keep_36 ?_
        refine v_iload_n hC dX12_keep_39 rfl ?_
        refine v_iald hC m_wo e_wo (vp_in_nI (by omega) (by decide)) (v := 0) rfl dX12_keep_40 ?_
        refine v_iast hC m_img e_img (inb_ma 2076 3 6228 i9 (show 0 ≤ k ∧ k < 3 by simp only [Int32.lt_iff_toInt_lt, Int32.le_iff_toInt_le, Int32.reduceToInt, ← Int32.toInt_inj] at h_6 ⊢; omega) (by decide) (by omega) (by decide) (by decide)) dX12_keep_41 (fun f_14 hf_15 hk_16 => ?_)
        rw [upd_zero] at hf_15
        obtain rfl : f = f_14 := (funext (noop e_img hf_15 hk_16)).symm
        refine v_iinc hC dX12_keep_42 (k := 0) rfl (v := (nI (i9 + 1))) (nI_inc i9) (by decide) (lv' := [(2, .int (nI (i9 + 1))), (0, .ref m), (1, .int k)]) rfl ?_
        refine v_goto hC dX12_keep_45 (tgt := 17) (by decide) ?_
        refine v_pick [0, 1, 2] rfl ?_
        exact ih (i9 + 1) (by omega)
    refine v_pick [0, 1, 2] rfl ?_
    exact loop (2076 - 0) 0 (by omega)
  · have h_17 := bI_0 h_5
    refine v_bipush hC dX12_keep_12 (v := (-2)) (by decide) ?_
    exact hR _ _ _ _ _ _ _ dX12_keep_14 rfl (Nat.le_of_ble_eq_true rfl) (Nat.le_of_ble_eq_true rfl) (by unfold sp_keep; simp only [Int32.lt_iff_toInt_lt, Int32.le_iff_toInt_le, Int32.reduceToInt, ← Int32.toInt_inj] at h_17 ⊢; first | omega | (split <;> first | rfl | (exfalso; omega)))
set_option maxRecDepth 100000 in
set_option maxHeartbeats 4000000 in
theorem y_row {l : Launch} {E : Ez} {L : List Nat} {f : Nat → va_E} {m wo img hi tp fv fr cl0 pl wd rd tr0 co bi wl mn wi nu mv : Nat} {gmn : Nat → Int32} {a : Int32} {b : Int32} {n : Int32} (m_m : m ∈ L) (e_m : f m = ob 12 [.int 0, .ref wo, .ref img, .ref hi, .ref tp, .int 0, .ref fv, .int 0, .int 0, .int 0, .int 0, .int 0, .int 0, .int (-1), .ref fr, .ref cl0, .ref pl, .int 0, .ref wd, .ref rd, .int (-1), .ref tr0, .ref co, .ref bi, .ref wl, .ref mn, .ref wi, .ref nu, .ref mv]) (m_mn : mn ∈ L) (e_mn : f mn = aI E 4 gmn) (pmn : ∀ i : Nat, i < 4 → gmn i = -1) (m_wi : wi ∈ L) (e_wi : f wi = aI E 4 (fun _ => 0)) (m_nu : nu ∈ L) (e_nu : f nu = aJ E 240 (fun _ => 0)) : CI l yX12_row cX12_row 5 .int 2 0 0 E [.ref m, .int a, .int b, .int n] L f (fun r L1 f1 => sp_row a b n = r) := by
  refine ci_of (by decide) (Nat.le_of_ble_eq_true rfl) (fun z hz hnm hC hR => ?_)
  have hC : Cx z E cX12_row RX12 5 2 0 0 := hC
  subst hz
  show V z E 5 0 0 L f 0 [(0, .ref m), (1, .int a), (2, .int b), (3, .int n)] []
  refine v_iload_n hC dX12_row_0 rfl ?_
  refine v_si hC (rest := []) mt_X12_isSlot (d_isSlot) mx_X12_isSlot ml_X12_425 (by decide) rfl (cells1 := 0) (slots1 := 0) (by decide) (by decide) (Nat.le_of_ble_eq_true rfl) (Nat.le_of_ble_eq_true rfl) rfl (Nat.le_of_ble_eq_true rfl) dX12_row_1 (fun r_1 L_2 f_3 h_4 => ?_)
  obtain ⟨rfl, rfl, rfl⟩ := h_4
  refine v_if_eq hC dX12_row_4 (tgt := 25) (by decide) (fun h_5 => ?_) (fun h_5 => ?_)
  · have h_6 := bI_0 h_5
    refine v_bipush hC dX12_row_25 (v := (-2)) (by decide) ?_
    exact hR _ _ _ _ _ _ _ dX12_row_27 rfl (Nat.le_of_ble_eq_true rfl) (Nat.le_of_ble_eq_true rfl) (by unfold sp_row; simp only [Int32.lt_iff_toInt_lt, Int32.le_iff_toInt_le, Int32.reduceToInt, ← Int32.toInt_inj] at h_6 ⊢; split <;> (try split) <;> first | rfl | (exfalso; omega))
  · have h_7 := bI_1 h_5
    refine v_iload_n hC dX12_row_7 rfl ?_
    refine v_i2l hC dX12_row_8 rfl ?_
    refine v_lconst hC dX12_row_9 (v := 0) (by decide) ?_
    refine v_ldc2 hC kl_X12_90 dX12_row_10 ?_
    refine v_si hC (rest := []) mt_X12_in c_in mx_X12_in ml_X12_79 (by decide) rfl (cells1 := 0) (slots1 := 0) (by decide) (by decide) (Nat.le_of_ble_eq_true rfl) (Nat.le_of_ble_eq_true rfl) rfl (Nat.le_of_ble_eq_true rfl) dX12_row_13 (fun r_8 L_9 f_10 h_11 => ?_)
    obtain ⟨r_89, rfl, rfl⟩ := h_11
    obtain rfl : bI (0 ≤ b ∧ b ≤ 3) = r_8 := (bI_iff (by simp only [Int64.le_iff_toInt_le, Int32.le_iff_toInt_le, Int32.toInt_toInt64, Int64.reduceToInt, Int32.reduceToInt])).trans r_89
    refine v_if_eq hC dX12_row_16 (tgt := 25) (by decide) (fun h_12 => ?_) (fun h_12 => ?_)
    · have h_13 := bI_0 h_12
      refine v_bipush hC dX12_row_25 (v := (-2)) (by decide) ?_
      exact hR _ _ _ _ _ _ _ dX12_row_27 rfl (Nat.le_of_ble_eq_true rfl) (Nat.le_of_ble_eq_true rfl) (by unfold sp_row; simp only [Int32.lt_iff_toInt_lt, Int32.le_iff_toInt_le, Int32.reduceToInt, ← Int32.toInt_inj] at h_7 h_13 ⊢; split <;> (try split) <;> first | rfl | (exfalso; omega))
    · have h_14 := bI_1 h_12
      refine v_iload_n hC dX12_row_19 rfl ?_
      refine v_bipush hC dX12_row_20 (v := 60) (by decide) ?_
      refine v_icmp_le hC dX12_row_22 (tgt := 28) (by decide) (fun h_15 => ?_) (fun h_15 => ?_)
      · refine v_iload_n hC dX12_row_28 rfl ?_
        refine v_if_ge hC dX12_row_29 (tgt := 35) (by decide) (fun h_16 => ?_) (fun h_16 => ?_)
        · refine v_aload_n hC dX12_row_35 rfl ?_
          refine v_get hC fl_X12_64 m_m e_m rfl dX12_row_36 ?_
          refine v_iload_n hC dX12_row_39 rfl ?_
          refine v_iload_n hC dX12_row_40 rfl ?_
          refine v_iast hC m_mn e_mn (vp_in_iff.mpr (by simp only [Int32.lt_iff_toInt_lt, Int32.le_iff_toInt_le, Int32.reduceToInt, ← Int32.toInt_inj] at h_7 h_14 h_15 h_16 ⊢; omega)) dX12_row_41 (fun f_17 hf_18 hk_19 => ?_)
          obtain ⟨g_20, hf_18⟩ : ∃ g9, f_17 mn = aI E 4 g9 := ⟨_, hf_18⟩
          have hf_21 := (hk_19 m (ne_kd e_m e_mn rfl)).trans e_m
          obtain ⟨g_23, hf_22⟩ := same_aI e_wi hf_18 hk_19
          have hf_24 := (hk_19 nu (ne_kd e_nu e_mn rfl)).trans e_nu
          refine v_aload_n hC dX12_row_42 rfl ?_
          refine v_get hC fl_X12_67 m_m hf_21 rfl dX12_row_43 ?_
          refine v_iload_n hC dX12_row_46 rfl ?_
          refine v_iload_n hC dX12_row_47 rfl ?_
          refine v_iast hC m_wi hf_22 (vp_in_iff.mpr (by simp only [Int32.lt_iff_toInt_lt, Int32.le_iff_toInt_le, Int32.reduceToInt, ← Int32.toInt_inj] at h_7 h_14 h_15 h_16 ⊢; omega)) dX12_row_48 (fun f_25 hf_26 hk_27 => ?_)
          obtain ⟨g_28, hf_26⟩ : ∃ g9, f_25 wi = aI E 4 g9 := ⟨_, hf_26⟩
          have hf_29 := (hk_27 m (ne_kd hf_21 hf_22 rfl)).trans hf_21
          obtain ⟨g_31, hf_30⟩ := same_aI hf_18 hf_26 hk_27
          have hf_32 := (hk_27 nu (ne_kd hf_24 hf_22 rfl)).trans hf_24
          refine v_iconst hC dX12_row_49 (v := 0) (by decide) ?_
          refine v_istore hC dX12_row_50 (by decide) (lv' := [(4, .int 0), (0, .ref m), (1, .int a), (2, .int b), (3, .int n)]) rfl ?_
          have loop : ∀ (n9 i9 : Nat), i9 + n9 = 60 → V z E 5 0 0 L f_25 52 [(4, .int (nI i9)), (0, .ref m), (1, .int a), (2, .int b), (3, .int n)] [] := by
            intro n9
            induction n9 with
            | zero =>
              intro i9 hi9
              refine v_iload hC dX12_row_52 rfl ?_
              refine v_bipush hC dX12_row_54 (v := 60) (by decide) ?_
              refine v_icmp_ge_t hC dX12_row_56 (tgt := 78) (by decide) (by rw [show i9 = 60 by omega]; exact Int32.le_refl _) ?_
              refine v_iconst hC dX12_row_78 (v := 0) (by decide) ?_
              exact hR _ _ _ _ _ _ _ dX12_row_79 rfl (Nat.le_of_ble_eq_true rfl) (Nat.le_of_ble_eq_true rfl) (by unfold sp_row; simp only [Int32.lt_iff_toInt_lt, Int32.le_iff_toInt_le, Int32.reduceToInt, ← Int32.toInt_inj] at h_7 h_14 h_15 h_16 ⊢; split <;> (try split) <;> first | rfl | (exfalso; omega))
            | succ n9 ih =>
              intro i9 hi9
              refine v_iload hC dX12_row_52 rfl ?_
              refine v_bipush hC dX12_row_54 (v := 60) (by decide) ?_
              refine v_icmp_ge_f hC dX12_row_56 (tgt := 78) (by decide) (nI_ge (a := i9) (b := 60) (by omega) (by omega)) ?_
              refine v_aload_n hC dX12_row_59 rfl ?_
              refine v_get hC fl_X12_70 m_m hf_29 rfl dX12_row_60 ?_
              refine v_bipush hC dX12_row_63 (v := 60) (by decide) ?_
              refine v_iload_n hC dX12_row_65 rfl ?_
              refine v_imul hC dX12_row_66 rfl ?_
              refine v_iload hC dX12_row_67 rfl ?_
              refine v_iadd hC dX12_row_69 rfl ?_
              refine v_lconst hC dX12_row_70 (v := 0) (by decide) ?_
              refine v_last hC m_nu hf_32 (inb_ma 60 4 240 i9 (show 0 ≤ a ∧ a < 4 by simp only [Int32.lt_iff_toInt_lt, Int32.le_iff_toInt_le, Int32.reduceToInt, ← Int32.toInt_inj] at h_7 h_14 h_15 h_16 ⊢; omega) (by decide) (by omega) (by decide) (by decide)) dX12_row_71 (fun f_33 hf_34 hk_35 => ?_)
              rw [updL_zero] at hf_34
              obtain rfl : f_25 = f_33 := (funext (noop hf_32 hf_34 hk_35)).symm
              refine v_iinc hC dX12_row_72 (k := 0) rfl (v := (nI (i9 + 1))) (nI_inc i9) (by decide) (lv' := [(4, .int (nI (i9 + 1))), (0, .ref m), (1, .int a), (2, .int b), (3, .int n)]) rfl ?_
              refine v_goto hC dX12_row_75 (tgt := 52) (by decide) ?_
              refine v_pick [0, 1, 2, 3, 4] rfl ?_
              exact ih (i9 + 1) (by omega)
          refine v_pick [0, 1, 2, 3, 4] rfl ?_
          exact loop (60 - 0) 0 (by omega)
        · refine v_bipush hC dX12_row_32 (v := (-3)) (by decide) ?_
          exact hR _ _ _ _ _ _ _ dX12_row_34 rfl (Nat.le_of_ble_eq_true rfl) (Nat.le_of_ble_eq_true rfl) (by unfold sp_row; simp only [Int32.lt_iff_toInt_lt, Int32.le_iff_toInt_le, Int32.reduceToInt, ← Int32.toInt_inj] at h_7 h_14 h_15 h_16 ⊢; split <;> (try split) <;> first | rfl | (exfalso; omega))
      · refine v_bipush hC dX12_row_25 (v := (-2)) (by decide) ?_
        exact hR _ _ _ _ _ _ _ dX12_row_27 rfl (Nat.le_of_ble_eq_true rfl) (Nat.le_of_ble_eq_true rfl) (by unfold sp_row; simp only [Int32.lt_iff_toInt_lt, Int32.le_iff_toInt_le, Int32.reduceToInt, ← Int32.toInt_inj] at h_7 h_14 h_15 ⊢; split <;> (try split) <;> first | rfl | (exfalso; omega))
set_option maxRecDepth 100000 in
set_option maxHeartbeats 4000000 in
theorem k_X12 {l : Launch} {E : Ez} {L : List Nat} {f : Nat → va_E} {h : Nat} (m_h : h ∈ L) (e_h : f h = ob 12 [.int 0, .null, .null, .null, .null, .int 0, .null, .int 0, .int 0, .int 0, .int 0, .int 0, .int 0, .int 0, .null, .null, .null, .int 0, .null, .null, .int 0, .null, .null, .null, .null, .null, .null, .null, .null]) : CV l yX12_init cX12_init 1 1 18 13128 E [.ref h] L f (fun L1 f1 => (∀ b ∈ L, b ≠ h → b ∈ L1 ∧ f1 b = f b) ∧ FM E h L1 f1) := by
  refine cv_of (by decide) (Nat.le_of_ble_eq_true rfl) (fun z hz hnm hC hR => ?_)
  have hC : Cx z E cX12_init RX12 1 1 18 13128 := hC
  subst hz
  show V z E 1 0 0 L f 0 [(0, .ref h)] []
  refine v_aload_n hC dX12_init_0 rfl ?_
  refine v_objinit hC mo_X12_7 mo_i mo_c (by decide) dX12_init_1 ?_
  refine v_aload_n hC dX12_init_4 rfl ?_
  refine v_sipush hC dX12_init_5 (v := 2076) (by decide) ?_
  refine v_newaG hC (t := 1) (ty := .int) (N' := 2076) (a0 := (2076, .inl (fun _ => 0))) rfl ac_int rfl (fun _ => rfl) (by decide) (by decide) (by decide) (Nat.le_of_ble_eq_true rfl) (Nat.le_of_ble_eq_true rfl) dX12_init_8 (fun q_1 f_2 hq_3 hf_4 hk_5 => ?_)
  obtain ⟨L_8, hs_7⟩ : ∃ L9, L9 = L ++ [q_1] := ⟨_, rfl⟩
  rw [← hs_7]
  have hm_6 : q_1 ∈ L_8 := by rw [hs_7]; exact List.mem_append_right _ List.mem_cons_self
  have hm_10 : h ∈ L_8 := by rw [hs_7]; exact List.mem_append_left _ m_h
  have hf_9 := (hk_5 h (ne_in m_h hq_3)).trans e_h
  refine v_widen (k := 1) (n := 2076) (Nat.le_of_ble_eq_true rfl) (Nat.le_of_ble_eq_true rfl) ?_
  refine v_putF hC (by rw [hnm]; rfl) fl_X12_13 hm_10 hf_9 rfl rfl (Nat.le_of_ble_eq_true rfl) (fs' := [.int 0, .ref q_1, .null, .null, .null, .int 0, .null, .int 0, .int 0, .int 0, .int 0, .int 0, .int 0, .int 0, .null, .null, .null, .int 0, .null, .null, .int 0, .null, .null, .null, .null, .null, .null, .null, .null]) rfl dX12_init_10 (fun f_11 hf_12 hk_13 => ?_)
  have hf_14 := (hk_13 q_1 (ne_kd hf_4 hf_9 rfl)).trans hf_4
  refine v_aload_n hC dX12_init_13 rfl ?_
  refine v_sipush hC dX12_init_14 (v := 6228) (by decide) ?_
  refine v_newaG hC (t := 1) (ty := .int) (N' := 6228) (a0 := (6228, .inl (fun _ => 0))) rfl ac_int rfl (fun _ => rfl) (by decide) (by decide) (by decide) (Nat.le_of_ble_eq_true rfl) (Nat.le_of_ble_eq_true rfl) dX12_init_17 (fun q_15 f_16 hq_17 hf_18 hk_19 => ?_)
  obtain ⟨L_22, hs_21⟩ : ∃ L9, L9 = L_8 ++ [q_15] := ⟨_, rfl⟩
  rw [← hs_21]
  have hm_20 : q_15 ∈ L_22 := by rw [hs_21]; exact List.mem_append_right _ List.mem_cons_self
  have hm_24 : h ∈ L_22 := by rw [hs_21]; exact List.mem_append_left _ hm_10
  have hf_23 := (hk_19 h (ne_in hm_10 hq_17)).trans hf_12
  have hm_26 : q_1 ∈ L_22 := by rw [hs_21]; exact List.mem_append_left _ hm_6
  have hf_25 := (hk_19 q_1 (ne_in hm_6 hq_17)).trans hf_14
  refine v_widen (k := 2) (n := 8304) (Nat.le_of_ble_eq_true rfl) (Nat.le_of_ble_eq_true rfl) ?_
  refine v_putF hC (by rw [hnm]; rfl) fl_X12_17 hm_24 hf_23 rfl rfl (Nat.le_of_ble_eq_true rfl) (fs' := [.int 0, .ref q_1, .ref q_15, .null, .null, .int 0, .null, .int 0, .int 0, .int 0, .int 0, .int 0, .int 0, .int 0, .null, .null, .null, .int 0, .null, .null, .int 0, .null, .null, .null, .null, .null, .null, .null, .null]) rfl dX12_init_19 (fun f_27 hf_28 hk_29 => ?_)
  have hf_30 := (hk_29 q_1 (ne_kd hf_25 hf_23 rfl)).trans hf_25
  have hf_31 := (hk_29 q_15 (ne_kd hf_18 hf_23 rfl)).trans hf_18
  refine v_aload_n hC dX12_init_22 rfl ?_
  refine v_iconst hC dX12_init_23 (v := 3) (by decide) ?_
  refine v_newaG hC (t := 3) (ty := .boolean) (N' := 3) (a0 := (3, .inl (fun _ => 0))) rfl ac_boolean rfl (fun _ => rfl) (by decide) (by decide) (by decide) (Nat.le_of_ble_eq_true rfl) (Nat.le_of_ble_eq_true rfl) dX12_init_24 (fun q_32 f_33 hq_34 hf_35 hk_36 => ?_)
  obtain ⟨L_39, hs_38⟩ : ∃ L9, L9 = L_22 ++ [q_32] := ⟨_, rfl⟩
  rw [← hs_38]
  have hm_37 : q_32 ∈ L_39 := by rw [hs_38]; exact List.mem_append_right _ List.mem_cons_self
  have hm_41 : h ∈ L_39 := by rw [hs_38]; exact List.mem_append_left _ hm_24
  have hf_40 := (hk_36 h (ne_in hm_24 hq_34)).trans hf_28
  have hm_43 : q_1 ∈ L_39 := by rw [hs_38]; exact List.mem_append_left _ hm_26
  have hf_42 := (hk_36 q_1 (ne_in hm_26 hq_34)).trans hf_30
  have hm_45 : q_15 ∈ L_39 := by rw [hs_38]; exact List.mem_append_left _ hm_20
  have hf_44 := (hk_36 q_15 (ne_in hm_20 hq_34)).trans hf_31
  refine v_widen (k := 3) (n := 8307) (Nat.le_of_ble_eq_true rfl) (Nat.le_of_ble_eq_true rfl) ?_
  refine v_putF hC (by rw [hnm]; rfl) fl_X12_20 hm_41 hf_40 rfl rfl (Nat.le_of_ble_eq_true rfl) (fs' := [.int 0, .ref q_1, .ref q_15, .ref q_32, .null, .int 0, .null, .int 0, .int 0, .int 0, .int 0, .int 0, .int 0, .int 0, .null, .null, .null, .int 0, .null, .null, .int 0, .null, .null, .null, .null, .null, .null, .null, .null]) rfl dX12_init_26 (fun f_46 hf_47 hk_48 => ?_)
  have hf_49 := (hk_48 q_1 (ne_kd hf_42 hf_40 rfl)).trans hf_42
  have hf_50 := (hk_48 q_15 (ne_kd hf_44 hf_40 rfl)).trans hf_44
  have hf_51 := (hk_48 q_32 (ne_kd hf_35 hf_40 rfl)).trans hf_35
  refine v_aload_n hC dX12_init_29 rfl ?_
  refine v_sipush hC dX12_init_30 (v := 600) (by decide) ?_
  refine v_newaG hC (t := 0) (ty := .byte) (N' := 600) (a0 := (600, .inl (fun _ => 0))) rfl ac_byte rfl (fun _ => rfl) (by decide) (by decide) (by decide) (Nat.le_of_ble_eq_true rfl) (Nat.le_of_ble_eq_true rfl) dX12_init_33 (fun q_52 f_53 hq_54 hf_55 hk_56 => ?_)
  obtain ⟨L_59, hs_58⟩ : ∃ L9, L9 = L_39 ++ [q_52] := ⟨_, rfl⟩
  rw [← hs_58]
  have hm_57 : q_52 ∈ L_59 := by rw [hs_58]; exact List.mem_append_right _ List.mem_cons_self
  have hm_61 : h ∈ L_59 := by rw [hs_58]; exact List.mem_append_left _ hm_41
  have hf_60 := (hk_56 h (ne_in hm_41 hq_54)).trans hf_47
  have hm_63 : q_1 ∈ L_59 := by rw [hs_58]; exact List.mem_append_left _ hm_43
  have hf_62 := (hk_56 q_1 (ne_in hm_43 hq_54)).trans hf_49
  have hm_65 : q_15 ∈ L_59 := by rw [hs_58]; exact List.mem_append_left _ hm_45
  have hf_64 := (hk_56 q_15 (ne_in hm_45 hq_54)).trans hf_50
  have hm_67 : q_32 ∈ L_59 := by rw [hs_58]; exact List.mem_append_left _ hm_37
  have hf_66 := (hk_56 q_32 (ne_in hm_37 hq_54)).trans hf_51
  refine v_widen (k := 4) (n := 8907) (Nat.le_of_ble_eq_true rfl) (Nat.le_of_ble_eq_true rfl) ?_
  refine v_putF hC (by rw [hnm]; rfl) fl_X12_24 hm_61 hf_60 rfl rfl (Nat.le_of_ble_eq_true rfl) (fs' := [.int 0, .ref q_1, .ref q_15, .ref q_32, .ref q_52, .int 0, .null, .int 0, .int 0, .int 0, .int 0, .int 0, .int 0, .int 0, .null, .null, .null, .int 0, .null, .null, .int 0, .null, .null, .null, .null, .null, .null, .null, .null]) rfl dX12_init_35 (fun f_68 hf_69 hk_70 => ?_)
  have hf_71 := (hk_70 q_1 (ne_kd hf_62 hf_60 rfl)).trans hf_62
  have hf_72 := (hk_70 q_15 (ne_kd hf_64 hf_60 rfl)).trans hf_64
  have hf_73 := (hk_70 q_32 (ne_kd hf_66 hf_60 rfl)).trans hf_66
  have hf_74 := (hk_70 q_52 (ne_kd hf_55 hf_60 rfl)).trans hf_55
  refine v_aload_n hC dX12_init_38 rfl ?_
  refine v_iconst hC dX12_init_39 (v := 5) (by decide) ?_
  refine v_newaG hC (t := 1) (ty := .int) (N' := 5) (a0 := (5, .inl (fun _ => 0))) rfl ac_int rfl (fun _ => rfl) (by decide) (by decide) (by decide) (Nat.le_of_ble_eq_true rfl) (Nat.le_of_ble_eq_true rfl) dX12_init_40 (fun q_75 f_76 hq_77 hf_78 hk_79 => ?_)
  obtain ⟨L_82, hs_81⟩ : ∃ L9, L9 = L_59 ++ [q_75] := ⟨_, rfl⟩
  rw [← hs_81]
  have hm_80 : q_75 ∈ L_82 := by rw [hs_81]; exact List.mem_append_right _ List.mem_cons_self
  have hm_84 : h ∈ L_82 := by rw [hs_81]; exact List.mem_append_left _ hm_61
  have hf_83 := (hk_79 h (ne_in hm_61 hq_77)).trans hf_69
  have hm_86 : q_1 ∈ L_82 := by rw [hs_81]; exact List.mem_append_left _ hm_63
  have hf_85 := (hk_79 q_1 (ne_in hm_63 hq_77)).trans hf_71
  have hm_88 : q_15 ∈ L_82 := by rw [hs_81]; exact List.mem_append_left _ hm_65
  have hf_87 := (hk_79 q_15 (ne_in hm_65 hq_77)).trans hf_72
  have hm_90 : q_32 ∈ L_82 := by rw [hs_81]; exact List.mem_append_left _ hm_67
  have hf_89 := (hk_79 q_32 (ne_in hm_67 hq_77)).trans hf_73
  have hm_92 : q_52 ∈ L_82 := by rw [hs_81]; exact List.mem_append_left _ hm_57
  have hf_91 := (hk_79 q_52 (ne_in hm_57 hq_77)).trans hf_74
  refine v_widen (k := 5) (n := 8912) (Nat.le_of_ble_eq_true rfl) (Nat.le_of_ble_eq_true rfl) ?_
  refine v_putF hC (by rw [hnm]; rfl) fl_X12_28 hm_84 hf_83 rfl rfl (Nat.le_of_ble_eq_true rfl) (fs' := [.int 0, .ref q_1, .ref q_15, .ref q_32, .ref q_52, .int 0, .ref q_75, .int 0, .int 0, .int 0, .int 0, .int 0, .int 0, .int 0, .null, .null, .null, .int 0, .null, .null, .int 0, .null, .null, .null, .null, .null, .null, .null, .null]) rfl dX12_init_42 (fun f_93 hf_94 hk_95 => ?_)
  have hf_96 := (hk_95 q_1 (ne_kd hf_85 hf_83 rfl)).trans hf_85
  have hf_97 := (hk_95 q_15 (ne_kd hf_87 hf_83 rfl)).trans hf_87
  have hf_98 := (hk_95 q_32 (ne_kd hf_89 hf_83 rfl)).trans hf_89
  have hf_99 := (hk_95 q_52 (ne_kd hf_91 hf_83 rfl)).trans hf_91
  have hf_100 := (hk_95 q_75 (ne_kd hf_78 hf_83 rfl)).trans hf_78
  refine v_aload_n hC dX12_init_45 rfl ?_
  refine v_iconst hC dX12_init_46 (v := (-1)) (by decide) ?_
  refine v_put hC fl_X12_31 hm_84 hf_94 rfl rfl (Nat.le_of_ble_eq_true rfl) (fs' := [.int 0, .ref q_1, .ref q_15, .ref q_32, .ref q_52, .int 0, .ref q_75, .int 0, .int 0, .int 0, .int 0, .int 0, .int 0, .int (-1), .null, .null, .null, .int 0, .null, .null, .int 0, .null, .null, .null, .null, .null, .null, .null, .null]) rfl dX12_init_47 (fun f_101 hf_102 hk_103 => ?_)
  have hf_104 := (hk_103 q_1 (ne_kd hf_96 hf_94 rfl)).trans hf_96
  have hf_105 := (hk_103 q_15 (ne_kd hf_97 hf_94 rfl)).trans hf_97
  have hf_106 := (hk_103 q_32 (ne_kd hf_98 hf_94 rfl)).trans hf_98
  have hf_107 := (hk_103 q_52 (ne_kd hf_99 hf_94 rfl)).trans hf_99
  have hf_108 := (hk_103 q_75 (ne_kd hf_100 hf_94 rfl)).trans hf_100
  refine v_aload_n hC dX12_init_50 rfl ?_
  refine v_sipush hC dX12_init_51 (v := 2076) (by decide) ?_
  refine v_newaG hC (t := 1) (ty := .int) (N' := 2076) (a0 := (2076, .inl (fun _ => 0))) rfl ac_int rfl (fun _ => rfl) (by decide) (by decide) (by decide) (Nat.le_of_ble_eq_true rfl) (Nat.le_of_ble_eq_true rfl) dX12_init_54 (fun q_109 f_110 hq_111 hf_112 hk_113 => ?_)
  obtain ⟨L_116, hs_115⟩ : ∃ L9, L9 = L_82 ++ [q_109] := ⟨_, rfl⟩
  rw [← hs_115]
  have hm_114 : q_109 ∈ L_116 := by rw [hs_115]; exact List.mem_append_right _ List.mem_cons_self
  have hm_118 : h ∈ L_116 := by rw [hs_115]; exact List.mem_append_left _ hm_84
  have hf_117 := (hk_113 h (ne_in hm_84 hq_111)).trans hf_102
  have hm_120 : q_1 ∈ L_116 := by rw [hs_115]; exact List.mem_append_left _ hm_86
  have hf_119 := (hk_113 q_1 (ne_in hm_86 hq_111)).trans hf_104
  have hm_122 : q_15 ∈ L_116 := by rw [hs_115]; exact List.mem_append_left _ hm_88
  have hf_121 := (hk_113 q_15 (ne_in hm_88 hq_111)).trans hf_105
  have hm_124 : q_32 ∈ L_116 := by rw [hs_115]; exact List.mem_append_left _ hm_90
  have hf_123 := (hk_113 q_32 (ne_in hm_90 hq_111)).trans hf_106
  have hm_126 : q_52 ∈ L_116 := by rw [hs_115]; exact List.mem_append_left _ hm_92
  have hf_125 := (hk_113 q_52 (ne_in hm_92 hq_111)).trans hf_107
  have hm_128 : q_75 ∈ L_116 := by rw [hs_115]; exact List.mem_append_left _ hm_80
  have hf_127 := (hk_113 q_75 (ne_in hm_80 hq_111)).trans hf_108
  refine v_widen (k := 6) (n := 10988) (Nat.le_of_ble_eq_true rfl) (Nat.le_of_ble_eq_true rfl) ?_
  refine v_putF hC (by rw [hnm]; rfl) fl_X12_34 hm_118 hf_117 rfl rfl (Nat.le_of_ble_eq_true rfl) (fs' := [.int 0, .ref q_1, .ref q_15, .ref q_32, .ref q_52, .int 0, .ref q_75, .int 0, .int 0, .int 0, .int 0, .int 0, .int 0, .int (-1), .ref q_109, .null, .null, .int 0, .null, .null, .int 0, .null, .null, .null, .null, .null, .null, .null, .null]) rfl dX12_init_56 (fun f_129 hf_130 hk_131 => ?_)
  have hf_132 := (hk_131 q_1 (ne_kd hf_119 hf_117 rfl)).trans hf_119
  have hf_133 := (hk_131 q_15 (ne_kd hf_121 hf_117 rfl)).trans hf_121
  have hf_134 := (hk_131 q_32 (ne_kd hf_123 hf_117 rfl)).trans hf_123
  have hf_135 := (hk_131 q_52 (ne_kd hf_125 hf_117 rfl)).trans hf_125
  have hf_136 := (hk_131 q_75 (ne_kd hf_127 hf_117 rfl)).trans hf_127
  have hf_137 := (hk_131 q_109 (ne_kd hf_112 hf_117 rfl)).trans hf_112
  refine v_aload_n hC dX12_init_59 rfl ?_
  refine v_sipush hC dX12_init_60 (v := 256) (by decide) ?_
  refine v_newaG hC (t := 1) (ty := .int) (N' := 256) (a0 := (256, .inl (fun _ => 0))) rfl ac_int rfl (fun _ => rfl) (by decide) (by decide) (by decide) (Nat.le_of_ble_eq_true rfl) (Nat.le_of_ble_eq_true rfl) dX12_init_63 (fun q_138 f_139 hq_140 hf_141 hk_142 => ?_)
  obtain ⟨L_145, hs_144⟩ : ∃ L9, L9 = L_116 ++ [q_138] := ⟨_, rfl⟩
  rw [← hs_144]
  have hm_143 : q_138 ∈ L_145 := by rw [hs_144]; exact List.mem_append_right _ List.mem_cons_self
  have hm_147 : h ∈ L_145 := by rw [hs_144]; exact List.mem_append_left _ hm_118
  have hf_146 := (hk_142 h (ne_in hm_118 hq_140)).trans hf_130
  have hm_149 : q_1 ∈ L_145 := by rw [hs_144]; exact List.mem_append_left _ hm_120
  have hf_148 := (hk_142 q_1 (ne_in hm_120 hq_140)).trans hf_132
  have hm_151 : q_15 ∈ L_145 := by rw [hs_144]; exact List.mem_append_left _ hm_122
  have hf_150 := (hk_142 q_15 (ne_in hm_122 hq_140)).trans hf_133
  have hm_153 : q_32 ∈ L_145 := by rw [hs_144]; exact List.mem_append_left _ hm_124
  have hf_152 := (hk_142 q_32 (ne_in hm_124 hq_140)).trans hf_134
  have hm_155 : q_52 ∈ L_145 := by rw [hs_144]; exact List.mem_append_left _ hm_126
  have hf_154 := (hk_142 q_52 (ne_in hm_126 hq_140)).trans hf_135
  have hm_157 : q_75 ∈ L_145 := by rw [hs_144]; exact List.mem_append_left _ hm_128
  have hf_156 := (hk_142 q_75 (ne_in hm_128 hq_140)).trans hf_136
  have hm_159 : q_109 ∈ L_145 := by rw [hs_144]; exact List.mem_append_left _ hm_114
  have hf_158 := (hk_142 q_109 (ne_in hm_114 hq_140)).trans hf_137
  refine v_widen (k := 7) (n := 11244) (Nat.le_of_ble_eq_true rfl) (Nat.le_of_ble_eq_true rfl) ?_
  refine v_putF hC (by rw [hnm]; rfl) fl_X12_37 hm_147 hf_146 rfl rfl (Nat.le_of_ble_eq_true rfl) (fs' := [.int 0, .ref q_1, .ref q_15, .ref q_32, .ref q_52, .int 0, .ref q_75, .int 0, .int 0, .int 0, .int 0, .int 0, .int 0, .int (-1), .ref q_109, .ref q_138, .null, .int 0, .null, .null, .int 0, .null, .null, .null, .null, .null, .null, .null, .null]) rfl dX12_init_65 (fun f_160 hf_161 hk_162 => ?_)
  have hf_163 := (hk_162 q_1 (ne_kd hf_148 hf_146 rfl)).trans hf_148
  have hf_164 := (hk_162 q_15 (ne_kd hf_150 hf_146 rfl)).trans hf_150
  have hf_165 := (hk_162 q_32 (ne_kd hf_152 hf_146 rfl)).trans hf_152
  have hf_166 := (hk_162 q_52 (ne_kd hf_154 hf_146 rfl)).trans hf_154
  have hf_167 := (hk_162 q_75 (ne_kd hf_156 hf_146 rfl)).trans hf_156
  have hf_168 := (hk_162 q_109 (ne_kd hf_158 hf_146 rfl)).trans hf_158
  have hf_169 := (hk_162 q_138 (ne_kd hf_141 hf_146 rfl)).trans hf_141
  refine v_aload_n hC dX12_init_68 rfl ?_
  refine v_sipush hC dX12_init_69 (v := 256) (by decide) ?_
  refine v_newaG hC (t := 1) (ty := .int) (N' := 256) (a0 := (256, .inl (fun _ => 0))) rfl ac_int rfl (fun _ => rfl) (by decide) (by decide) (by decide) (Nat.le_of_ble_eq_true rfl) (Nat.le_of_ble_eq_true rfl) dX12_init_72 (fun q_170 f_171 hq_172 hf_173 hk_174 => ?_)
  obtain ⟨L_177, hs_176⟩ : ∃ L9, L9 = L_145 ++ [q_170] := ⟨_, rfl⟩
  rw [← hs_176]
  have hm_175 : q_170 ∈ L_177 := by rw [hs_176]; exact List.mem_append_right _ List.mem_cons_self
  have hm_179 : h ∈ L_177 := by rw [hs_176]; exact List.mem_append_left _ hm_147
  have hf_178 := (hk_174 h (ne_in hm_147 hq_172)).trans hf_161
  have hm_181 : q_1 ∈ L_177 := by rw [hs_176]; exact List.mem_append_left _ hm_149
  have hf_180 := (hk_174 q_1 (ne_in hm_149 hq_172)).trans hf_163
  have hm_183 : q_15 ∈ L_177 := by rw [hs_176]; exact List.mem_append_left _ hm_151
  have hf_182 := (hk_174 q_15 (ne_in hm_151 hq_172)).trans hf_164
  have hm_185 : q_32 ∈ L_177 := by rw [hs_176]; exact List.mem_append_left _ hm_153
  have hf_184 := (hk_174 q_32 (ne_in hm_153 hq_172)).trans hf_165
  have hm_187 : q_52 ∈ L_177 := by rw [hs_176]; exact List.mem_append_left _ hm_155
  have hf_186 := (hk_174 q_52 (ne_in hm_155 hq_172)).trans hf_166
  have hm_189 : q_75 ∈ L_177 := by rw [hs_176]; exact List.mem_append_left _ hm_157
  have hf_188 := (hk_174 q_75 (ne_in hm_157 hq_172)).trans hf_167
  have hm_191 : q_109 ∈ L_177 := by rw [hs_176]; exact List.mem_append_left _ hm_159
  have hf_190 := (hk_174 q_109 (ne_in hm_159 hq_172)).trans hf_168
  have hm_193 : q_138 ∈ L_177 := by rw [hs_176]; exact List.mem_append_left _ hm_143
  have hf_192 := (hk_174 q_138 (ne_in hm_143 hq_172)).trans hf_169
  refine v_widen (k := 8) (n := 11500) (Nat.le_of_ble_eq_true rfl) (Nat.le_of_ble_eq_true rfl) ?_
  refine v_putF hC (by rw [hnm]; rfl) fl_X12_40 hm_179 hf_178 rfl rfl (Nat.le_of_ble_eq_true rfl) (fs' := [.int 0, .ref q_1, .ref q_15, .ref q_32, .ref q_52, .int 0, .ref q_75, .int 0, .int 0, .int 0, .int 0, .int 0, .int 0, .int (-1), .ref q_109, .ref q_138, .ref q_170, .int 0, .null, .null, .int 0, .null, .null, .null, .null, .null, .null, .null, .null]) rfl dX12_init_74 (fun f_194 hf_195 hk_196 => ?_)
  have hf_197 := (hk_196 q_1 (ne_kd hf_180 hf_178 rfl)).trans hf_180
  have hf_198 := (hk_196 q_15 (ne_kd hf_182 hf_178 rfl)).trans hf_182
  have hf_199 := (hk_196 q_32 (ne_kd hf_184 hf_178 rfl)).trans hf_184
  have hf_200 := (hk_196 q_52 (ne_kd hf_186 hf_178 rfl)).trans hf_186
  have hf_201 := (hk_196 q_75 (ne_kd hf_188 hf_178 rfl)).trans hf_188
  have hf_202 := (hk_196 q_109 (ne_kd hf_190 hf_178 rfl)).trans hf_190
  have hf_203 := (hk_196 q_138 (ne_kd hf_192 hf_178 rfl)).trans hf_192
  have hf_204 := (hk_196 q_170 (ne_kd hf_173 hf_178 rfl)).trans hf_173
  refine v_aload_n hC dX12_init_77 rfl ?_
  refine v_sipush hC dX12_init_78 (v := 600) (by decide) ?_
  refine v_newaG hC (t := 1) (ty := .int) (N' := 600) (a0 := (600, .inl (fun _ => 0))) rfl ac_int rfl (fun _ => rfl) (by decide) (by decide) (by decide) (Nat.le_of_ble_eq_true rfl) (Nat.le_of_ble_eq_true rfl) dX12_init_81 (fun q_205 f_206 hq_207 hf_208 hk_209 => ?_)
  obtain ⟨L_212, hs_211⟩ : ∃ L9, L9 = L_177 ++ [q_205] := ⟨_, rfl⟩
  rw [← hs_211]
  have hm_210 : q_205 ∈ L_212 := by rw [hs_211]; exact List.mem_append_right _ List.mem_cons_self
  have hm_214 : h ∈ L_212 := by rw [hs_211]; exact List.mem_append_left _ hm_179
  have hf_213 := (hk_209 h (ne_in hm_179 hq_207)).trans hf_195
  have hm_216 : q_1 ∈ L_212 := by rw [hs_211]; exact List.mem_append_left _ hm_181
  have hf_215 := (hk_209 q_1 (ne_in hm_181 hq_207)).trans hf_197
  have hm_218 : q_15 ∈ L_212 := by rw [hs_211]; exact List.mem_append_left _ hm_183
  have hf_217 := (hk_209 q_15 (ne_in hm_183 hq_207)).trans hf_198
  have hm_220 : q_32 ∈ L_212 := by rw [hs_211]; exact List.mem_append_left _ hm_185
  have hf_219 := (hk_209 q_32 (ne_in hm_185 hq_207)).trans hf_199
  have hm_222 : q_52 ∈ L_212 := by rw [hs_211]; exact List.mem_append_left _ hm_187
  have hf_221 := (hk_209 q_52 (ne_in hm_187 hq_207)).trans hf_200
  have hm_224 : q_75 ∈ L_212 := by rw [hs_211]; exact List.mem_append_left _ hm_189
  have hf_223 := (hk_209 q_75 (ne_in hm_189 hq_207)).trans hf_201
  have hm_226 : q_109 ∈ L_212 := by rw [hs_211]; exact List.mem_append_left _ hm_191
  have hf_225 := (hk_209 q_109 (ne_in hm_191 hq_207)).trans hf_202
  have hm_228 : q_138 ∈ L_212 := by rw [hs_211]; exact List.mem_append_left _ hm_193
  have hf_227 := (hk_209 q_138 (ne_in hm_193 hq_207)).trans hf_203
  have hm_230 : q_170 ∈ L_212 := by rw [hs_211]; exact List.mem_append_left _ hm_175
  have hf_229 := (hk_209 q_170 (ne_in hm_175 hq_207)).trans hf_204
  refine v_widen (k := 9) (n := 12100) (Nat.le_of_ble_eq_true rfl) (Nat.le_of_ble_eq_true rfl) ?_
  refine v_putF hC (by rw [hnm]; rfl) fl_X12_43 hm_214 hf_213 rfl rfl (Nat.le_of_ble_eq_true rfl) (fs' := [.int 0, .ref q_1, .ref q_15, .ref q_32, .ref q_52, .int 0, .ref q_75, .int 0, .int 0, .int 0, .int 0, .int 0, .int 0, .int (-1), .ref q_109, .ref q_138, .ref q_170, .int 0, .ref q_205, .null, .int 0, .null, .null, .null, .null, .null, .null, .null, .null]) rfl dX12_init_83 (fun f_231 hf_232 hk_233 => ?_)
  have hf_234 := (hk_233 q_1 (ne_kd hf_215 hf_213 rfl)).trans hf_215
  have hf_235 := (hk_233 q_15 (ne_kd hf_217 hf_213 rfl)).trans hf_217
  have hf_236 := (hk_233 q_32 (ne_kd hf_219 hf_213 rfl)).trans hf_219
  have hf_237 := (hk_233 q_52 (ne_kd hf_221 hf_213 rfl)).trans hf_221
  have hf_238 := (hk_233 q_75 (ne_kd hf_223 hf_213 rfl)).trans hf_223
  have hf_239 := (hk_233 q_109 (ne_kd hf_225 hf_213 rfl)).trans hf_225
  have hf_240 := (hk_233 q_138 (ne_kd hf_227 hf_213 rfl)).trans hf_227
  have hf_241 := (hk_233 q_170 (ne_kd hf_229 hf_213 rfl)).trans hf_229
  have hf_242 := (hk_233 q_205 (ne_kd hf_208 hf_213 rfl)).trans hf_208
  refine v_aload_n hC dX12_init_86 rfl ?_
  refine v_bipush hC dX12_init_87 (v := 100) (by decide) ?_
  refine v_newaG hC (t := 1) (ty := .int) (N' := 100) (a0 := (100, .inl (fun _ => 0))) rfl ac_int rfl (fun _ => rfl) (by decide) (by decide) (by decide) (Nat.le_of_ble_eq_true rfl) (Nat.le_of_ble_eq_true rfl) dX12_init_89 (fun q_243 f_244 hq_245 hf_246 hk_247 => ?_)
  obtain ⟨L_250, hs_249⟩ : ∃ L9, L9 = L_212 ++ [q_243] := ⟨_, rfl⟩
  rw [← hs_249]
  have hm_248 : q_243 ∈ L_250 := by rw [hs_249]; exact List.mem_append_right _ List.mem_cons_self
  have hm_252 : h ∈ L_250 := by rw [hs_249]; exact List.mem_append_left _ hm_214
  have hf_251 := (hk_247 h (ne_in hm_214 hq_245)).trans hf_232
  have hm_254 : q_1 ∈ L_250 := by rw [hs_249]; exact List.mem_append_left _ hm_216
  have hf_253 := (hk_247 q_1 (ne_in hm_216 hq_245)).trans hf_234
  have hm_256 : q_15 ∈ L_250 := by rw [hs_249]; exact List.mem_append_left _ hm_218
  have hf_255 := (hk_247 q_15 (ne_in hm_218 hq_245)).trans hf_235
  have hm_258 : q_32 ∈ L_250 := by rw [hs_249]; exact List.mem_append_left _ hm_220
  have hf_257 := (hk_247 q_32 (ne_in hm_220 hq_245)).trans hf_236
  have hm_260 : q_52 ∈ L_250 := by rw [hs_249]; exact List.mem_append_left _ hm_222
  have hf_259 := (hk_247 q_52 (ne_in hm_222 hq_245)).trans hf_237
  have hm_262 : q_75 ∈ L_250 := by rw [hs_249]; exact List.mem_append_left _ hm_224
  have hf_261 := (hk_247 q_75 (ne_in hm_224 hq_245)).trans hf_238
  have hm_264 : q_109 ∈ L_250 := by rw [hs_249]; exact List.mem_append_left _ hm_226
  have hf_263 := (hk_247 q_109 (ne_in hm_226 hq_245)).trans hf_239
  have hm_266 : q_138 ∈ L_250 := by rw [hs_249]; exact List.mem_append_left _ hm_228
  have hf_265 := (hk_247 q_138 (ne_in hm_228 hq_245)).trans hf_240
  have hm_268 : q_170 ∈ L_250 := by rw [hs_249]; exact List.mem_append_left _ hm_230
  have hf_267 := (hk_247 q_170 (ne_in hm_230 hq_245)).trans hf_241
  have hm_270 : q_205 ∈ L_250 := by rw [hs_249]; exact List.mem_append_left _ hm_210
  have hf_269 := (hk_247 q_205 (ne_in hm_210 hq_245)).trans hf_242
  refine v_widen (k := 10) (n := 12200) (Nat.le_of_ble_eq_true rfl) (Nat.le_of_ble_eq_true rfl) ?_
  refine v_putF hC (by rw [hnm]; rfl) fl_X12_46 hm_252 hf_251 rfl rfl (Nat.le_of_ble_eq_true rfl) (fs' := [.int 0, .ref q_1, .ref q_15, .ref q_32, .ref q_52, .int 0, .ref q_75, .int 0, .int 0, .int 0, .int 0, .int 0, .int 0, .int (-1), .ref q_109, .ref q_138, .ref q_170, .int 0, .ref q_205, .ref q_243, .int 0, .null, .null, .null, .null, .null, .null, .null, .null]) rfl dX12_init_91 (fun f_271 hf_272 hk_273 => ?_)
  have hf_274 := (hk_273 q_1 (ne_kd hf_253 hf_251 rfl)).trans hf_253
  have hf_275 := (hk_273 q_15 (ne_kd hf_255 hf_251 rfl)).trans hf_255
  have hf_276 := (hk_273 q_32 (ne_kd hf_257 hf_251 rfl)).trans hf_257
  have hf_277 := (hk_273 q_52 (ne_kd hf_259 hf_251 rfl)).trans hf_259
  have hf_278 := (hk_273 q_75 (ne_kd hf_261 hf_251 rfl)).trans hf_261
  have hf_279 := (hk_273 q_109 (ne_kd hf_263 hf_251 rfl)).trans hf_263
  have hf_280 := (hk_273 q_138 (ne_kd hf_265 hf_251 rfl)).trans hf_265
  have hf_281 := (hk_273 q_170 (ne_kd hf_267 hf_251 rfl)).trans hf_267
  have hf_282 := (hk_273 q_205 (ne_kd hf_269 hf_251 rfl)).trans hf_269
  have hf_283 := (hk_273 q_243 (ne_kd hf_246 hf_251 rfl)).trans hf_246
  refine v_aload_n hC dX12_init_94 rfl ?_
  refine v_iconst hC dX12_init_95 (v := (-1)) (by decide) ?_
  refine v_put hC fl_X12_49 hm_252 hf_272 rfl rfl (Nat.le_of_ble_eq_true rfl) (fs' := [.int 0, .ref q_1, .ref q_15, .ref q_32, .ref q_52, .int 0, .ref q_75, .int 0, .int 0, .int 0, .int 0, .int 0, .int 0, .int (-1), .ref q_109, .ref q_138, .ref q_170, .int 0, .ref q_205, .ref q_243, .int (-1), .null, .null, .null, .null, .null, .null, .null, .null]) rfl dX12_init_96 (fun f_284 hf_285 hk_286 => ?_)
  have hf_287 := (hk_286 q_1 (ne_kd hf_274 hf_272 rfl)).trans hf_274
  have hf_288 := (hk_286 q_15 (ne_kd hf_275 hf_272 rfl)).trans hf_275
  have hf_289 := (hk_286 q_32 (ne_kd hf_276 hf_272 rfl)).trans hf_276
  have hf_290 := (hk_286 q_52 (ne_kd hf_277 hf_272 rfl)).trans hf_277
  have hf_291 := (hk_286 q_75 (ne_kd hf_278 hf_272 rfl)).trans hf_278
  have hf_292 := (hk_286 q_109 (ne_kd hf_279 hf_272 rfl)).trans hf_279
  have hf_293 := (hk_286 q_138 (ne_kd hf_280 hf_272 rfl)).trans hf_280
  have hf_294 := (hk_286 q_170 (ne_kd hf_281 hf_272 rfl)).trans hf_281
  have hf_295 := (hk_286 q_205 (ne_kd hf_282 hf_272 rfl)).trans hf_282
  have hf_296 := (hk_286 q_243 (ne_kd hf_283 hf_272 rfl)).trans hf_283
  refine v_aload_n hC dX12_init_99 rfl ?_
  refine v_bipush hC dX12_init_100 (v := 100) (by decide) ?_
  refine v_newaG hC (t := 1) (ty := .int) (N' := 100) (a0 := (100, .inl (fun _ => 0))) rfl ac_int rfl (fun _ => rfl) (by decide) (by decide) (by decide) (Nat.le_of_ble_eq_true rfl) (Nat.le_of_ble_eq_true rfl) dX12_init_102 (fun q_297 f_298 hq_299 hf_300 hk_301 => ?_)
  obtain ⟨L_304, hs_303⟩ : ∃ L9, L9 = L_250 ++ [q_297] := ⟨_, rfl⟩
  rw [← hs_303]
  have hm_302 : q_297 ∈ L_304 := by rw [hs_303]; exact List.mem_append_right _ List.mem_cons_self
  have hm_306 : h ∈ L_304 := by rw [hs_303]; exact List.mem_append_left _ hm_252
  have hf_305 := (hk_301 h (ne_in hm_252 hq_299)).trans hf_285
  have hm_308 : q_1 ∈ L_304 := by rw [hs_303]; exact List.mem_append_left _ hm_254
  have hf_307 := (hk_301 q_1 (ne_in hm_254 hq_299)).trans hf_287
  have hm_310 : q_15 ∈ L_304 := by rw [hs_303]; exact List.mem_append_left _ hm_256
  have hf_309 := (hk_301 q_15 (ne_in hm_256 hq_299)).trans hf_288
  have hm_312 : q_32 ∈ L_304 := by rw [hs_303]; exact List.mem_append_left _ hm_258
  have hf_311 := (hk_301 q_32 (ne_in hm_258 hq_299)).trans hf_289
  have hm_314 : q_52 ∈ L_304 := by rw [hs_303]; exact List.mem_append_left _ hm_260
  have hf_313 := (hk_301 q_52 (ne_in hm_260 hq_299)).trans hf_290
  have hm_316 : q_75 ∈ L_304 := by rw [hs_303]; exact List.mem_append_left _ hm_262
  have hf_315 := (hk_301 q_75 (ne_in hm_262 hq_299)).trans hf_291
  have hm_318 : q_109 ∈ L_304 := by rw [hs_303]; exact List.mem_append_left _ hm_264
  have hf_317 := (hk_301 q_109 (ne_in hm_264 hq_299)).trans hf_292
  have hm_320 : q_138 ∈ L_304 := by rw [hs_303]; exact List.mem_append_left _ hm_266
  have hf_319 := (hk_301 q_138 (ne_in hm_266 hq_299)).trans hf_293
  have hm_322 : q_170 ∈ L_304 := by rw [hs_303]; exact List.mem_append_left _ hm_268
  have hf_321 := (hk_301 q_170 (ne_in hm_268 hq_299)).trans hf_294
  have hm_324 : q_205 ∈ L_304 := by rw [hs_303]; exact List.mem_append_left _ hm_270
  have hf_323 := (hk_301 q_205 (ne_in hm_270 hq_299)).trans hf_295
  have hm_326 : q_243 ∈ L_304 := by rw [hs_303]; exact List.mem_append_left _ hm_248
  have hf_325 := (hk_301 q_243 (ne_in hm_248 hq_299)).trans hf_296
  refine v_widen (k := 11) (n := 12300) (Nat.le_of_ble_eq_true rfl) (Nat.le_of_ble_eq_true rfl) ?_
  refine v_putF hC (by rw [hnm]; rfl) fl_X12_52 hm_306 hf_305 rfl rfl (Nat.le_of_ble_eq_true rfl) (fs' := [.int 0, .ref q_1, .ref q_15, .ref q_32, .ref q_52, .int 0, .ref q_75, .int 0, .int 0, .int 0, .int 0, .int 0, .int 0, .int (-1), .ref q_109, .ref q_138, .ref q_170, .int 0, .ref q_205, .ref q_243, .int (-1), .ref q_297, .null, .null, .null, .null, .null, .null, .null]) rfl dX12_init_104 (fun f_327 hf_328 hk_329 => ?_)
  have hf_330 := (hk_329 q_1 (ne_kd hf_307 hf_305 rfl)).trans hf_307
  have hf_331 := (hk_329 q_15 (ne_kd hf_309 hf_305 rfl)).trans hf_309
  have hf_332 := (hk_329 q_32 (ne_kd hf_311 hf_305 rfl)).trans hf_311
  have hf_333 := (hk_329 q_52 (ne_kd hf_313 hf_305 rfl)).trans hf_313
  have hf_334 := (hk_329 q_75 (ne_kd hf_315 hf_305 rfl)).trans hf_315
  have hf_335 := (hk_329 q_109 (ne_kd hf_317 hf_305 rfl)).trans hf_317
  have hf_336 := (hk_329 q_138 (ne_kd hf_319 hf_305 rfl)).trans hf_319
  have hf_337 := (hk_329 q_170 (ne_kd hf_321 hf_305 rfl)).trans hf_321
  have hf_338 := (hk_329 q_205 (ne_kd hf_323 hf_305 rfl)).trans hf_323
  have hf_339 := (hk_329 q_243 (ne_kd hf_325 hf_305 rfl)).trans hf_325
  have hf_340 := (hk_329 q_297 (ne_kd hf_300 hf_305 rfl)).trans hf_300
  refine v_aload_n hC dX12_init_107 rfl ?_
  refine v_bipush hC dX12_init_108 (v := 8) (by decide) ?_
  refine v_newaG hC (t := 1) (ty := .int) (N' := 8) (a0 := (8, .inl (fun _ => 0))) rfl ac_int rfl (fun _ => rfl) (by decide) (by decide) (by decide) (Nat.le_of_ble_eq_true rfl) (Nat.le_of_ble_eq_true rfl) dX12_init_110 (fun q_341 f_342 hq_343 hf_344 hk_345 => ?_)
  obtain ⟨L_348, hs_347⟩ : ∃ L9, L9 = L_304 ++ [q_341] := ⟨_, rfl⟩
  rw [← hs_347]
  have hm_346 : q_341 ∈ L_348 := by rw [hs_347]; exact List.mem_append_right _ List.mem_cons_self
  have hm_350 : h ∈ L_348 := by rw [hs_347]; exact List.mem_append_left _ hm_306
  have hf_349 := (hk_345 h (ne_in hm_306 hq_343)).trans hf_328
  have hm_352 : q_1 ∈ L_348 := by rw [hs_347]; exact List.mem_append_left _ hm_308
  have hf_351 := (hk_345 q_1 (ne_in hm_308 hq_343)).trans hf_330
  have hm_354 : q_15 ∈ L_348 := by rw [hs_347]; exact List.mem_append_left _ hm_310
  have hf_353 := (hk_345 q_15 (ne_in hm_310 hq_343)).trans hf_331
  have hm_356 : q_32 ∈ L_348 := by rw [hs_347]; exact List.mem_append_left _ hm_312
  have hf_355 := (hk_345 q_32 (ne_in hm_312 hq_343)).trans hf_332
  have hm_358 : q_52 ∈ L_348 := by rw [hs_347]; exact List.mem_append_left _ hm_314
  have hf_357 := (hk_345 q_52 (ne_in hm_314 hq_343)).trans hf_333
  have hm_360 : q_75 ∈ L_348 := by rw [hs_347]; exact List.mem_append_left _ hm_316
  have hf_359 := (hk_345 q_75 (ne_in hm_316 hq_343)).trans hf_334
  have hm_362 : q_109 ∈ L_348 := by rw [hs_347]; exact List.mem_append_left _ hm_318
  have hf_361 := (hk_345 q_109 (ne_in hm_318 hq_343)).trans hf_335
  have hm_364 : q_138 ∈ L_348 := by rw [hs_347]; exact List.mem_append_left _ hm_320
  have hf_363 := (hk_345 q_138 (ne_in hm_320 hq_343)).trans hf_336
  have hm_366 : q_170 ∈ L_348 := by rw [hs_347]; exact List.mem_append_left _ hm_322
  have hf_365 := (hk_345 q_170 (ne_in hm_322 hq_343)).trans hf_337
  have hm_368 : q_205 ∈ L_348 := by rw [hs_347]; exact List.mem_append_left _ hm_324
  have hf_367 := (hk_345 q_205 (ne_in hm_324 hq_343)).trans hf_338
  have hm_370 : q_243 ∈ L_348 := by rw [hs_347]; exact List.mem_append_left _ hm_326
  have hf_369 := (hk_345 q_243 (ne_in hm_326 hq_343)).trans hf_339
  have hm_372 : q_297 ∈ L_348 := by rw [hs_347]; exact List.mem_append_left _ hm_302
  have hf_371 := (hk_345 q_297 (ne_in hm_302 hq_343)).trans hf_340
  refine v_widen (k := 12) (n := 12308) (Nat.le_of_ble_eq_true rfl) (Nat.le_of_ble_eq_true rfl) ?_
  refine v_putF hC (by rw [hnm]; rfl) fl_X12_55 hm_350 hf_349 rfl rfl (Nat.le_of_ble_eq_true rfl) (fs' := [.int 0, .ref q_1, .ref q_15, .ref q_32, .ref q_52, .int 0, .ref q_75, .int 0, .int 0, .int 0, .int 0, .int 0, .int 0, .int (-1), .ref q_109, .ref q_138, .ref q_170, .int 0, .ref q_205, .ref q_243, .int (-1), .ref q_297, .ref q_341, .null, .null, .null, .null, .null, .null]) rfl dX12_init_112 (fun f_373 hf_374 hk_375 => ?_)
  have hf_376 := (hk_375 q_1 (ne_kd hf_351 hf_349 rfl)).trans hf_351
  have hf_377 := (hk_375 q_15 (ne_kd hf_353 hf_349 rfl)).trans hf_353
  have hf_378 := (hk_375 q_32 (ne_kd hf_355 hf_349 rfl)).trans hf_355
  have hf_379 := (hk_375 q_52 (ne_kd hf_357 hf_349 rfl)).trans hf_357
  have hf_380 := (hk_375 q_75 (ne_kd hf_359 hf_349 rfl)).trans hf_359
  have hf_381 := (hk_375 q_109 (ne_kd hf_361 hf_349 rfl)).trans hf_361
  have hf_382 := (hk_375 q_138 (ne_kd hf_363 hf_349 rfl)).trans hf_363
  have hf_383 := (hk_375 q_170 (ne_kd hf_365 hf_349 rfl)).trans hf_365
  have hf_384 := (hk_375 q_205 (ne_kd hf_367 hf_349 rfl)).trans hf_367
  have hf_385 := (hk_375 q_243 (ne_kd hf_369 hf_349 rfl)).trans hf_369
  have hf_386 := (hk_375 q_297 (ne_kd hf_371 hf_349 rfl)).trans hf_371
  have hf_387 := (hk_375 q_341 (ne_kd hf_344 hf_349 rfl)).trans hf_344
  refine v_aload_n hC dX12_init_115 rfl ?_
  refine v_sipush hC dX12_init_116 (v := 256) (by decide) ?_
  refine v_newaG hC (t := 1) (ty := .int) (N' := 256) (a0 := (256, .inl (fun _ => 0))) rfl ac_int rfl (fun _ => rfl) (by decide) (by decide) (by decide) (Nat.le_of_ble_eq_true rfl) (Nat.le_of_ble_eq_true rfl) dX12_init_119 (fun q_388 f_389 hq_390 hf_391 hk_392 => ?_)
  obtain ⟨L_395, hs_394⟩ : ∃ L9, L9 = L_348 ++ [q_388] := ⟨_, rfl⟩
  rw [← hs_394]
  have hm_393 : q_388 ∈ L_395 := by rw [hs_394]; exact List.mem_append_right _ List.mem_cons_self
  have hm_397 : h ∈ L_395 := by rw [hs_394]; exact List.mem_append_left _ hm_350
  have hf_396 := (hk_392 h (ne_in hm_350 hq_390)).trans hf_374
  have hm_399 : q_1 ∈ L_395 := by rw [hs_394]; exact List.mem_append_left _ hm_352
  have hf_398 := (hk_392 q_1 (ne_in hm_352 hq_390)).trans hf_376
  have hm_401 : q_15 ∈ L_395 := by rw [hs_394]; exact List.mem_append_left _ hm_354
  have hf_400 := (hk_392 q_15 (ne_in hm_354 hq_390)).trans hf_377
  have hm_403 : q_32 ∈ L_395 := by rw [hs_394]; exact List.mem_append_left _ hm_356
  have hf_402 := (hk_392 q_32 (ne_in hm_356 hq_390)).trans hf_378
  have hm_405 : q_52 ∈ L_395 := by rw [hs_394]; exact List.mem_append_left _ hm_358
  have hf_404 := (hk_392 q_52 (ne_in hm_358 hq_390)).trans hf_379
  have hm_407 : q_75 ∈ L_395 := by rw [hs_394]; exact List.mem_append_left _ hm_360
  have hf_406 := (hk_392 q_75 (ne_in hm_360 hq_390)).trans hf_380
  have hm_409 : q_109 ∈ L_395 := by rw [hs_394]; exact List.mem_append_left _ hm_362
  have hf_408 := (hk_392 q_109 (ne_in hm_362 hq_390)).trans hf_381
  have hm_411 : q_138 ∈ L_395 := by rw [hs_394]; exact List.mem_append_left _ hm_364
  have hf_410 := (hk_392 q_138 (ne_in hm_364 hq_390)).trans hf_382
  have hm_413 : q_170 ∈ L_395 := by rw [hs_394]; exact List.mem_append_left _ hm_366
  have hf_412 := (hk_392 q_170 (ne_in hm_366 hq_390)).trans hf_383
  have hm_415 : q_205 ∈ L_395 := by rw [hs_394]; exact List.mem_append_left _ hm_368
  have hf_414 := (hk_392 q_205 (ne_in hm_368 hq_390)).trans hf_384
  have hm_417 : q_243 ∈ L_395 := by rw [hs_394]; exact List.mem_append_left _ hm_370
  have hf_416 := (hk_392 q_243 (ne_in hm_370 hq_390)).trans hf_385
  have hm_419 : q_297 ∈ L_395 := by rw [hs_394]; exact List.mem_append_left _ hm_372
  have hf_418 := (hk_392 q_297 (ne_in hm_372 hq_390)).trans hf_386
  have hm_421 : q_341 ∈ L_395 := by rw [hs_394]; exact List.mem_append_left _ hm_346
  have hf_420 := (hk_392 q_341 (ne_in hm_346 hq_390)).trans hf_387
  refine v_widen (k := 13) (n := 12564) (Nat.le_of_ble_eq_true rfl) (Nat.le_of_ble_eq_true rfl) ?_
  refine v_putF hC (by rw [hnm]; rfl) fl_X12_58 hm_397 hf_396 rfl rfl (Nat.le_of_ble_eq_true rfl) (fs' := [.int 0, .ref q_1, .ref q_15, .ref q_32, .ref q_52, .int 0, .ref q_75, .int 0, .int 0, .int 0, .int 0, .int 0, .int 0, .int (-1), .ref q_109, .ref q_138, .ref q_170, .int 0, .ref q_205, .ref q_243, .int (-1), .ref q_297, .ref q_341, .ref q_388, .null, .null, .null, .null, .null]) rfl dX12_init_121 (fun f_422 hf_423 hk_424 => ?_)
  have hf_425 := (hk_424 q_1 (ne_kd hf_398 hf_396 rfl)).trans hf_398
  have hf_426 := (hk_424 q_15 (ne_kd hf_400 hf_396 rfl)).trans hf_400
  have hf_427 := (hk_424 q_32 (ne_kd hf_402 hf_396 rfl)).trans hf_402
  have hf_428 := (hk_424 q_52 (ne_kd hf_404 hf_396 rfl)).trans hf_404
  have hf_429 := (hk_424 q_75 (ne_kd hf_406 hf_396 rfl)).trans hf_406
  have hf_430 := (hk_424 q_109 (ne_kd hf_408 hf_396 rfl)).trans hf_408
  have hf_431 := (hk_424 q_138 (ne_kd hf_410 hf_396 rfl)).trans hf_410
  have hf_432 := (hk_424 q_170 (ne_kd hf_412 hf_396 rfl)).trans hf_412
  have hf_433 := (hk_424 q_205 (ne_kd hf_414 hf_396 rfl)).trans hf_414
  have hf_434 := (hk_424 q_243 (ne_kd hf_416 hf_396 rfl)).trans hf_416
  have hf_435 := (hk_424 q_297 (ne_kd hf_418 hf_396 rfl)).trans hf_418
  have hf_436 := (hk_424 q_341 (ne_kd hf_420 hf_396 rfl)).trans hf_420
  have hf_437 := (hk_424 q_388 (ne_kd hf_391 hf_396 rfl)).trans hf_391
  refine v_aload_n hC dX12_init_124 rfl ?_
  refine v_sipush hC dX12_init_125 (v := 256) (by decide) ?_
  refine v_newaG hC (t := 1) (ty := .int) (N' := 256) (a0 := (256, .inl (fun _ => 0))) rfl ac_int rfl (fun _ => rfl) (by decide) (by decide) (by decide) (Nat.le_of_ble_eq_true rfl) (Nat.le_of_ble_eq_true rfl) dX12_init_128 (fun q_438 f_439 hq_440 hf_441 hk_442 => ?_)
  obtain ⟨L_445, hs_444⟩ : ∃ L9, L9 = L_395 ++ [q_438] := ⟨_, rfl⟩
  rw [← hs_444]
  have hm_443 : q_438 ∈ L_445 := by rw [hs_444]; exact List.mem_append_right _ List.mem_cons_self
  have hm_447 : h ∈ L_445 := by rw [hs_444]; exact List.mem_append_left _ hm_397
  have hf_446 := (hk_442 h (ne_in hm_397 hq_440)).trans hf_423
  have hm_449 : q_1 ∈ L_445 := by rw [hs_444]; exact List.mem_append_left _ hm_399
  have hf_448 := (hk_442 q_1 (ne_in hm_399 hq_440)).trans hf_425
  have hm_451 : q_15 ∈ L_445 := by rw [hs_444]; exact List.mem_append_left _ hm_401
  have hf_450 := (hk_442 q_15 (ne_in hm_401 hq_440)).trans hf_426
  have hm_453 : q_32 ∈ L_445 := by rw [hs_444]; exact List.mem_append_left _ hm_403
  have hf_452 := (hk_442 q_32 (ne_in hm_403 hq_440)).trans hf_427
  have hm_455 : q_52 ∈ L_445 := by rw [hs_444]; exact List.mem_append_left _ hm_405
  have hf_454 := (hk_442 q_52 (ne_in hm_405 hq_440)).trans hf_428
  have hm_457 : q_75 ∈ L_445 := by rw [hs_444]; exact List.mem_append_left _ hm_407
  have hf_456 := (hk_442 q_75 (ne_in hm_407 hq_440)).trans hf_429
  have hm_459 : q_109 ∈ L_445 := by rw [hs_444]; exact List.mem_append_left _ hm_409
  have hf_458 := (hk_442 q_109 (ne_in hm_409 hq_440)).trans hf_430
  have hm_461 : q_138 ∈ L_445 := by rw [hs_444]; exact List.mem_append_left _ hm_411
  have hf_460 := (hk_442 q_138 (ne_in hm_411 hq_440)).trans hf_431
  have hm_463 : q_170 ∈ L_445 := by rw [hs_444]; exact List.mem_append_left _ hm_413
  have hf_462 := (hk_442 q_170 (ne_in hm_413 hq_440)).trans hf_432
  have hm_465 : q_205 ∈ L_445 := by rw [hs_444]; exact List.mem_append_left _ hm_415
  have hf_464 := (hk_442 q_205 (ne_in hm_415 hq_440)).trans hf_433
  have hm_467 : q_243 ∈ L_445 := by rw [hs_444]; exact List.mem_append_left _ hm_417
  have hf_466 := (hk_442 q_243 (ne_in hm_417 hq_440)).trans hf_434
  have hm_469 : q_297 ∈ L_445 := by rw [hs_444]; exact List.mem_append_left _ hm_419
  have hf_468 := (hk_442 q_297 (ne_in hm_419 hq_440)).trans hf_435
  have hm_471 : q_341 ∈ L_445 := by rw [hs_444]; exact List.mem_append_left _ hm_421
  have hf_470 := (hk_442 q_341 (ne_in hm_421 hq_440)).trans hf_436
  have hm_473 : q_388 ∈ L_445 := by rw [hs_444]; exact List.mem_append_left _ hm_393
  have hf_472 := (hk_442 q_388 (ne_in hm_393 hq_440)).trans hf_437
  refine v_widen (k := 14) (n := 12820) (Nat.le_of_ble_eq_true rfl) (Nat.le_of_ble_eq_true rfl) ?_
  refine v_putF hC (by rw [hnm]; rfl) fl_X12_61 hm_447 hf_446 rfl rfl (Nat.le_of_ble_eq_true rfl) (fs' := [.int 0, .ref q_1, .ref q_15, .ref q_32, .ref q_52, .int 0, .ref q_75, .int 0, .int 0, .int 0, .int 0, .int 0, .int 0, .int (-1), .ref q_109, .ref q_138, .ref q_170, .int 0, .ref q_205, .ref q_243, .int (-1), .ref q_297, .ref q_341, .ref q_388, .ref q_438, .null, .null, .null, .null]) rfl dX12_init_130 (fun f_474 hf_475 hk_476 => ?_)
  have hf_477 := (hk_476 q_1 (ne_kd hf_448 hf_446 rfl)).trans hf_448
  have hf_478 := (hk_476 q_15 (ne_kd hf_450 hf_446 rfl)).trans hf_450
  have hf_479 := (hk_476 q_32 (ne_kd hf_452 hf_446 rfl)).trans hf_452
  have hf_480 := (hk_476 q_52 (ne_kd hf_454 hf_446 rfl)).trans hf_454
  have hf_481 := (hk_476 q_75 (ne_kd hf_456 hf_446 rfl)).trans hf_456
  have hf_482 := (hk_476 q_109 (ne_kd hf_458 hf_446 rfl)).trans hf_458
  have hf_483 := (hk_476 q_138 (ne_kd hf_460 hf_446 rfl)).trans hf_460
  have hf_484 := (hk_476 q_170 (ne_kd hf_462 hf_446 rfl)).trans hf_462
  have hf_485 := (hk_476 q_205 (ne_kd hf_464 hf_446 rfl)).trans hf_464
  have hf_486 := (hk_476 q_243 (ne_kd hf_466 hf_446 rfl)).trans hf_466
  have hf_487 := (hk_476 q_297 (ne_kd hf_468 hf_446 rfl)).trans hf_468
  have hf_488 := (hk_476 q_341 (ne_kd hf_470 hf_446 rfl)).trans hf_470
  have hf_489 := (hk_476 q_388 (ne_kd hf_472 hf_446 rfl)).trans hf_472
  have hf_490 := (hk_476 q_438 (ne_kd hf_441 hf_446 rfl)).trans hf_441
  refine v_aload_n hC dX12_init_133 rfl ?_
  refine v_iconst hC dX12_init_134 (v := 4) (by decide) ?_
  refine v_newaG hC (t := 1) (ty := .int) (N' := 4) (a0 := (4, .inl (fun _ => 0))) rfl ac_int rfl (fun _ => rfl) (by decide) (by decide) (by decide) (Nat.le_of_ble_eq_true rfl) (Nat.le_of_ble_eq_true rfl) dX12_init_135 (fun q_491 f_492 hq_493 hf_494 hk_495 => ?_)
  obtain ⟨L_498, hs_497⟩ : ∃ L9, L9 = L_445 ++ [q_491] := ⟨_, rfl⟩
  rw [← hs_497]
  have hm_496 : q_491 ∈ L_498 := by rw [hs_497]; exact List.mem_append_right _ List.mem_cons_self
  have hm_500 : h ∈ L_498 := by rw [hs_497]; exact List.mem_append_left _ hm_447
  have hf_499 := (hk_495 h (ne_in hm_447 hq_493)).trans hf_475
  have hm_502 : q_1 ∈ L_498 := by rw [hs_497]; exact List.mem_append_left _ hm_449
  have hf_501 := (hk_495 q_1 (ne_in hm_449 hq_493)).trans hf_477
  have hm_504 : q_15 ∈ L_498 := by rw [hs_497]; exact List.mem_append_left _ hm_451
  have hf_503 := (hk_495 q_15 (ne_in hm_451 hq_493)).trans hf_478
  have hm_506 : q_32 ∈ L_498 := by rw [hs_497]; exact List.mem_append_left _ hm_453
  have hf_505 := (hk_495 q_32 (ne_in hm_453 hq_493)).trans hf_479
  have hm_508 : q_52 ∈ L_498 := by rw [hs_497]; exact List.mem_append_left _ hm_455
  have hf_507 := (hk_495 q_52 (ne_in hm_455 hq_493)).trans hf_480
  have hm_510 : q_75 ∈ L_498 := by rw [hs_497]; exact List.mem_append_left _ hm_457
  have hf_509 := (hk_495 q_75 (ne_in hm_457 hq_493)).trans hf_481
  have hm_512 : q_109 ∈ L_498 := by rw [hs_497]; exact List.mem_append_left _ hm_459
  have hf_511 := (hk_495 q_109 (ne_in hm_459 hq_493)).trans hf_482
  have hm_514 : q_138 ∈ L_498 := by rw [hs_497]; exact List.mem_append_left _ hm_461
  have hf_513 := (hk_495 q_138 (ne_in hm_461 hq_493)).trans hf_483
  have hm_516 : q_170 ∈ L_498 := by rw [hs_497]; exact List.mem_append_left _ hm_463
  have hf_515 := (hk_495 q_170 (ne_in hm_463 hq_493)).trans hf_484
  have hm_518 : q_205 ∈ L_498 := by rw [hs_497]; exact List.mem_append_left _ hm_465
  have hf_517 := (hk_495 q_205 (ne_in hm_465 hq_493)).trans hf_485
  have hm_520 : q_243 ∈ L_498 := by rw [hs_497]; exact List.mem_append_left _ hm_467
  have hf_519 := (hk_495 q_243 (ne_in hm_467 hq_493)).trans hf_486
  have hm_522 : q_297 ∈ L_498 := by rw [hs_497]; exact List.mem_append_left _ hm_469
  have hf_521 := (hk_495 q_297 (ne_in hm_469 hq_493)).trans hf_487
  have hm_524 : q_341 ∈ L_498 := by rw [hs_497]; exact List.mem_append_left _ hm_471
  have hf_523 := (hk_495 q_341 (ne_in hm_471 hq_493)).trans hf_488
  have hm_526 : q_388 ∈ L_498 := by rw [hs_497]; exact List.mem_append_left _ hm_473
  have hf_525 := (hk_495 q_388 (ne_in hm_473 hq_493)).trans hf_489
  have hm_528 : q_438 ∈ L_498 := by rw [hs_497]; exact List.mem_append_left _ hm_443
  have hf_527 := (hk_495 q_438 (ne_in hm_443 hq_493)).trans hf_490
  refine v_widen (k := 15) (n := 12824) (Nat.le_of_ble_eq_true rfl) (Nat.le_of_ble_eq_true rfl) ?_
  refine v_dup hC dX12_init_137 rfl ?_
  refine v_iconst hC dX12_init_138 (v := 0) (by decide) ?_
  refine v_iconst hC dX12_init_139 (v := (-1)) (by decide) ?_
  refine v_iast hC hm_496 hf_494 (by unfold vp_in; decide) dX12_init_140 (fun f_529 hf_530 hk_531 => ?_)
  have hf_530 : f_529 q_491 = aI E 4 (upd (fun _ => 0) 0 (-1)) := hf_530
  have hf_532 := (hk_531 h (ne_kd hf_499 hf_494 rfl)).trans hf_499
  have hf_533 := (hk_531 q_1 (ne_kd hf_501 hf_494 rfl)).trans hf_501
  have hf_534 := (hk_531 q_15 (ne_kd hf_503 hf_494 rfl)).trans hf_503
  have hf_535 := (hk_531 q_32 (ne_kd hf_505 hf_494 rfl)).trans hf_505
  have hf_536 := (hk_531 q_52 (ne_kd hf_507 hf_494 rfl)).trans hf_507
  have hf_537 := (hk_531 q_75 (ne_kd hf_509 hf_494 rfl)).trans hf_509
  have hf_538 := (hk_531 q_109 (ne_kd hf_511 hf_494 rfl)).trans hf_511
  have hf_539 := (hk_531 q_138 (ne_kd hf_513 hf_494 rfl)).trans hf_513
  have hf_540 := (hk_531 q_170 (ne_kd hf_515 hf_494 rfl)).trans hf_515
  have hf_541 := (hk_531 q_205 (ne_kd hf_517 hf_494 rfl)).trans hf_517
  have hf_542 := (hk_531 q_243 (ne_kd hf_519 hf_494 rfl)).trans hf_519
  have hf_543 := (hk_531 q_297 (ne_kd hf_521 hf_494 rfl)).trans hf_521
  have hf_544 := (hk_531 q_341 (ne_kd hf_523 hf_494 rfl)).trans hf_523
  have hf_545 := (hk_531 q_388 (ne_kd hf_525 hf_494 rfl)).trans hf_525
  have hf_546 := (hk_531 q_438 (ne_kd hf_527 hf_494 rfl)).trans hf_527
  refine v_dup hC dX12_init_141 rfl ?_
  refine v_iconst hC dX12_init_142 (v := 1) (by decide) ?_
  refine v_iconst hC dX12_init_143 (v := (-1)) (by decide) ?_
  refine v_iast hC hm_496 hf_530 (by unfold vp_in; decide) dX12_init_144 (fun f_547 hf_548 hk_549 => ?_)
  have hf_548 : f_547 q_491 = aI E 4 (upd (upd (fun _ => 0) 0 (-1)) 1 (-1)) := hf_548
  have hf_550 := (hk_549 h (ne_kd hf_532 hf_530 rfl)).trans hf_532
  have hf_551 := (hk_549 q_1 (ne_kd hf_533 hf_530 rfl)).trans hf_533
  have hf_552 := (hk_549 q_15 (ne_kd hf_534 hf_530 rfl)).trans hf_534
  have hf_553 := (hk_549 q_32 (ne_kd hf_535 hf_530 rfl)).trans hf_535
  have hf_554 := (hk_549 q_52 (ne_kd hf_536 hf_530 rfl)).trans hf_536
  have hf_555 := (hk_549 q_75 (ne_kd hf_537 hf_530 rfl)).trans hf_537
  have hf_556 := (hk_549 q_109 (ne_kd hf_538 hf_530 rfl)).trans hf_538
  have hf_557 := (hk_549 q_138 (ne_kd hf_539 hf_530 rfl)).trans hf_539
  have hf_558 := (hk_549 q_170 (ne_kd hf_540 hf_530 rfl)).trans hf_540
  have hf_559 := (hk_549 q_205 (ne_kd hf_541 hf_530 rfl)).trans hf_541
  have hf_560 := (hk_549 q_243 (ne_kd hf_542 hf_530 rfl)).trans hf_542
  have hf_561 := (hk_549 q_297 (ne_kd hf_543 hf_530 rfl)).trans hf_543
  have hf_562 := (hk_549 q_341 (ne_kd hf_544 hf_530 rfl)).trans hf_544
  have hf_563 := (hk_549 q_388 (ne_kd hf_545 hf_530 rfl)).trans hf_545
  have hf_564 := (hk_549 q_438 (ne_kd hf_546 hf_530 rfl)).trans hf_546
  refine v_dup hC dX12_init_145 rfl ?_
  refine v_iconst hC dX12_init_146 (v := 2) (by decide) ?_
  refine v_iconst hC dX12_init_147 (v := (-1)) (by decide) ?_
  refine v_iast hC hm_496 hf_548 (by unfold vp_in; decide) dX12_init_148 (fun f_565 hf_566 hk_567 => ?_)
  have hf_566 : f_565 q_491 = aI E 4 (upd (upd (upd (fun _ => 0) 0 (-1)) 1 (-1)) 2 (-1)) := hf_566
  have hf_568 := (hk_567 h (ne_kd hf_550 hf_548 rfl)).trans hf_550
  have hf_569 := (hk_567 q_1 (ne_kd hf_551 hf_548 rfl)).trans hf_551
  have hf_570 := (hk_567 q_15 (ne_kd hf_552 hf_548 rfl)).trans hf_552
  have hf_571 := (hk_567 q_32 (ne_kd hf_553 hf_548 rfl)).trans hf_553
  have hf_572 := (hk_567 q_52 (ne_kd hf_554 hf_548 rfl)).trans hf_554
  have hf_573 := (hk_567 q_75 (ne_kd hf_555 hf_548 rfl)).trans hf_555
  have hf_574 := (hk_567 q_109 (ne_kd hf_556 hf_548 rfl)).trans hf_556
  have hf_575 := (hk_567 q_138 (ne_kd hf_557 hf_548 rfl)).trans hf_557
  have hf_576 := (hk_567 q_170 (ne_kd hf_558 hf_548 rfl)).trans hf_558
  have hf_577 := (hk_567 q_205 (ne_kd hf_559 hf_548 rfl)).trans hf_559
  have hf_578 := (hk_567 q_243 (ne_kd hf_560 hf_548 rfl)).trans hf_560
  have hf_579 := (hk_567 q_297 (ne_kd hf_561 hf_548 rfl)).trans hf_561
  have hf_580 := (hk_567 q_341 (ne_kd hf_562 hf_548 rfl)).trans hf_562
  have hf_581 := (hk_567 q_388 (ne_kd hf_563 hf_548 rfl)).trans hf_563
  have hf_582 := (hk_567 q_438 (ne_kd hf_564 hf_548 rfl)).trans hf_564
  refine v_dup hC dX12_init_149 rfl ?_
  refine v_iconst hC dX12_init_150 (v := 3) (by decide) ?_
  refine v_iconst hC dX12_init_151 (v := (-1)) (by decide) ?_
  refine v_iast hC hm_496 hf_566 (by unfold vp_in; decide) dX12_init_152 (fun f_583 hf_584 hk_585 => ?_)
  have hf_584 : f_583 q_491 = aI E 4 (upd (upd (upd (upd (fun _ => 0) 0 (-1)) 1 (-1)) 2 (-1)) 3 (-1)) := hf_584
  have hf_586 := (hk_585 h (ne_kd hf_568 hf_566 rfl)).trans hf_568
  have hf_587 := (hk_585 q_1 (ne_kd hf_569 hf_566 rfl)).trans hf_569
  have hf_588 := (hk_585 q_15 (ne_kd hf_570 hf_566 rfl)).trans hf_570
  have hf_589 := (hk_585 q_32 (ne_kd hf_571 hf_566 rfl)).trans hf_571
  have hf_590 := (hk_585 q_52 (ne_kd hf_572 hf_566 rfl)).trans hf_572
  have hf_591 := (hk_585 q_75 (ne_kd hf_573 hf_566 rfl)).trans hf_573
  have hf_592 := (hk_585 q_109 (ne_kd hf_574 hf_566 rfl)).trans hf_574
  have hf_593 := (hk_585 q_138 (ne_kd hf_575 hf_566 rfl)).trans hf_575
  have hf_594 := (hk_585 q_170 (ne_kd hf_576 hf_566 rfl)).trans hf_576
  have hf_595 := (hk_585 q_205 (ne_kd hf_577 hf_566 rfl)).trans hf_577
  have hf_596 := (hk_585 q_243 (ne_kd hf_578 hf_566 rfl)).trans hf_578
  have hf_597 := (hk_585 q_297 (ne_kd hf_579 hf_566 rfl)).trans hf_579
  have hf_598 := (hk_585 q_341 (ne_kd hf_580 hf_566 rfl)).trans hf_580
  have hf_599 := (hk_585 q_388 (ne_kd hf_581 hf_566 rfl)).trans hf_581
  have hf_600 := (hk_585 q_438 (ne_kd hf_582 hf_566 rfl)).trans hf_582
  refine v_putF hC (by rw [hnm]; rfl) fl_X12_64 hm_500 hf_586 rfl rfl (Nat.le_of_ble_eq_true rfl) (fs' := [.int 0, .ref q_1, .ref q_15, .ref q_32, .ref q_52, .int 0, .ref q_75, .int 0, .int 0, .int 0, .int 0, .int 0, .int 0, .int (-1), .ref q_109, .ref q_138, .ref q_170, .int 0, .ref q_205, .ref q_243, .int (-1), .ref q_297, .ref q_341, .ref q_388, .ref q_438, .ref q_491, .null, .null, .null]) rfl dX12_init_153 (fun f_601 hf_602 hk_603 => ?_)
  have hf_604 := (hk_603 q_1 (ne_kd hf_587 hf_586 rfl)).trans hf_587
  have hf_605 := (hk_603 q_15 (ne_kd hf_588 hf_586 rfl)).trans hf_588
  have hf_606 := (hk_603 q_32 (ne_kd hf_589 hf_586 rfl)).trans hf_589
  have hf_607 := (hk_603 q_52 (ne_kd hf_590 hf_586 rfl)).trans hf_590
  have hf_608 := (hk_603 q_75 (ne_kd hf_591 hf_586 rfl)).trans hf_591
  have hf_609 := (hk_603 q_109 (ne_kd hf_592 hf_586 rfl)).trans hf_592
  have hf_610 := (hk_603 q_138 (ne_kd hf_593 hf_586 rfl)).trans hf_593
  have hf_611 := (hk_603 q_170 (ne_kd hf_594 hf_586 rfl)).trans hf_594
  have hf_612 := (hk_603 q_205 (ne_kd hf_595 hf_586 rfl)).trans hf_595
  have hf_613 := (hk_603 q_243 (ne_kd hf_596 hf_586 rfl)).trans hf_596
  have hf_614 := (hk_603 q_297 (ne_kd hf_597 hf_586 rfl)).trans hf_597
  have hf_615 := (hk_603 q_341 (ne_kd hf_598 hf_586 rfl)).trans hf_598
  have hf_616 := (hk_603 q_388 (ne_kd hf_599 hf_586 rfl)).trans hf_599
  have hf_617 := (hk_603 q_438 (ne_kd hf_600 hf_586 rfl)).trans hf_600
  have hf_618 := (hk_603 q_491 (ne_kd hf_584 hf_586 rfl)).trans hf_584
  refine v_aload_n hC dX12_init_156 rfl ?_
  refine v_iconst hC dX12_init_157 (v := 4) (by decide) ?_
  refine v_newaG hC (t := 1) (ty := .int) (N' := 4) (a0 := (4, .inl (fun _ => 0))) rfl ac_int rfl (fun _ => rfl) (by decide) (by decide) (by decide) (Nat.le_of_ble_eq_true rfl) (Nat.le_of_ble_eq_true rfl) dX12_init_158 (fun q_619 f_620 hq_621 hf_622 hk_623 => ?_)
  obtain ⟨L_626, hs_625⟩ : ∃ L9, L9 = L_498 ++ [q_619] := ⟨_, rfl⟩
  rw [← hs_625]
  have hm_624 : q_619 ∈ L_626 := by rw [hs_625]; exact List.mem_append_right _ List.mem_cons_self
  have hm_628 : h ∈ L_626 := by rw [hs_625]; exact List.mem_append_left _ hm_500
  have hf_627 := (hk_623 h (ne_in hm_500 hq_621)).trans hf_602
  have hm_630 : q_1 ∈ L_626 := by rw [hs_625]; exact List.mem_append_left _ hm_502
  have hf_629 := (hk_623 q_1 (ne_in hm_502 hq_621)).trans hf_604
  have hm_632 : q_15 ∈ L_626 := by rw [hs_625]; exact List.mem_append_left _ hm_504
  have hf_631 := (hk_623 q_15 (ne_in hm_504 hq_621)).trans hf_605
  have hm_634 : q_32 ∈ L_626 := by rw [hs_625]; exact List.mem_append_left _ hm_506
  have hf_633 := (hk_623 q_32 (ne_in hm_506 hq_621)).trans hf_606
  have hm_636 : q_52 ∈ L_626 := by rw [hs_625]; exact List.mem_append_left _ hm_508
  have hf_635 := (hk_623 q_52 (ne_in hm_508 hq_621)).trans hf_607
  have hm_638 : q_75 ∈ L_626 := by rw [hs_625]; exact List.mem_append_left _ hm_510
  have hf_637 := (hk_623 q_75 (ne_in hm_510 hq_621)).trans hf_608
  have hm_640 : q_109 ∈ L_626 := by rw [hs_625]; exact List.mem_append_left _ hm_512
  have hf_639 := (hk_623 q_109 (ne_in hm_512 hq_621)).trans hf_609
  have hm_642 : q_138 ∈ L_626 := by rw [hs_625]; exact List.mem_append_left _ hm_514
  have hf_641 := (hk_623 q_138 (ne_in hm_514 hq_621)).trans hf_610
  have hm_644 : q_170 ∈ L_626 := by rw [hs_625]; exact List.mem_append_left _ hm_516
  have hf_643 := (hk_623 q_170 (ne_in hm_516 hq_621)).trans hf_611
  have hm_646 : q_205 ∈ L_626 := by rw [hs_625]; exact List.mem_append_left _ hm_518
  have hf_645 := (hk_623 q_205 (ne_in hm_518 hq_621)).trans hf_612
  have hm_648 : q_243 ∈ L_626 := by rw [hs_625]; exact List.mem_append_left _ hm_520
  have hf_647 := (hk_623 q_243 (ne_in hm_520 hq_621)).trans hf_613
  have hm_650 : q_297 ∈ L_626 := by rw [hs_625]; exact List.mem_append_left _ hm_522
  have hf_649 := (hk_623 q_297 (ne_in hm_522 hq_621)).trans hf_614
  have hm_652 : q_341 ∈ L_626 := by rw [hs_625]; exact List.mem_append_left _ hm_524
  have hf_651 := (hk_623 q_341 (ne_in hm_524 hq_621)).trans hf_615
  have hm_654 : q_388 ∈ L_626 := by rw [hs_625]; exact List.mem_append_left _ hm_526
  have hf_653 := (hk_623 q_388 (ne_in hm_526 hq_621)).trans hf_616
  have hm_656 : q_438 ∈ L_626 := by rw [hs_625]; exact List.mem_append_left _ hm_528
  have hf_655 := (hk_623 q_438 (ne_in hm_528 hq_621)).trans hf_617
  have hm_658 : q_491 ∈ L_626 := by rw [hs_625]; exact List.mem_append_left _ hm_496
  have hf_657 := (hk_623 q_491 (ne_in hm_496 hq_621)).trans hf_618
  refine v_widen (k := 16) (n := 12828) (Nat.le_of_ble_eq_true rfl) (Nat.le_of_ble_eq_true rfl) ?_
  refine v_putF hC (by rw [hnm]; rfl) fl_X12_67 hm_628 hf_627 rfl rfl (Nat.le_of_ble_eq_true rfl) (fs' := [.int 0, .ref q_1, .ref q_15, .ref q_32, .ref q_52, .int 0, .ref q_75, .int 0, .int 0, .int 0, .int 0, .int 0, .int 0, .int (-1), .ref q_109, .ref q_138, .ref q_170, .int 0, .ref q_205, .ref q_243, .int (-1), .ref q_297, .ref q_341, .ref q_388, .ref q_438, .ref q_491, .ref q_619, .null, .null]) rfl dX12_init_160 (fun f_659 hf_660 hk_661 => ?_)
  have hf_662 := (hk_661 q_1 (ne_kd hf_629 hf_627 rfl)).trans hf_629
  have hf_663 := (hk_661 q_15 (ne_kd hf_631 hf_627 rfl)).trans hf_631
  have hf_664 := (hk_661 q_32 (ne_kd hf_633 hf_627 rfl)).trans hf_633
  have hf_665 := (hk_661 q_52 (ne_kd hf_635 hf_627 rfl)).trans hf_635
  have hf_666 := (hk_661 q_75 (ne_kd hf_637 hf_627 rfl)).trans hf_637
  have hf_667 := (hk_661 q_109 (ne_kd hf_639 hf_627 rfl)).trans hf_639
  have hf_668 := (hk_661 q_138 (ne_kd hf_641 hf_627 rfl)).trans hf_641
  have hf_669 := (hk_661 q_170 (ne_kd hf_643 hf_627 rfl)).trans hf_643
  have hf_670 := (hk_661 q_205 (ne_kd hf_645 hf_627 rfl)).trans hf_645
  have hf_671 := (hk_661 q_243 (ne_kd hf_647 hf_627 rfl)).trans hf_647
  have hf_672 := (hk_661 q_297 (ne_kd hf_649 hf_627 rfl)).trans hf_649
  have hf_673 := (hk_661 q_341 (ne_kd hf_651 hf_627 rfl)).trans hf_651
  have hf_674 := (hk_661 q_388 (ne_kd hf_653 hf_627 rfl)).trans hf_653
  have hf_675 := (hk_661 q_438 (ne_kd hf_655 hf_627 rfl)).trans hf_655
  have hf_676 := (hk_661 q_491 (ne_kd hf_657 hf_627 rfl)).trans hf_657
  have hf_677 := (hk_661 q_619 (ne_kd hf_622 hf_627 rfl)).trans hf_622
  refine v_aload_n hC dX12_init_163 rfl ?_
  refine v_sipush hC dX12_init_164 (v := 240) (by decide) ?_
  refine v_newaG hC (t := 2) (ty := .long) (N' := 240) (a0 := (240, .inr (.inl (fun _ => 0)))) rfl ac_long rfl (fun _ => rfl) (by decide) (by decide) (by decide) (Nat.le_of_ble_eq_true rfl) (Nat.le_of_ble_eq_true rfl) dX12_init_167 (fun q_678 f_679 hq_680 hf_681 hk_682 => ?_)
  obtain ⟨L_685, hs_684⟩ : ∃ L9, L9 = L_626 ++ [q_678] := ⟨_, rfl⟩
  rw [← hs_684]
  have hm_683 : q_678 ∈ L_685 := by rw [hs_684]; exact List.mem_append_right _ List.mem_cons_self
  have hm_687 : h ∈ L_685 := by rw [hs_684]; exact List.mem_append_left _ hm_628
  have hf_686 := (hk_682 h (ne_in hm_628 hq_680)).trans hf_660
  have hm_689 : q_1 ∈ L_685 := by rw [hs_684]; exact List.mem_append_left _ hm_630
  have hf_688 := (hk_682 q_1 (ne_in hm_630 hq_680)).trans hf_662
  have hm_691 : q_15 ∈ L_685 := by rw [hs_684]; exact List.mem_append_left _ hm_632
  have hf_690 := (hk_682 q_15 (ne_in hm_632 hq_680)).trans hf_663
  have hm_693 : q_32 ∈ L_685 := by rw [hs_684]; exact List.mem_append_left _ hm_634
  have hf_692 := (hk_682 q_32 (ne_in hm_634 hq_680)).trans hf_664
  have hm_695 : q_52 ∈ L_685 := by rw [hs_684]; exact List.mem_append_left _ hm_636
  have hf_694 := (hk_682 q_52 (ne_in hm_636 hq_680)).trans hf_665
  have hm_697 : q_75 ∈ L_685 := by rw [hs_684]; exact List.mem_append_left _ hm_638
  have hf_696 := (hk_682 q_75 (ne_in hm_638 hq_680)).trans hf_666
  have hm_699 : q_109 ∈ L_685 := by rw [hs_684]; exact List.mem_append_left _ hm_640
  have hf_698 := (hk_682 q_109 (ne_in hm_640 hq_680)).trans hf_667
  have hm_701 : q_138 ∈ L_685 := by rw [hs_684]; exact List.mem_append_left _ hm_642
  have hf_700 := (hk_682 q_138 (ne_in hm_642 hq_680)).trans hf_668
  have hm_703 : q_170 ∈ L_685 := by rw [hs_684]; exact List.mem_append_left _ hm_644
  have hf_702 := (hk_682 q_170 (ne_in hm_644 hq_680)).trans hf_669
  have hm_705 : q_205 ∈ L_685 := by rw [hs_684]; exact List.mem_append_left _ hm_646
  have hf_704 := (hk_682 q_205 (ne_in hm_646 hq_680)).trans hf_670
  have hm_707 : q_243 ∈ L_685 := by rw [hs_684]; exact List.mem_append_left _ hm_648
  have hf_706 := (hk_682 q_243 (ne_in hm_648 hq_680)).trans hf_671
  have hm_709 : q_297 ∈ L_685 := by rw [hs_684]; exact List.mem_append_left _ hm_650
  have hf_708 := (hk_682 q_297 (ne_in hm_650 hq_680)).trans hf_672
  have hm_711 : q_341 ∈ L_685 := by rw [hs_684]; exact List.mem_append_left _ hm_652
  have hf_710 := (hk_682 q_341 (ne_in hm_652 hq_680)).trans hf_673
  have hm_713 : q_388 ∈ L_685 := by rw [hs_684]; exact List.mem_append_left _ hm_654
  have hf_712 := (hk_682 q_388 (ne_in hm_654 hq_680)).trans hf_674
  have hm_715 : q_438 ∈ L_685 := by rw [hs_684]; exact List.mem_append_left _ hm_656
  have hf_714 := (hk_682 q_438 (ne_in hm_656 hq_680)).trans hf_675
  have hm_717 : q_491 ∈ L_685 := by rw [hs_684]; exact List.mem_append_left _ hm_658
  have hf_716 := (hk_682 q_491 (ne_in hm_658 hq_680)).trans hf_676
  have hm_719 : q_619 ∈ L_685 := by rw [hs_684]; exact List.mem_append_left _ hm_624
  have hf_718 := (hk_682 q_619 (ne_in hm_624 hq_680)).trans hf_677
  refine v_widen (k := 17) (n := 13068) (Nat.le_of_ble_eq_true rfl) (Nat.le_of_ble_eq_true rfl) ?_
  refine v_putF hC (by rw [hnm]; rfl) fl_X12_70 hm_687 hf_686 rfl rfl (Nat.le_of_ble_eq_true rfl) (fs' := [.int 0, .ref q_1, .ref q_15, .ref q_32, .ref q_52, .int 0, .ref q_75, .int 0, .int 0, .int 0, .int 0, .int 0, .int 0, .int (-1), .ref q_109, .ref q_138, .ref q_170, .int 0, .ref q_205, .ref q_243, .int (-1), .ref q_297, .ref q_341, .ref q_388, .ref q_438, .ref q_491, .ref q_619, .ref q_678, .null]) rfl dX12_init_169 (fun f_720 hf_721 hk_722 => ?_)
  have hf_723 := (hk_722 q_1 (ne_kd hf_688 hf_686 rfl)).trans hf_688
  have hf_724 := (hk_722 q_15 (ne_kd hf_690 hf_686 rfl)).trans hf_690
  have hf_725 := (hk_722 q_32 (ne_kd hf_692 hf_686 rfl)).trans hf_692
  have hf_726 := (hk_722 q_52 (ne_kd hf_694 hf_686 rfl)).trans hf_694
  have hf_727 := (hk_722 q_75 (ne_kd hf_696 hf_686 rfl)).trans hf_696
  have hf_728 := (hk_722 q_109 (ne_kd hf_698 hf_686 rfl)).trans hf_698
  have hf_729 := (hk_722 q_138 (ne_kd hf_700 hf_686 rfl)).trans hf_700
  have hf_730 := (hk_722 q_170 (ne_kd hf_702 hf_686 rfl)).trans hf_702
  have hf_731 := (hk_722 q_205 (ne_kd hf_704 hf_686 rfl)).trans hf_704
  have hf_732 := (hk_722 q_243 (ne_kd hf_706 hf_686 rfl)).trans hf_706
  have hf_733 := (hk_722 q_297 (ne_kd hf_708 hf_686 rfl)).trans hf_708
  have hf_734 := (hk_722 q_341 (ne_kd hf_710 hf_686 rfl)).trans hf_710
  have hf_735 := (hk_722 q_388 (ne_kd hf_712 hf_686 rfl)).trans hf_712
  have hf_736 := (hk_722 q_438 (ne_kd hf_714 hf_686 rfl)).trans hf_714
  have hf_737 := (hk_722 q_491 (ne_kd hf_716 hf_686 rfl)).trans hf_716
  have hf_738 := (hk_722 q_619 (ne_kd hf_718 hf_686 rfl)).trans hf_718
  have hf_739 := (hk_722 q_678 (ne_kd hf_681 hf_686 rfl)).trans hf_681
  refine v_aload_n hC dX12_init_172 rfl ?_
  refine v_bipush hC dX12_init_173 (v := 60) (by decide) ?_
  refine v_newaG hC (t := 2) (ty := .long) (N' := 60) (a0 := (60, .inr (.inl (fun _ => 0)))) rfl ac_long rfl (fun _ => rfl) (by decide) (by decide) (by decide) (Nat.le_of_ble_eq_true rfl) (Nat.le_of_ble_eq_true rfl) dX12_init_175 (fun q_740 f_741 hq_742 hf_743 hk_744 => ?_)
  obtain ⟨L_747, hs_746⟩ : ∃ L9, L9 = L_685 ++ [q_740] := ⟨_, rfl⟩
  rw [← hs_746]
  have hm_745 : q_740 ∈ L_747 := by rw [hs_746]; exact List.mem_append_right _ List.mem_cons_self
  have hm_749 : h ∈ L_747 := by rw [hs_746]; exact List.mem_append_left _ hm_687
  have hf_748 := (hk_744 h (ne_in hm_687 hq_742)).trans hf_721
  have hm_751 : q_1 ∈ L_747 := by rw [hs_746]; exact List.mem_append_left _ hm_689
  have hf_750 := (hk_744 q_1 (ne_in hm_689 hq_742)).trans hf_723
  have hm_753 : q_15 ∈ L_747 := by rw [hs_746]; exact List.mem_append_left _ hm_691
  have hf_752 := (hk_744 q_15 (ne_in hm_691 hq_742)).trans hf_724
  have hm_755 : q_32 ∈ L_747 := by rw [hs_746]; exact List.mem_append_left _ hm_693
  have hf_754 := (hk_744 q_32 (ne_in hm_693 hq_742)).trans hf_725
  have hm_757 : q_52 ∈ L_747 := by rw [hs_746]; exact List.mem_append_left _ hm_695
  have hf_756 := (hk_744 q_52 (ne_in hm_695 hq_742)).trans hf_726
  have hm_759 : q_75 ∈ L_747 := by rw [hs_746]; exact List.mem_append_left _ hm_697
  have hf_758 := (hk_744 q_75 (ne_in hm_697 hq_742)).trans hf_727
  have hm_761 : q_109 ∈ L_747 := by rw [hs_746]; exact List.mem_append_left _ hm_699
  have hf_760 := (hk_744 q_109 (ne_in hm_699 hq_742)).trans hf_728
  have hm_763 : q_138 ∈ L_747 := by rw [hs_746]; exact List.mem_append_left _ hm_701
  have hf_762 := (hk_744 q_138 (ne_in hm_701 hq_742)).trans hf_729
  have hm_765 : q_170 ∈ L_747 := by rw [hs_746]; exact List.mem_append_left _ hm_703
  have hf_764 := (hk_744 q_170 (ne_in hm_703 hq_742)).trans hf_730
  have hm_767 : q_205 ∈ L_747 := by rw [hs_746]; exact List.mem_append_left _ hm_705
  have hf_766 := (hk_744 q_205 (ne_in hm_705 hq_742)).trans hf_731
  have hm_769 : q_243 ∈ L_747 := by rw [hs_746]; exact List.mem_append_left _ hm_707
  have hf_768 := (hk_744 q_243 (ne_in hm_707 hq_742)).trans hf_732
  have hm_771 : q_297 ∈ L_747 := by rw [hs_746]; exact List.mem_append_left _ hm_709
  have hf_770 := (hk_744 q_297 (ne_in hm_709 hq_742)).trans hf_733
  have hm_773 : q_341 ∈ L_747 := by rw [hs_746]; exact List.mem_append_left _ hm_711
  have hf_772 := (hk_744 q_341 (ne_in hm_711 hq_742)).trans hf_734
  have hm_775 : q_388 ∈ L_747 := by rw [hs_746]; exact List.mem_append_left _ hm_713
  have hf_774 := (hk_744 q_388 (ne_in hm_713 hq_742)).trans hf_735
  have hm_777 : q_438 ∈ L_747 := by rw [hs_746]; exact List.mem_append_left _ hm_715
  have hf_776 := (hk_744 q_438 (ne_in hm_715 hq_742)).trans hf_736
  have hm_779 : q_491 ∈ L_747 := by rw [hs_746]; exact List.mem_append_left _ hm_717
  have hf_778 := (hk_744 q_491 (ne_in hm_717 hq_742)).trans hf_737
  have hm_781 : q_619 ∈ L_747 := by rw [hs_746]; exact List.mem_append_left _ hm_719
  have hf_780 := (hk_744 q_619 (ne_in hm_719 hq_742)).trans hf_738
  have hm_783 : q_678 ∈ L_747 := by rw [hs_746]; exact List.mem_append_left _ hm_683
  have hf_782 := (hk_744 q_678 (ne_in hm_683 hq_742)).trans hf_739
  refine v_widen (k := 18) (n := 13128) (Nat.le_of_ble_eq_true rfl) (Nat.le_of_ble_eq_true rfl) ?_
  refine v_putF hC (by rw [hnm]; rfl) fl_X12_74 hm_749 hf_748 rfl rfl (Nat.le_of_ble_eq_true rfl) (fs' := [.int 0, .ref q_1, .ref q_15, .ref q_32, .ref q_52, .int 0, .ref q_75, .int 0, .int 0, .int 0, .int 0, .int 0, .int 0, .int (-1), .ref q_109, .ref q_138, .ref q_170, .int 0, .ref q_205, .ref q_243, .int (-1), .ref q_297, .ref q_341, .ref q_388, .ref q_438, .ref q_491, .ref q_619, .ref q_678, .ref q_740]) rfl dX12_init_177 (fun f_784 hf_785 hk_786 => ?_)
  have hf_787 := (hk_786 q_1 (ne_kd hf_750 hf_748 rfl)).trans hf_750
  have hf_788 := (hk_786 q_15 (ne_kd hf_752 hf_748 rfl)).trans hf_752
  have hf_789 := (hk_786 q_32 (ne_kd hf_754 hf_748 rfl)).trans hf_754
  have hf_790 := (hk_786 q_52 (ne_kd hf_756 hf_748 rfl)).trans hf_756
  have hf_791 := (hk_786 q_75 (ne_kd hf_758 hf_748 rfl)).trans hf_758
  have hf_792 := (hk_786 q_109 (ne_kd hf_760 hf_748 rfl)).trans hf_760
  have hf_793 := (hk_786 q_138 (ne_kd hf_762 hf_748 rfl)).trans hf_762
  have hf_794 := (hk_786 q_170 (ne_kd hf_764 hf_748 rfl)).trans hf_764
  have hf_795 := (hk_786 q_205 (ne_kd hf_766 hf_748 rfl)).trans hf_766
  have hf_796 := (hk_786 q_243 (ne_kd hf_768 hf_748 rfl)).trans hf_768
  have hf_797 := (hk_786 q_297 (ne_kd hf_770 hf_748 rfl)).trans hf_770
  have hf_798 := (hk_786 q_341 (ne_kd hf_772 hf_748 rfl)).trans hf_772
  have hf_799 := (hk_786 q_388 (ne_kd hf_774 hf_748 rfl)).trans hf_774
  have hf_800 := (hk_786 q_438 (ne_kd hf_776 hf_748 rfl)).trans hf_776
  have hf_801 := (hk_786 q_491 (ne_kd hf_778 hf_748 rfl)).trans hf_778
  have hf_802 := (hk_786 q_619 (ne_kd hf_780 hf_748 rfl)).trans hf_780
  have hf_803 := (hk_786 q_678 (ne_kd hf_782 hf_748 rfl)).trans hf_782
  have hf_804 := (hk_786 q_740 (ne_kd hf_743 hf_748 rfl)).trans hf_743
  have hkp_805 : ∀ b ∈ L, b ≠ h → b ∈ L_747 ∧ f_784 b = f b := by
    intro b hb0 hn0
    have e1 := hk_5 b (ne_in hb0 hq_3)
    have b1 : b ∈ L_8 := by rw [hs_7]; exact List.mem_append_left _ hb0
    have e2 := hk_13 b hn0
    have e3 := hk_19 b (ne_in b1 hq_17)
    have b3 : b ∈ L_22 := by rw [hs_21]; exact List.mem_append_left _ b1
    have e4 := hk_29 b hn0
    have e5 := hk_36 b (ne_in b3 hq_34)
    have b5 : b ∈ L_39 := by rw [hs_38]; exact List.mem_append_left _ b3
    have e6 := hk_48 b hn0
    have e7 := hk_56 b (ne_in b5 hq_54)
    have b7 : b ∈ L_59 := by rw [hs_58]; exact List.mem_append_left _ b5
    have e8 := hk_70 b hn0
    have e9 := hk_79 b (ne_in b7 hq_77)
    have b9 : b ∈ L_82 := by rw [hs_81]; exact List.mem_append_left _ b7
    have e10 := hk_95 b hn0
    have e11 := hk_103 b hn0
    have e12 := hk_113 b (ne_in b9 hq_111)
    have b12 : b ∈ L_116 := by rw [hs_115]; exact List.mem_append_left _ b9
    have e13 := hk_131 b hn0
    have e14 := hk_142 b (ne_in b12 hq_140)
    have b14 : b ∈ L_145 := by rw [hs_144]; exact List.mem_append_left _ b12
    have e15 := hk_162 b hn0
    have e16 := hk_174 b (ne_in b14 hq_172)
    have b16 : b ∈ L_177 := by rw [hs_176]; exact List.mem_append_left _ b14
    have e17 := hk_196 b hn0
    have e18 := hk_209 b (ne_in b16 hq_207)
    have b18 : b ∈ L_212 := by rw [hs_211]; exact List.mem_append_left _ b16
    have e19 := hk_233 b hn0
    have e20 := hk_247 b (ne_in b18 hq_245)
    have b20 : b ∈ L_250 := by rw [hs_249]; exact List.mem_append_left _ b18
    have e21 := hk_273 b hn0
    have e22 := hk_286 b hn0
    have e23 := hk_301 b (ne_in b20 hq_299)
    have b23 : b ∈ L_304 := by rw [hs_303]; exact List.mem_append_left _ b20
    have e24 := hk_329 b hn0
    have e25 := hk_345 b (ne_in b23 hq_343)
    have b25 : b ∈ L_348 := by rw [hs_347]; exact List.mem_append_left _ b23
    have e26 := hk_375 b hn0
    have e27 := hk_392 b (ne_in b25 hq_390)
    have b27 : b ∈ L_395 := by rw [hs_394]; exact List.mem_append_left _ b25
    have e28 := hk_424 b hn0
    have e29 := hk_442 b (ne_in b27 hq_440)
    have b29 : b ∈ L_445 := by rw [hs_444]; exact List.mem_append_left _ b27
    have e30 := hk_476 b hn0
    have e31 := hk_495 b (ne_in b29 hq_493)
    have b31 : b ∈ L_498 := by rw [hs_497]; exact List.mem_append_left _ b29
    have e32 := hk_531 b (ne_in b29 hq_493)
    have e33 := hk_549 b (ne_in b29 hq_493)
    have e34 := hk_567 b (ne_in b29 hq_493)
    have e35 := hk_585 b (ne_in b29 hq_493)
    have e36 := hk_603 b hn0
    have e37 := hk_623 b (ne_in b31 hq_621)
    have b37 : b ∈ L_626 := by rw [hs_625]; exact List.mem_append_left _ b31
    have e38 := hk_661 b hn0
    have e39 := hk_682 b (ne_in b37 hq_680)
    have b39 : b ∈ L_685 := by rw [hs_684]; exact List.mem_append_left _ b37
    have e40 := hk_722 b hn0
    have e41 := hk_744 b (ne_in b39 hq_742)
    have b41 : b ∈ L_747 := by rw [hs_746]; exact List.mem_append_left _ b39
    have e42 := hk_786 b hn0
    exact ⟨b41, (e42.trans (e41.trans (e40.trans (e39.trans (e38.trans (e37.trans (e36.trans (e35.trans (e34.trans (e33.trans (e32.trans (e31.trans (e30.trans (e29.trans (e28.trans (e27.trans (e26.trans (e25.trans (e24.trans (e23.trans (e22.trans (e21.trans (e20.trans (e19.trans (e18.trans (e17.trans (e16.trans (e15.trans (e14.trans (e13.trans (e12.trans (e11.trans (e10.trans (e9.trans (e8.trans (e7.trans (e6.trans (e5.trans (e4.trans (e3.trans (e2.trans e1)))))))))))))))))))))))))))))))))))))))))⟩
  have hp_806 : ∀ i : Nat, i < 4 → (upd (upd (upd (upd (fun _ => 0) 0 (-1)) 1 (-1)) 2 (-1)) 3 (-1)) i = -1 := fun i hi => by
    rcases (show i = 0 ∨ i = 1 ∨ i = 2 ∨ i = 3 by omega) with rfl | rfl | rfl | rfl <;> rfl
  exact hR _ _ _ _ _ _ dX12_init_180 (Nat.le_of_ble_eq_true rfl) (Nat.le_of_ble_eq_true rfl) ⟨hkp_805, q_1, q_15, q_32, q_52, q_75, q_109, q_138, q_170, q_205, q_243, q_297, q_341, q_388, q_438, q_491, q_619, q_678, q_740, (upd (upd (upd (upd (fun _ => 0) 0 (-1)) 1 (-1)) 2 (-1)) 3 (-1)), ⟨hm_749, hf_785⟩, ⟨hm_751, hf_787⟩, ⟨hm_753, hf_788⟩, ⟨hm_755, hf_789⟩, ⟨hm_757, hf_790⟩, ⟨hm_759, hf_791⟩, ⟨hm_761, hf_792⟩, ⟨hm_779, hf_801⟩, ⟨hm_781, hf_802⟩, ⟨hm_783, hf_803⟩, hp_806⟩
