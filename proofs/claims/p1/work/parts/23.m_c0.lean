set_option maxRecDepth 100000 in
set_option maxHeartbeats 4000000 in
theorem c_coder {l : Launch} {E : Ez} {L : List Nat} {f : Nat → va_E} {ii : Nat} (hii : ii < 77) : CI l yJ0_coder_7d493 cJ0_coder_7d493 1 .byte 0 0 0 E [.ref (eK E ii)] L f (fun r L1 f1 => (0 : Int32) = r ∧ L = L1 ∧ f = f1) := by
  refine ci_of (by decide) (Nat.le_of_ble_eq_true rfl) (fun z hz hnm hC hR => ?_)
  have hC : Cx z E cJ0_coder_7d493 RJ0 1 0 0 0 := hC
  subst hz
  show V z E 1 0 0 L f 0 [(0, .ref (eK E ii))] []
  refine v_getCS hC cs_38 dJ0_coder_7d493_0 ?_
  refine v_if_eq_f hC dJ0_coder_7d493_3 (tgt := 13) (by decide) (by decide) ?_
  refine v_aload_n hC dJ0_coder_7d493_6 rfl ?_
  refine v_getSc hC hii sf_15 dJ0_coder_7d493_7 ?_
  refine v_goto hC dJ0_coder_7d493_10 (tgt := 14) (by decide) ?_
  exact hR _ _ _ _ _ _ _ dJ0_coder_7d493_14 rfl (Nat.le_of_ble_eq_true rfl) (Nat.le_of_ble_eq_true rfl) ⟨rfl, rfl, rfl⟩
set_option maxRecDepth 100000 in
set_option maxHeartbeats 4000000 in
theorem c_strlen {l : Launch} {E : Ez} {L : List Nat} {f : Nat → va_E} {ii : Nat} (hii : ii < 77) : CI l yJ0_length_8abf5 cJ0_length_8abf5 1 .int 1 0 0 E [.ref (eK E ii)] L f (fun r L1 f1 => nI (bytStr.getD ii []).length = r ∧ L = L1 ∧ f = f1) := by
  refine ci_of (by decide) (Nat.le_of_ble_eq_true rfl) (fun z hz hnm hC hR => ?_)
  have hC : Cx z E cJ0_length_8abf5 RJ0 1 1 0 0 := hC
  subst hz
  show V z E 1 0 0 L f 0 [(0, .ref (eK E ii))] []
  refine v_aload_n hC dJ0_length_8abf5_0 rfl ?_
  refine v_getSv hC hii sf_9 dJ0_length_8abf5_1 ?_
  refine v_alenS hC hii dJ0_length_8abf5_4 ?_
  refine v_aload_n hC dJ0_length_8abf5_5 rfl ?_
  refine v_viS hC (rest := [.int (nI (bytStr.getD ii []).length)]) hii rfl mi_J0_coder_7d493 ms_J0_coder_7d493 (c_coder hii) mx_J0_coder_7d493 ml_J0_335 (by decide) rfl (cells1 := 0) (slots1 := 0) (by decide) (by decide) (Nat.le_of_ble_eq_true rfl) (Nat.le_of_ble_eq_true rfl) rfl (Nat.le_of_ble_eq_true rfl) dJ0_length_8abf5_6 (fun r_1 L_2 f_3 h_4 => ?_)
  obtain ⟨rfl, rfl, rfl⟩ := h_4
  refine v_ishr hC dJ0_length_8abf5_9 rfl ?_
  exact hR _ _ _ _ _ _ _ dJ0_length_8abf5_10 rfl (Nat.le_of_ble_eq_true rfl) (Nat.le_of_ble_eq_true rfl) ⟨(sb_shr0 _).symm, rfl, rfl⟩
set_option maxRecDepth 100000 in
set_option maxHeartbeats 4000000 in
theorem c_in {l : Launch} {E : Ez} {L : List Nat} {f : Nat → va_E} {v lo hi : Int64}  : CI l yX12_in cX12_in 6 .boolean 0 0 0 E [.long v, .long lo, .long hi] L f (fun r L1 f1 => bI (lo ≤ v ∧ v ≤ hi) = r ∧ L = L1 ∧ f = f1) := by
  refine ci_of (by decide) (Nat.le_of_ble_eq_true rfl) (fun z hz hnm hC hR => ?_)
  have hC : Cx z E cX12_in RX12 6 0 0 0 := hC
  subst hz
  show V z E 6 0 0 L f 0 [(0, .long v), (2, .long lo), (4, .long hi)] []
  refine v_lload_n hC dX12_in_0 rfl ?_
  refine v_lload_n hC dX12_in_1 rfl ?_
  refine v_lcmp hC dX12_in_2 rfl ?_
  refine v_if_lt hC dX12_in_3 (tgt := 17) (by decide) (fun h_1 => ?_) (fun h_1 => ?_)
  · have h_2 := (lgc_lt.mp h_1)
    refine v_iconst hC dX12_in_17 (v := 0) (by decide) ?_
    exact hR _ _ _ _ _ _ _ dX12_in_18 rfl (Nat.le_of_ble_eq_true rfl) (Nat.le_of_ble_eq_true rfl) ⟨bI_f (by simp only [Int64.lt_iff_toInt_lt, Int64.le_iff_toInt_le] at h_2 ⊢; omega), rfl, rfl⟩
  · have h_3 := (mt lgc_lt.mpr h_1)
    refine v_lload_n hC dX12_in_6 rfl ?_
    refine v_lload hC dX12_in_7 rfl ?_
    refine v_lcmp hC dX12_in_9 rfl ?_
    refine v_if_gt hC dX12_in_10 (tgt := 17) (by decide) (fun h_4 => ?_) (fun h_4 => ?_)
    · have h_5 := (lgc_gt.mp h_4)
      refine v_iconst hC dX12_in_17 (v := 0) (by decide) ?_
      exact hR _ _ _ _ _ _ _ dX12_in_18 rfl (Nat.le_of_ble_eq_true rfl) (Nat.le_of_ble_eq_true rfl) ⟨bI_f (by simp only [Int64.lt_iff_toInt_lt, Int64.le_iff_toInt_le] at h_3 h_5 ⊢; omega), rfl, rfl⟩
    · have h_6 := (mt lgc_gt.mpr h_4)
      refine v_iconst hC dX12_in_13 (v := 1) (by decide) ?_
      refine v_goto hC dX12_in_14 (tgt := 18) (by decide) ?_
      exact hR _ _ _ _ _ _ _ dX12_in_18 rfl (Nat.le_of_ble_eq_true rfl) (Nat.le_of_ble_eq_true rfl) ⟨bI_t (by simp only [Int64.lt_iff_toInt_lt, Int64.le_iff_toInt_le] at h_3 h_6 ⊢; omega), rfl, rfl⟩
set_option maxRecDepth 100000 in
set_option maxHeartbeats 4000000 in
theorem d_isCloth {l : Launch} {E : Ez} {L : List Nat} {f : Nat → va_E} {c : Int32}  : CI l yX12_isCloth cX12_isCloth 1 .boolean 1 0 0 E [.int c] L f (fun r L1 f1 => bI (0 ≤ c ∧ c < 4) = r ∧ L = L1 ∧ f = f1) := by
  refine ci_of (by decide) (Nat.le_of_ble_eq_true rfl) (fun z hz hnm hC hR => ?_)
  have hC : Cx z E cX12_isCloth RX12 1 1 0 0 := hC
  subst hz
  show V z E 1 0 0 L f 0 [(0, .int c)] []
  refine v_iload_n hC dX12_isCloth_0 rfl ?_
  refine v_i2l hC dX12_isCloth_1 rfl ?_
  refine v_lconst hC dX12_isCloth_2 (v := 0) (by decide) ?_
  refine v_ldc2 hC kl_X12_90 dX12_isCloth_3 ?_
  refine v_si hC (rest := []) mt_X12_in c_in mx_X12_in ml_X12_79 (by decide) rfl (cells1 := 0) (slots1 := 0) (by decide) (by decide) (Nat.le_of_ble_eq_true rfl) (Nat.le_of_ble_eq_true rfl) rfl (Nat.le_of_ble_eq_true rfl) dX12_isCloth_6 (fun r_1 L_2 f_3 h_4 => ?_)
  obtain ⟨r_19, rfl, rfl⟩ := h_4
  obtain rfl : bI (0 ≤ c ∧ c ≤ 3) = r_1 := (bI_iff (by simp only [Int64.le_iff_toInt_le, Int32.le_iff_toInt_le, Int32.toInt_toInt64, Int64.reduceToInt, Int32.reduceToInt])).trans r_19
  exact hR _ _ _ _ _ _ _ dX12_isCloth_9 bI_nar (Nat.le_of_ble_eq_true rfl) (Nat.le_of_ble_eq_true rfl) ⟨bI_iff (by simp only [Int32.lt_iff_toInt_lt, Int32.le_iff_toInt_le, Int32.reduceToInt, ← Int32.toInt_inj]; omega), rfl, rfl⟩
set_option maxRecDepth 100000 in
set_option maxHeartbeats 4000000 in
theorem d_isWay {l : Launch} {E : Ez} {L : List Nat} {f : Nat → va_E} {c : Int32}  : CI l yX12_isWay cX12_isWay 1 .boolean 1 0 0 E [.int c] L f (fun r L1 f1 => bI (0 ≤ c ∧ c < 6) = r ∧ L = L1 ∧ f = f1) := by
  refine ci_of (by decide) (Nat.le_of_ble_eq_true rfl) (fun z hz hnm hC hR => ?_)
  have hC : Cx z E cX12_isWay RX12 1 1 0 0 := hC
  subst hz
  show V z E 1 0 0 L f 0 [(0, .int c)] []
  refine v_iload_n hC dX12_isWay_0 rfl ?_
  refine v_i2l hC dX12_isWay_1 rfl ?_
  refine v_lconst hC dX12_isWay_2 (v := 0) (by decide) ?_
  refine v_ldc2 hC kl_X12_92 dX12_isWay_3 ?_
  refine v_si hC (rest := []) mt_X12_in c_in mx_X12_in ml_X12_79 (by decide) rfl (cells1 := 0) (slots1 := 0) (by decide) (by decide) (Nat.le_of_ble_eq_true rfl) (Nat.le_of_ble_eq_true rfl) rfl (Nat.le_of_ble_eq_true rfl) dX12_isWay_6 (fun r_1 L_2 f_3 h_4 => ?_)
  obtain ⟨r_19, rfl, rfl⟩ := h_4
  obtain rfl : bI (0 ≤ c ∧ c ≤ 5) = r_1 := (bI_iff (by simp only [Int64.le_iff_toInt_le, Int32.le_iff_toInt_le, Int32.toInt_toInt64, Int64.reduceToInt, Int32.reduceToInt])).trans r_19
  exact hR _ _ _ _ _ _ _ dX12_isWay_9 bI_nar (Nat.le_of_ble_eq_true rfl) (Nat.le_of_ble_eq_true rfl) ⟨bI_iff (by simp only [Int32.lt_iff_toInt_lt, Int32.le_iff_toInt_le, Int32.reduceToInt, ← Int32.toInt_inj]; omega), rfl, rfl⟩
set_option maxRecDepth 100000 in
set_option maxHeartbeats 4000000 in
theorem d_isSlot {l : Launch} {E : Ez} {L : List Nat} {f : Nat → va_E} {c : Int32}  : CI l yX12_isSlot cX12_isSlot 1 .boolean 1 0 0 E [.int c] L f (fun r L1 f1 => bI (0 ≤ c ∧ c < 4) = r ∧ L = L1 ∧ f = f1) := by
  refine ci_of (by decide) (Nat.le_of_ble_eq_true rfl) (fun z hz hnm hC hR => ?_)
  have hC : Cx z E cX12_isSlot RX12 1 1 0 0 := hC
  subst hz
  show V z E 1 0 0 L f 0 [(0, .int c)] []
  refine v_iload_n hC dX12_isSlot_0 rfl ?_
  refine v_i2l hC dX12_isSlot_1 rfl ?_
  refine v_lconst hC dX12_isSlot_2 (v := 0) (by decide) ?_
  refine v_ldc2 hC kl_X12_90 dX12_isSlot_3 ?_
  refine v_si hC (rest := []) mt_X12_in c_in mx_X12_in ml_X12_79 (by decide) rfl (cells1 := 0) (slots1 := 0) (by decide) (by decide) (Nat.le_of_ble_eq_true rfl) (Nat.le_of_ble_eq_true rfl) rfl (Nat.le_of_ble_eq_true rfl) dX12_isSlot_6 (fun r_1 L_2 f_3 h_4 => ?_)
  obtain ⟨r_19, rfl, rfl⟩ := h_4
  obtain rfl : bI (0 ≤ c ∧ c ≤ 3) = r_1 := (bI_iff (by simp only [Int64.le_iff_toInt_le, Int32.le_iff_toInt_le, Int32.toInt_toInt64, Int64.reduceToInt, Int32.reduceToInt])).trans r_19
  exact hR _ _ _ _ _ _ _ dX12_isSlot_9 bI_nar (Nat.le_of_ble_eq_true rfl) (Nat.le_of_ble_eq_true rfl) ⟨bI_iff (by simp only [Int32.lt_iff_toInt_lt, Int32.le_iff_toInt_le, Int32.reduceToInt, ← Int32.toInt_inj]; omega), rfl, rfl⟩
set_option maxRecDepth 100000 in
set_option maxHeartbeats 4000000 in
theorem d_isSeed {l : Launch} {E : Ez} {L : List Nat} {f : Nat → va_E} {c : Int32}  : CI l yX12_isSeed cX12_isSeed 1 .boolean 1 0 0 E [.int c] L f (fun r L1 f1 => bI (0 ≤ c ∧ c ≤ 2000000000) = r ∧ L = L1 ∧ f = f1) := by
  refine ci_of (by decide) (Nat.le_of_ble_eq_true rfl) (fun z hz hnm hC hR => ?_)
  have hC : Cx z E cX12_isSeed RX12 1 1 0 0 := hC
  subst hz
  show V z E 1 0 0 L f 0 [(0, .int c)] []
  refine v_iload_n hC dX12_isSeed_0 rfl ?_
  refine v_i2l hC dX12_isSeed_1 rfl ?_
  refine v_lconst hC dX12_isSeed_2 (v := 0) (by decide) ?_
  refine v_ldc2 hC kl_X12_317 dX12_isSeed_3 ?_
  refine v_si hC (rest := []) mt_X12_in c_in mx_X12_in ml_X12_79 (by decide) rfl (cells1 := 0) (slots1 := 0) (by decide) (by decide) (Nat.le_of_ble_eq_true rfl) (Nat.le_of_ble_eq_true rfl) rfl (Nat.le_of_ble_eq_true rfl) dX12_isSeed_6 (fun r_1 L_2 f_3 h_4 => ?_)
  obtain ⟨r_19, rfl, rfl⟩ := h_4
  obtain rfl : bI (0 ≤ c ∧ c ≤ 2000000000) = r_1 := (bI_iff (by simp only [Int64.le_iff_toInt_le, Int32.le_iff_toInt_le, Int32.toInt_toInt64, Int64.reduceToInt, Int32.reduceToInt])).trans r_19
  exact hR _ _ _ _ _ _ _ dX12_isSeed_9 bI_nar (Nat.le_of_ble_eq_true rfl) (Nat.le_of_ble_eq_true rfl) ⟨rfl, rfl, rfl⟩
set_option maxRecDepth 100000 in
set_option maxHeartbeats 4000000 in
theorem d_isThere {l : Launch} {E : Ez} {L : List Nat} {f : Nat → va_E} {m wo img hi tp fv fr cl0 pl wd rd tr0 co bi wl mn wi nu mv : Nat} {c : Int32} (m_m : m ∈ L) (e_m : f m = ob 12 [.int 0, .ref wo, .ref img, .ref hi, .ref tp, .int 0, .ref fv, .int 0, .int 0, .int 0, .int 0, .int 0, .int 0, .int (-1), .ref fr, .ref cl0, .ref pl, .int 0, .ref wd, .ref rd, .int (-1), .ref tr0, .ref co, .ref bi, .ref wl, .ref mn, .ref wi, .ref nu, .ref mv]) (m_wo : wo ∈ L) (e_wo : f wo = aI E 2076 (fun _ => 0)) (hc : 0 ≤ c ∧ c < 4) : CI l yX12_isThere cX12_isThere 2 .boolean 0 0 0 E [.ref m, .int c] L f (fun r L1 f1 => (0 : Int32) = r ∧ L = L1 ∧ f = f1) := by
  refine ci_of (by decide) (Nat.le_of_ble_eq_true rfl) (fun z hz hnm hC hR => ?_)
  have hC : Cx z E cX12_isThere RX12 2 0 0 0 := hC
  subst hz
  show V z E 2 0 0 L f 0 [(0, .ref m), (1, .int c)] []
  refine v_aload_n hC dX12_isThere_0 rfl ?_
  refine v_get hC fl_X12_13 m_m e_m rfl dX12_isThere_1 ?_
  refine v_sipush hC dX12_isThere_4 (v := 1048) (by decide) ?_
  refine v_sipush hC dX12_isThere_7 (v := 257) (by decide) ?_
  refine v_iload_n hC dX12_isThere_10 rfl ?_
  refine v_imul hC dX12_isThere_11 rfl ?_
  refine v_iadd hC dX12_isThere_12 rfl ?_
  refine v_iald hC m_wo e_wo (inb_am 1048 257 4 2076 hc (by decide) (by decide) (by decide) (by decide)) (v := 0) rfl dX12_isThere_13 ?_
  refine v_iconst hC dX12_isThere_14 (v := 1) (by decide) ?_
  refine v_icmp_ne_t hC dX12_isThere_15 (tgt := 22) (by decide) (by decide) ?_
  refine v_iconst hC dX12_isThere_22 (v := 0) (by decide) ?_
  exact hR _ _ _ _ _ _ _ dX12_isThere_23 rfl (Nat.le_of_ble_eq_true rfl) (Nat.le_of_ble_eq_true rfl) ⟨rfl, rfl, rfl⟩
set_option maxRecDepth 100000 in
set_option maxHeartbeats 4000000 in
theorem d_ofWay0 {l : Launch} {E : Ez} {L : List Nat} {f : Nat → va_E} {m wo img hi tp fv fr cl0 pl wd rd tr0 co bi wl mn wi nu mv : Nat} {k : Int32} (m_m : m ∈ L) (e_m : f m = ob 12 [.int 0, .ref wo, .ref img, .ref hi, .ref tp, .int 0, .ref fv, .int 0, .int 0, .int 0, .int 0, .int 0, .int 0, .int (-1), .ref fr, .ref cl0, .ref pl, .int 0, .ref wd, .ref rd, .int (-1), .ref tr0, .ref co, .ref bi, .ref wl, .ref mn, .ref wi, .ref nu, .ref mv]) (m_wo : wo ∈ L) (e_wo : f wo = aI E 2076 (fun _ => 0)) (hc : 0 ≤ k ∧ k < 6) : CI l yX12_ofWay cX12_ofWay 3 .int 0 0 0 E [.ref m, .int k, .int 0] L f (fun r L1 f1 => (0 : Int32) = r ∧ L = L1 ∧ f = f1) := by
  refine ci_of (by decide) (Nat.le_of_ble_eq_true rfl) (fun z hz hnm hC hR => ?_)
  have hC : Cx z E cX12_ofWay RX12 3 0 0 0 := hC
  subst hz
  show V z E 3 0 0 L f 0 [(0, .ref m), (1, .int k), (2, .int 0)] []
  refine v_aload_n hC dX12_ofWay_0 rfl ?_
  refine v_get hC fl_X12_13 m_m e_m rfl dX12_ofWay_1 ?_
  refine v_bipush hC dX12_ofWay_4 (v := 120) (by decide) ?_
  refine v_bipush hC dX12_ofWay_6 (v := 7) (by decide) ?_
  refine v_iload_n hC dX12_ofWay_8 rfl ?_
  refine v_imul hC dX12_ofWay_9 rfl ?_
  refine v_iadd hC dX12_ofWay_10 rfl ?_
  refine v_iload_n hC dX12_ofWay_11 rfl ?_
  refine v_iadd hC dX12_ofWay_12 rfl ?_
  refine v_iald hC m_wo e_wo (by rw [Int32.add_zero]; exact inb_am 120 7 6 2076 hc (by decide) (by decide) (by decide) (by decide)) (v := 0) rfl dX12_ofWay_13 ?_
  exact hR _ _ _ _ _ _ _ dX12_ofWay_14 rfl (Nat.le_of_ble_eq_true rfl) (Nat.le_of_ble_eq_true rfl) ⟨rfl, rfl, rfl⟩
set_option maxRecDepth 100000 in
set_option maxHeartbeats 4000000 in
theorem d_isTold {l : Launch} {E : Ez} {L : List Nat} {f : Nat → va_E} {m wo img hi tp fv fr cl0 pl wd rd tr0 co bi wl mn wi nu mv : Nat} {k : Int32} (m_m : m ∈ L) (e_m : f m = ob 12 [.int 0, .ref wo, .ref img, .ref hi, .ref tp, .int 0, .ref fv, .int 0, .int 0, .int 0, .int 0, .int 0, .int 0, .int (-1), .ref fr, .ref cl0, .ref pl, .int 0, .ref wd, .ref rd, .int (-1), .ref tr0, .ref co, .ref bi, .ref wl, .ref mn, .ref wi, .ref nu, .ref mv]) (m_wo : wo ∈ L) (e_wo : f wo = aI E 2076 (fun _ => 0)) (hc : 0 ≤ k ∧ k < 6) : CI l yX12_isTold cX12_isTold 2 .boolean 1 0 0 E [.ref m, .int k] L f (fun r L1 f1 => (0 : Int32) = r ∧ L = L1 ∧ f = f1) := by
  refine ci_of (by decide) (Nat.le_of_ble_eq_true rfl) (fun z hz hnm hC hR => ?_)
  have hC : Cx z E cX12_isTold RX12 2 1 0 0 := hC
  subst hz
  show V z E 2 0 0 L f 0 [(0, .ref m), (1, .int k)] []
  refine v_aload_n hC dX12_isTold_0 rfl ?_
  refine v_iload_n hC dX12_isTold_1 rfl ?_
  refine v_iconst hC dX12_isTold_2 (v := 0) (by decide) ?_
  refine v_vi hC (rest := []) m_m e_m rfl mi_X12_ofWay ms_X12_ofWay (d_ofWay0 m_m e_m m_wo e_wo hc) mx_X12_ofWay ml_X12_94 (by decide) rfl (cells1 := 0) (slots1 := 0) (by decide) (by decide) (Nat.le_of_ble_eq_true rfl) (Nat.le_of_ble_eq_true rfl) rfl (Nat.le_of_ble_eq_true rfl) dX12_isTold_3 (fun r_1 L_2 f_3 h_4 => ?_)
  obtain ⟨rfl, rfl, rfl⟩ := h_4
  refine v_iconst hC dX12_isTold_6 (v := 1) (by decide) ?_
  refine v_icmp_ne_t hC dX12_isTold_7 (tgt := 14) (by decide) (by decide) ?_
  refine v_iconst hC dX12_isTold_14 (v := 0) (by decide) ?_
  exact hR _ _ _ _ _ _ _ dX12_isTold_15 rfl (Nat.le_of_ble_eq_true rfl) (Nat.le_of_ble_eq_true rfl) ⟨rfl, rfl, rfl⟩
set_option maxRecDepth 100000 in
set_option maxHeartbeats 4000000 in
theorem d_asks {l : Launch} {E : Ez} {L : List Nat} {f : Nat → va_E} {m wo img hi tp fv fr cl0 pl wd rd tr0 co bi wl mn wi nu mv : Nat} {c k : Int32} (m_m : m ∈ L) (e_m : f m = ob 12 [.int 0, .ref wo, .ref img, .ref hi, .ref tp, .int 0, .ref fv, .int 0, .int 0, .int 0, .int 0, .int 0, .int 0, .int (-1), .ref fr, .ref cl0, .ref pl, .int 0, .ref wd, .ref rd, .int (-1), .ref tr0, .ref co, .ref bi, .ref wl, .ref mn, .ref wi, .ref nu, .ref mv]) (m_wo : wo ∈ L) (e_wo : f wo = aI E 2076 (fun _ => 0)) : CI l yX12_asks cX12_asks 3 .int 2 0 0 E [.ref m, .int c, .int k] L f (fun r L1 f1 => sp_ck c k = r ∧ L = L1 ∧ f = f1) := by
  refine ci_of (by decide) (Nat.le_of_ble_eq_true rfl) (fun z hz hnm hC hR => ?_)
  have hC : Cx z E cX12_asks RX12 3 2 0 0 := hC
  subst hz
  show V z E 3 0 0 L f 0 [(0, .ref m), (1, .int c), (2, .int k)] []
  refine v_iload_n hC dX12_asks_0 rfl ?_
  refine v_si hC (rest := []) mt_X12_isCloth (d_isCloth) mx_X12_isCloth ml_X12_319 (by decide) rfl (cells1 := 0) (slots1 := 0) (by decide) (by decide) (Nat.le_of_ble_eq_true rfl) (Nat.le_of_ble_eq_true rfl) rfl (Nat.le_of_ble_eq_true rfl) dX12_asks_1 (fun r_1 L_2 f_3 h_4 => ?_)
  obtain ⟨rfl, rfl, rfl⟩ := h_4
  refine v_if_eq hC dX12_asks_4 (tgt := 14) (by decide) (fun h_5 => ?_) (fun h_5 => ?_)
  · have h_6 := bI_0 h_5
    refine v_bipush hC dX12_asks_14 (v := (-2)) (by decide) ?_
    refine v_goto hC dX12_asks_16 (tgt := 41) (by decide) ?_
    exact hR _ _ _ _ _ _ _ dX12_asks_41 rfl (Nat.le_of_ble_eq_true rfl) (Nat.le_of_ble_eq_true rfl) ⟨(by unfold sp_ck; simp only [Int32.lt_iff_toInt_lt, Int32.le_iff_toInt_le, Int32.reduceToInt, ← Int32.toInt_inj] at h_6 ⊢; first | omega | (split <;> first | rfl | (exfalso; omega))), rfl, rfl⟩
  · have h_7 := bI_1 h_5
    refine v_iload_n hC dX12_asks_7 rfl ?_
    refine v_si hC (rest := []) mt_X12_isWay (d_isWay) mx_X12_isWay ml_X12_221 (by decide) rfl (cells1 := 0) (slots1 := 0) (by decide) (by decide) (Nat.le_of_ble_eq_true rfl) (Nat.le_of_ble_eq_true rfl) rfl (Nat.le_of_ble_eq_true rfl) dX12_asks_8 (fun r_8 L_9 f_10 h_11 => ?_)
    obtain ⟨rfl, rfl, rfl⟩ := h_11
    refine v_if_ne hC dX12_asks_11 (tgt := 19) (by decide) (fun h_12 => ?_) (fun h_12 => ?_)
    · have h_13 := bI_1 h_12
      refine v_aload_n hC dX12_asks_19 rfl ?_
      refine v_iload_n hC dX12_asks_20 rfl ?_
      refine v_vi hC (rest := []) m_m e_m rfl mi_X12_isThere ms_X12_isThere (d_isThere m_m e_m m_wo e_wo (show 0 ≤ c ∧ c < 4 by simp only [Int32.lt_iff_toInt_lt, Int32.le_iff_toInt_le, Int32.reduceToInt, ← Int32.toInt_inj] at h_7 h_13 ⊢; omega)) mx_X12_isThere ml_X12_351 (by decide) rfl (cells1 := 0) (slots1 := 0) (by decide) (by decide) (Nat.le_of_ble_eq_true rfl) (Nat.le_of_ble_eq_true rfl) rfl (Nat.le_of_ble_eq_true rfl) dX12_asks_21 (fun r_14 L_15 f_16 h_17 => ?_)
      obtain ⟨rfl, rfl, rfl⟩ := h_17
      refine v_if_eq_t hC dX12_asks_24 (tgt := 35) (by decide) (by decide) ?_
      refine v_bipush hC dX12_asks_35 (v := (-6)) (by decide) ?_
      refine v_goto hC dX12_asks_37 (tgt := 41) (by decide) ?_
      exact hR _ _ _ _ _ _ _ dX12_asks_41 rfl (Nat.le_of_ble_eq_true rfl) (Nat.le_of_ble_eq_true rfl) ⟨(by unfold sp_ck; simp only [Int32.lt_iff_toInt_lt, Int32.le_iff_toInt_le, Int32.reduceToInt, ← Int32.toInt_inj] at h_7 h_13 ⊢; first | omega | (split <;> first | rfl | (exfalso; omega))), rfl, rfl⟩
    · have h_18 := bI_0 h_12
      refine v_bipush hC dX12_asks_14 (v := (-2)) (by decide) ?_
      refine v_goto hC dX12_asks_16 (tgt := 41) (by decide) ?_
      exact hR _ _ _ _ _ _ _ dX12_asks_41 rfl (Nat.le_of_ble_eq_true rfl) (Nat.le_of_ble_eq_true rfl) ⟨(by unfold sp_ck; simp only [Int32.lt_iff_toInt_lt, Int32.le_iff_toInt_le, Int32.reduceToInt, ← Int32.toInt_inj] at h_7 h_18 ⊢; first | omega | (split <;> first | rfl | (exfalso; omega))), rfl, rfl⟩
set_option maxRecDepth 100000 in
set_option maxHeartbeats 4000000 in
theorem d_asksC {l : Launch} {E : Ez} {L : List Nat} {f : Nat → va_E} {m wo img hi tp fv fr cl0 pl wd rd tr0 co bi wl mn wi nu mv : Nat} {c : Int32} (m_m : m ∈ L) (e_m : f m = ob 12 [.int 0, .ref wo, .ref img, .ref hi, .ref tp, .int 0, .ref fv, .int 0, .int 0, .int 0, .int 0, .int 0, .int 0, .int (-1), .ref fr, .ref cl0, .ref pl, .int 0, .ref wd, .ref rd, .int (-1), .ref tr0, .ref co, .ref bi, .ref wl, .ref mn, .ref wi, .ref nu, .ref mv]) (m_wo : wo ∈ L) (e_wo : f wo = aI E 2076 (fun _ => 0)) : CI l yX12_asksCloth cX12_asksCloth 2 .int 2 0 0 E [.ref m, .int c] L f (fun r L1 f1 => sp_c c = r ∧ L = L1 ∧ f = f1) := by
  refine ci_of (by decide) (Nat.le_of_ble_eq_true rfl) (fun z hz hnm hC hR => ?_)
  have hC : Cx z E cX12_asksCloth RX12 2 2 0 0 := hC
  subst hz
  show V z E 2 0 0 L f 0 [(0, .ref m), (1, .int c)] []
  refine v_iload_n hC dX12_asksCloth_0 rfl ?_
  refine v_si hC (rest := []) mt_X12_isCloth (d_isCloth) mx_X12_isCloth ml_X12_319 (by decide) rfl (cells1 := 0) (slots1 := 0) (by decide) (by decide) (Nat.le_of_ble_eq_true rfl) (Nat.le_of_ble_eq_true rfl) rfl (Nat.le_of_ble_eq_true rfl) dX12_asksCloth_1 (fun r_1 L_2 f_3 h_4 => ?_)
  obtain ⟨rfl, rfl, rfl⟩ := h_4
  refine v_if_ne hC dX12_asksCloth_4 (tgt := 12) (by decide) (fun h_5 => ?_) (fun h_5 => ?_)
  · have h_6 := bI_1 h_5
    refine v_aload_n hC dX12_asksCloth_12 rfl ?_
    refine v_iload_n hC dX12_asksCloth_13 rfl ?_
    refine v_vi hC (rest := []) m_m e_m rfl mi_X12_isThere ms_X12_isThere (d_isThere m_m e_m m_wo e_wo (show 0 ≤ c ∧ c < 4 by simp only [Int32.lt_iff_toInt_lt, Int32.le_iff_toInt_le, Int32.reduceToInt, ← Int32.toInt_inj] at h_6 ⊢; omega)) mx_X12_isThere ml_X12_351 (by decide) rfl (cells1 := 0) (slots1 := 0) (by decide) (by decide) (Nat.le_of_ble_eq_true rfl) (Nat.le_of_ble_eq_true rfl) rfl (Nat.le_of_ble_eq_true rfl) dX12_asksCloth_14 (fun r_7 L_8 f_9 h_10 => ?_)
    obtain ⟨rfl, rfl, rfl⟩ := h_10
    refine v_if_eq_t hC dX12_asksCloth_17 (tgt := 24) (by decide) (by decide) ?_
    refine v_bipush hC dX12_asksCloth_24 (v := (-6)) (by decide) ?_
    exact hR _ _ _ _ _ _ _ dX12_asksCloth_26 rfl (Nat.le_of_ble_eq_true rfl) (Nat.le_of_ble_eq_true rfl) ⟨(by unfold sp_c; simp only [Int32.lt_iff_toInt_lt, Int32.le_iff_toInt_le, Int32.reduceToInt, ← Int32.toInt_inj] at h_6 ⊢; first | omega | (split <;> first | rfl | (exfalso; omega))), rfl, rfl⟩
  · have h_11 := bI_0 h_5
    refine v_bipush hC dX12_asksCloth_7 (v := (-2)) (by decide) ?_
    refine v_goto hC dX12_asksCloth_9 (tgt := 26) (by decide) ?_
    exact hR _ _ _ _ _ _ _ dX12_asksCloth_26 rfl (Nat.le_of_ble_eq_true rfl) (Nat.le_of_ble_eq_true rfl) ⟨(by unfold sp_c; simp only [Int32.lt_iff_toInt_lt, Int32.le_iff_toInt_le, Int32.reduceToInt, ← Int32.toInt_inj] at h_11 ⊢; first | omega | (split <;> first | rfl | (exfalso; omega))), rfl, rfl⟩
set_option maxRecDepth 100000 in
set_option maxHeartbeats 4000000 in
theorem d_asksW {l : Launch} {E : Ez} {L : List Nat} {f : Nat → va_E} {m wo img hi tp fv fr cl0 pl wd rd tr0 co bi wl mn wi nu mv : Nat} {k : Int32} (m_m : m ∈ L) (e_m : f m = ob 12 [.int 0, .ref wo, .ref img, .ref hi, .ref tp, .int 0, .ref fv, .int 0, .int 0, .int 0, .int 0, .int 0, .int 0, .int (-1), .ref fr, .ref cl0, .ref pl, .int 0, .ref wd, .ref rd, .int (-1), .ref tr0, .ref co, .ref bi, .ref wl, .ref mn, .ref wi, .ref nu, .ref mv]) (m_wo : wo ∈ L) (e_wo : f wo = aI E 2076 (fun _ => 0)) : CI l yX12_asksWay cX12_asksWay 2 .int 2 0 0 E [.ref m, .int k] L f (fun r L1 f1 => sp_k k = r ∧ L = L1 ∧ f = f1) := by
  refine ci_of (by decide) (Nat.le_of_ble_eq_true rfl) (fun z hz hnm hC hR => ?_)
  have hC : Cx z E cX12_asksWay RX12 2 2 0 0 := hC
  subst hz
  show V z E 2 0 0 L f 0 [(0, .ref m), (1, .int k)] []
  refine v_iload_n hC dX12_asksWay_0 rfl ?_
  refine v_si hC (rest := []) mt_X12_isWay (d_isWay) mx_X12_isWay ml_X12_221 (by decide) rfl (cells1 := 0) (slots1 := 0) (by decide) (by decide) (Nat.le_of_ble_eq_true rfl) (Nat.le_of_ble_eq_true rfl) rfl (Nat.le_of_ble_eq_true rfl) dX12_asksWay_1 (fun r_1 L_2 f_3 h_4 => ?_)
  obtain ⟨rfl, rfl, rfl⟩ := h_4
  refine v_if_ne hC dX12_asksWay_4 (tgt := 12) (by decide) (fun h_5 => ?_) (fun h_5 => ?_)
  · have h_6 := bI_1 h_5
    refine v_aload_n hC dX12_asksWay_12 rfl ?_
    refine v_iload_n hC dX12_asksWay_13 rfl ?_
    refine v_vi hC (rest := []) m_m e_m rfl mi_X12_isTold ms_X12_isTold (d_isTold m_m e_m m_wo e_wo (show 0 ≤ k ∧ k < 6 by simp only [Int32.lt_iff_toInt_lt, Int32.le_iff_toInt_le, Int32.reduceToInt, ← Int32.toInt_inj] at h_6 ⊢; omega)) mx_X12_isTold ml_X12_354 (by decide) rfl (cells1 := 0) (slots1 := 0) (by decide) (by decide) (Nat.le_of_ble_eq_true rfl) (Nat.le_of_ble_eq_true rfl) rfl (Nat.le_of_ble_eq_true rfl) dX12_asksWay_14 (fun r_7 L_8 f_9 h_10 => ?_)
    obtain ⟨rfl, rfl, rfl⟩ := h_10
    refine v_if_eq_t hC dX12_asksWay_17 (tgt := 24) (by decide) (by decide) ?_
    refine v_bipush hC dX12_asksWay_24 (v := (-6)) (by decide) ?_
    exact hR _ _ _ _ _ _ _ dX12_asksWay_26 rfl (Nat.le_of_ble_eq_true rfl) (Nat.le_of_ble_eq_true rfl) ⟨(by unfold sp_k; simp only [Int32.lt_iff_toInt_lt, Int32.le_iff_toInt_le, Int32.reduceToInt, ← Int32.toInt_inj] at h_6 ⊢; first | omega | (split <;> first | rfl | (exfalso; omega))), rfl, rfl⟩
  · have h_11 := bI_0 h_5
    refine v_bipush hC dX12_asksWay_7 (v := (-2)) (by decide) ?_
    refine v_goto hC dX12_asksWay_9 (tgt := 26) (by decide) ?_
    exact hR _ _ _ _ _ _ _ dX12_asksWay_26 rfl (Nat.le_of_ble_eq_true rfl) (Nat.le_of_ble_eq_true rfl) ⟨(by unfold sp_k; simp only [Int32.lt_iff_toInt_lt, Int32.le_iff_toInt_le, Int32.reduceToInt, ← Int32.toInt_inj] at h_11 ⊢; first | omega | (split <;> first | rfl | (exfalso; omega))), rfl, rfl⟩
set_option maxRecDepth 100000 in
set_option maxHeartbeats 4000000 in
theorem d_asksT {l : Launch} {E : Ez} {L : List Nat} {f : Nat → va_E} {m wo img hi tp fv fr cl0 pl wd rd tr0 co bi wl mn wi nu mv : Nat} {c d : Int32} (m_m : m ∈ L) (e_m : f m = ob 12 [.int 0, .ref wo, .ref img, .ref hi, .ref tp, .int 0, .ref fv, .int 0, .int 0, .int 0, .int 0, .int 0, .int 0, .int (-1), .ref fr, .ref cl0, .ref pl, .int 0, .ref wd, .ref rd, .int (-1), .ref tr0, .ref co, .ref bi, .ref wl, .ref mn, .ref wi, .ref nu, .ref mv]) (m_wo : wo ∈ L) (e_wo : f wo = aI E 2076 (fun _ => 0)) : CI l yX12_asksTwo cX12_asksTwo 3 .int 2 0 0 E [.ref m, .int c, .int d] L f (fun r L1 f1 => sp_cd c d = r ∧ L = L1 ∧ f = f1) := by
  refine ci_of (by decide) (Nat.le_of_ble_eq_true rfl) (fun z hz hnm hC hR => ?_)
  have hC : Cx z E cX12_asksTwo RX12 3 2 0 0 := hC
  subst hz
  show V z E 3 0 0 L f 0 [(0, .ref m), (1, .int c), (2, .int d)] []
  refine v_iload_n hC dX12_asksTwo_0 rfl ?_
  refine v_si hC (rest := []) mt_X12_isCloth (d_isCloth) mx_X12_isCloth ml_X12_319 (by decide) rfl (cells1 := 0) (slots1 := 0) (by decide) (by decide) (Nat.le_of_ble_eq_true rfl) (Nat.le_of_ble_eq_true rfl) rfl (Nat.le_of_ble_eq_true rfl) dX12_asksTwo_1 (fun r_1 L_2 f_3 h_4 => ?_)
  obtain ⟨rfl, rfl, rfl⟩ := h_4
  refine v_if_eq hC dX12_asksTwo_4 (tgt := 14) (by decide) (fun h_5 => ?_) (fun h_5 => ?_)
  · have h_6 := bI_0 h_5
    refine v_bipush hC dX12_asksTwo_14 (v := (-2)) (by decide) ?_
    refine v_goto hC dX12_asksTwo_16 (tgt := 41) (by decide) ?_
    exact hR _ _ _ _ _ _ _ dX12_asksTwo_41 rfl (Nat.le_of_ble_eq_true rfl) (Nat.le_of_ble_eq_true rfl) ⟨(by unfold sp_cd; simp only [Int32.lt_iff_toInt_lt, Int32.le_iff_toInt_le, Int32.reduceToInt, ← Int32.toInt_inj] at h_6 ⊢; first | omega | (split <;> first | rfl | (exfalso; omega))), rfl, rfl⟩
  · have h_7 := bI_1 h_5
    refine v_iload_n hC dX12_asksTwo_7 rfl ?_
    refine v_si hC (rest := []) mt_X12_isCloth (d_isCloth) mx_X12_isCloth ml_X12_319 (by decide) rfl (cells1 := 0) (slots1 := 0) (by decide) (by decide) (Nat.le_of_ble_eq_true rfl) (Nat.le_of_ble_eq_true rfl) rfl (Nat.le_of_ble_eq_true rfl) dX12_asksTwo_8 (fun r_8 L_9 f_10 h_11 => ?_)
    obtain ⟨rfl, rfl, rfl⟩ := h_11
    refine v_if_ne hC dX12_asksTwo_11 (tgt := 19) (by decide) (fun h_12 => ?_) (fun h_12 => ?_)
    · have h_13 := bI_1 h_12
      refine v_aload_n hC dX12_asksTwo_19 rfl ?_
      refine v_iload_n hC dX12_asksTwo_20 rfl ?_
      refine v_vi hC (rest := []) m_m e_m rfl mi_X12_isThere ms_X12_isThere (d_isThere m_m e_m m_wo e_wo (show 0 ≤ c ∧ c < 4 by simp only [Int32.lt_iff_toInt_lt, Int32.le_iff_toInt_le, Int32.reduceToInt, ← Int32.toInt_inj] at h_7 h_13 ⊢; omega)) mx_X12_isThere ml_X12_351 (by decide) rfl (cells1 := 0) (slots1 := 0) (by decide) (by decide) (Nat.le_of_ble_eq_true rfl) (Nat.le_of_ble_eq_true rfl) rfl (Nat.le_of_ble_eq_true rfl) dX12_asksTwo_21 (fun r_14 L_15 f_16 h_17 => ?_)
      obtain ⟨rfl, rfl, rfl⟩ := h_17
      refine v_if_eq_t hC dX12_asksTwo_24 (tgt := 39) (by decide) (by decide) ?_
      refine v_bipush hC dX12_asksTwo_39 (v := (-6)) (by decide) ?_
      exact hR _ _ _ _ _ _ _ dX12_asksTwo_41 rfl (Nat.le_of_ble_eq_true rfl) (Nat.le_of_ble_eq_true rfl) ⟨(by unfold sp_cd; simp only [Int32.lt_iff_toInt_lt, Int32.le_iff_toInt_le, Int32.reduceToInt, ← Int32.toInt_inj] at h_7 h_13 ⊢; first | omega | (split <;> first | rfl | (exfalso; omega))), rfl, rfl⟩
    · have h_18 := bI_0 h_12
      refine v_bipush hC dX12_asksTwo_14 (v := (-2)) (by decide) ?_
      refine v_goto hC dX12_asksTwo_16 (tgt := 41) (by decide) ?_
      exact hR _ _ _ _ _ _ _ dX12_asksTwo_41 rfl (Nat.le_of_ble_eq_true rfl) (Nat.le_of_ble_eq_true rfl) ⟨(by unfold sp_cd; simp only [Int32.lt_iff_toInt_lt, Int32.le_iff_toInt_le, Int32.reduceToInt, ← Int32.toInt_inj] at h_7 h_18 ⊢; first | omega | (split <;> first | rfl | (exfalso; omega))), rfl, rfl⟩
set_option maxRecDepth 100000 in
set_option maxHeartbeats 4000000 in
theorem y_says {l : Launch} {E : Ez} {L : List Nat} {f : Nat → va_E} {m wo img hi tp fv fr cl0 pl wd rd tr0 co bi wl mn wi nu mv : Nat} {c : Int32} (m_m : m ∈ L) (e_m : f m = ob 12 [.int 0, .ref wo, .ref img, .ref hi, .ref tp, .int 0, .ref fv, .int 0, .int 0, .int 0, .int 0, .int 0, .int 0, .int (-1), .ref fr, .ref cl0, .ref pl, .int 0, .ref wd, .ref rd, .int (-1), .ref tr0, .ref co, .ref bi, .ref wl, .ref mn, .ref wi, .ref nu, .ref mv]) (m_wo : wo ∈ L) (e_wo : f wo = aI E 2076 (fun _ => 0)) : CI l yX12_says cX12_says 5 .int 3 0 0 E [.ref m, .int c] L f (fun r L1 f1 => sp_c c = r) := by
  refine ci_of (by decide) (Nat.le_of_ble_eq_true rfl) (fun z hz hnm hC hR => ?_)
  have hC : Cx z E cX12_says RX12 5 3 0 0 := hC
  subst hz
  show V z E 5 0 0 L f 0 [(0, .ref m), (1, .int c)] []
  refine v_aload_n hC dX12_says_0 rfl ?_
  refine v_iload_n hC dX12_says_1 rfl ?_
  refine v_vi hC (rest := []) m_m e_m rfl mi_X12_asksCloth ms_X12_asksCloth (d_asksC m_m e_m m_wo e_wo) mx_X12_asksCloth ml_X12_376 (by decide) rfl (cells1 := 0) (slots1 := 0) (by decide) (by decide) (Nat.le_of_ble_eq_true rfl) (Nat.le_of_ble_eq_true rfl) rfl (Nat.le_of_ble_eq_true rfl) dX12_says_2 (fun r_1 L_2 f_3 h_4 => ?_)
  obtain ⟨rfl, rfl, rfl⟩ := h_4
  refine v_istore_n hC dX12_says_5 (by decide) (lv' := [(2, .int (sp_c c)), (0, .ref m), (1, .int c)]) rfl ?_
  refine v_iload_n hC dX12_says_6 rfl ?_
  refine v_if_ge_f hC dX12_says_7 (tgt := 12) (by decide) (Int32.not_le.mpr (sp_c_neg c)) ?_
  refine v_iload_n hC dX12_says_10 rfl ?_
  exact hR _ _ _ _ _ _ _ dX12_says_11 rfl (Nat.le_of_ble_eq_true rfl) (Nat.le_of_ble_eq_true rfl) rfl
set_option maxRecDepth 100000 in
set_option maxHeartbeats 4000000 in
theorem y_stops {l : Launch} {E : Ez} {L : List Nat} {f : Nat → va_E} {m wo img hi tp fv fr cl0 pl wd rd tr0 co bi wl mn wi nu mv : Nat} {c : Int32} (m_m : m ∈ L) (e_m : f m = ob 12 [.int 0, .ref wo, .ref img, .ref hi, .ref tp, .int 0, .ref fv, .int 0, .int 0, .int 0, .int 0, .int 0, .int 0, .int (-1), .ref fr, .ref cl0, .ref pl, .int 0, .ref wd, .ref rd, .int (-1), .ref tr0, .ref co, .ref bi, .ref wl, .ref mn, .ref wi, .ref nu, .ref mv]) (m_wo : wo ∈ L) (e_wo : f wo = aI E 2076 (fun _ => 0)) : CI l yX12_stops cX12_stops 3 .int 3 0 0 E [.ref m, .int c] L f (fun r L1 f1 => sp_c c = r) := by
  refine ci_of (by decide) (Nat.le_of_ble_eq_true rfl) (fun z hz hnm hC hR => ?_)
  have hC : Cx z E cX12_stops RX12 3 3 0 0 := hC
  subst hz
  show V z E 3 0 0 L f 0 [(0, .ref m), (1, .int c)] []
  refine v_aload_n hC dX12_stops_0 rfl ?_
  refine v_iload_n hC dX12_stops_1 rfl ?_
  refine v_vi hC (rest := []) m_m e_m rfl mi_X12_asksCloth ms_X12_asksCloth (d_asksC m_m e_m m_wo e_wo) mx_X12_asksCloth ml_X12_376 (by decide) rfl (cells1 := 0) (slots1 := 0) (by decide) (by decide) (Nat.le_of_ble_eq_true rfl) (Nat.le_of_ble_eq_true rfl) rfl (Nat.le_of_ble_eq_true rfl) dX12_stops_2 (fun r_1 L_2 f_3 h_4 => ?_)
  obtain ⟨rfl, rfl, rfl⟩ := h_4
  refine v_istore_n hC dX12_stops_5 (by decide) (lv' := [(2, .int (sp_c c)), (0, .ref m), (1, .int c)]) rfl ?_
  refine v_iload_n hC dX12_stops_6 rfl ?_
  refine v_if_ge_f hC dX12_stops_7 (tgt := 12) (by decide) (Int32.not_le.mpr (sp_c_neg c)) ?_
  refine v_iload_n hC dX12_stops_10 rfl ?_
  exact hR _ _ _ _ _ _ _ dX12_stops_11 rfl (Nat.le_of_ble_eq_true rfl) (Nat.le_of_ble_eq_true rfl) rfl
set_option maxRecDepth 100000 in
set_option maxHeartbeats 4000000 in
theorem y_best {l : Launch} {E : Ez} {L : List Nat} {f : Nat → va_E} {m wo img hi tp fv fr cl0 pl wd rd tr0 co bi wl mn wi nu mv : Nat} {c : Int32} (m_m : m ∈ L) (e_m : f m = ob 12 [.int 0, .ref wo, .ref img, .ref hi, .ref tp, .int 0, .ref fv, .int 0, .int 0, .int 0, .int 0, .int 0, .int 0, .int (-1), .ref fr, .ref cl0, .ref pl, .int 0, .ref wd, .ref rd, .int (-1), .ref tr0, .ref co, .ref bi, .ref wl, .ref mn, .ref wi, .ref nu, .ref mv]) (m_wo : wo ∈ L) (e_wo : f wo = aI E 2076 (fun _ => 0)) : CI l yX12_best cX12_best 7 .int 3 0 0 E [.ref m, .int c] L f (fun r L1 f1 => sp_c c = r) := by
  refine ci_of (by decide) (Nat.le_of_ble_eq_true rfl) (fun z hz hnm hC hR => ?_)
  have hC : Cx z E cX12_best RX12 7 3 0 0 := hC
  subst hz
  show V z E 7 0 0 L f 0 [(0, .ref m), (1, .int c)] []
  refine v_aload_n hC dX12_best_0 rfl ?_
  refine v_iload_n hC dX12_best_1 rfl ?_
  refine v_vi hC (rest := []) m_m e_m rfl mi_X12_asksCloth ms_X12_asksCloth (d_asksC m_m e_m m_wo e_wo) mx_X12_asksCloth ml_X12_376 (by decide) rfl (cells1 := 0) (slots1 := 0) (by decide) (by decide) (Nat.le_of_ble_eq_true rfl) (Nat.le_of_ble_eq_true rfl) rfl (Nat.le_of_ble_eq_true rfl) dX12_best_2 (fun r_1 L_2 f_3 h_4 => ?_)
  obtain ⟨rfl, rfl, rfl⟩ := h_4
  refine v_istore_n hC dX12_best_5 (by decide) (lv' := [(2, .int (sp_c c)), (0, .ref m), (1, .int c)]) rfl ?_
  refine v_iload_n hC dX12_best_6 rfl ?_
  refine v_if_ge_f hC dX12_best_7 (tgt := 12) (by decide) (Int32.not_le.mpr (sp_c_neg c)) ?_
  refine v_iload_n hC dX12_best_10 rfl ?_
  exact hR _ _ _ _ _ _ _ dX12_best_11 rfl (Nat.le_of_ble_eq_true rfl) (Nat.le_of_ble_eq_true rfl) rfl
set_option maxRecDepth 100000 in
set_option maxHeartbeats 4000000 in
theorem y_lose {l : Launch} {E : Ez} {L : List Nat} {f : Nat → va_E} {m wo img hi tp fv fr cl0 pl wd rd tr0 co bi wl mn wi nu mv : Nat} {c : Int32} (m_m : m ∈ L) (e_m : f m = ob 12 [.int 0, .ref wo, .ref img, .ref hi, .ref tp, .int 0, .ref fv, .int 0, .int 0, .int 0, .int 0, .int 0, .int 0, .int (-1), .ref fr, .ref cl0, .ref pl, .int 0, .ref wd, .ref rd, .int (-1), .ref tr0, .ref co, .ref bi, .ref wl, .ref mn, .ref wi, .ref nu, .ref mv]) (m_wo : wo ∈ L) (e_wo : f wo = aI E 2076 (fun _ => 0)) : CI l yX12_lose cX12_lose 5 .int 3 0 0 E [.ref m, .int c] L f (fun r L1 f1 => sp_c c = r) := by
  refine ci_of (by decide) (Nat.le_of_ble_eq_true rfl) (fun z hz hnm hC hR => ?_)
  have hC : Cx z E cX12_lose RX12 5 3 0 0 := hC
  subst hz
  show V z E 5 0 0 L f 0 [(0, .ref m), (1, .int c)] []
  refine v_aload_n hC dX12_lose_0 rfl ?_
  refine v_iload_n hC dX12_lose_1 rfl ?_
  refine v_vi hC (rest := []) m_m e_m rfl mi_X12_asksCloth ms_X12_asksCloth (d_asksC m_m e_m m_wo e_wo) mx_X12_asksCloth ml_X12_376 (by decide) rfl (cells1 := 0) (slots1 := 0) (by decide) (by decide) (Nat.le_of_ble_eq_true rfl) (Nat.le_of_ble_eq_true rfl) rfl (Nat.le_of_ble_eq_true rfl) dX12_lose_2 (fun r_1 L_2 f_3 h_4 => ?_)
  obtain ⟨rfl, rfl, rfl⟩ := h_4
  refine v_istore_n hC dX12_lose_5 (by decide) (lv' := [(2, .int (sp_c c)), (0, .ref m), (1, .int c)]) rfl ?_
  refine v_iload_n hC dX12_lose_6 rfl ?_
  refine v_if_ge_f hC dX12_lose_7 (tgt := 12) (by decide) (Int32.not_le.mpr (sp_c_neg c)) ?_
  refine v_iload_n hC dX12_lose_10 rfl ?_
  exact hR _ _ _ _ _ _ _ dX12_lose_11 rfl (Nat.le_of_ble_eq_true rfl) (Nat.le_of_ble_eq_true rfl) rfl
set_option maxRecDepth 100000 in
set_option maxHeartbeats 4000000 in
theorem y_mend {l : Launch} {E : Ez} {L : List Nat} {f : Nat → va_E} {m wo img hi tp fv fr cl0 pl wd rd tr0 co bi wl mn wi nu mv : Nat} {c : Int32} (m_m : m ∈ L) (e_m : f m = ob 12 [.int 0, .ref wo, .ref img, .ref hi, .ref tp, .int 0, .ref fv, .int 0, .int 0, .int 0, .int 0, .int 0, .int 0, .int (-1), .ref fr, .ref cl0, .ref pl, .int 0, .ref wd, .ref rd, .int (-1), .ref tr0, .ref co, .ref bi, .ref wl, .ref mn, .ref wi, .ref nu, .ref mv]) (m_wo : wo ∈ L) (e_wo : f wo = aI E 2076 (fun _ => 0)) : CI l yX12_mend cX12_mend 8 .int 3 0 0 E [.ref m, .int c] L f (fun r L1 f1 => sp_c c = r) := by
  refine ci_of (by decide) (Nat.le_of_ble_eq_true rfl) (fun z hz hnm hC hR => ?_)
  have hC : Cx z E cX12_mend RX12 8 3 0 0 := hC
  subst hz
  show V z E 8 0 0 L f 0 [(0, .ref m), (1, .int c)] []
  refine v_aload_n hC dX12_mend_0 rfl ?_
  refine v_iload_n hC dX12_mend_1 rfl ?_
  refine v_vi hC (rest := []) m_m e_m rfl mi_X12_asksCloth ms_X12_asksCloth (d_asksC m_m e_m m_wo e_wo) mx_X12_asksCloth ml_X12_376 (by decide) rfl (cells1 := 0) (slots1 := 0) (by decide) (by decide) (Nat.le_of_ble_eq_true rfl) (Nat.le_of_ble_eq_true rfl) rfl (Nat.le_of_ble_eq_true rfl) dX12_mend_2 (fun r_1 L_2 f_3 h_4 => ?_)
  obtain ⟨rfl, rfl, rfl⟩ := h_4
  refine v_istore_n hC dX12_mend_5 (by decide) (lv' := [(2, .int (sp_c c)), (0, .ref m), (1, .int c)]) rfl ?_
  refine v_iload_n hC dX12_mend_6 rfl ?_
  refine v_if_ge_f hC dX12_mend_7 (tgt := 12) (by decide) (Int32.not_le.mpr (sp_c_neg c)) ?_
  refine v_iload_n hC dX12_mend_10 rfl ?_
  exact hR _ _ _ _ _ _ _ dX12_mend_11 rfl (Nat.le_of_ble_eq_true rfl) (Nat.le_of_ble_eq_true rfl) rfl
set_option maxRecDepth 100000 in
set_option maxHeartbeats 4000000 in
theorem y_ball {l : Launch} {E : Ez} {L : List Nat} {f : Nat → va_E} {m wo img hi tp fv fr cl0 pl wd rd tr0 co bi wl mn wi nu mv : Nat} {c : Int32} {i : Int32} (m_m : m ∈ L) (e_m : f m = ob 12 [.int 0, .ref wo, .ref img, .ref hi, .ref tp, .int 0, .ref fv, .int 0, .int 0, .int 0, .int 0, .int 0, .int 0, .int (-1), .ref fr, .ref cl0, .ref pl, .int 0, .ref wd, .ref rd, .int (-1), .ref tr0, .ref co, .ref bi, .ref wl, .ref mn, .ref wi, .ref nu, .ref mv]) (m_wo : wo ∈ L) (e_wo : f wo = aI E 2076 (fun _ => 0)) : CI l yX12_ball cX12_ball 4 .int 3 0 0 E [.ref m, .int c, .int i] L f (fun r L1 f1 => sp_c c = r) := by
  refine ci_of (by decide) (Nat.le_of_ble_eq_true rfl) (fun z hz hnm hC hR => ?_)
  have hC : Cx z E cX12_ball RX12 4 3 0 0 := hC
  subst hz
  show V z E 4 0 0 L f 0 [(0, .ref m), (1, .int c), (2, .int i)] []
  refine v_aload_n hC dX12_ball_0 rfl ?_
  refine v_iload_n hC dX12_ball_1 rfl ?_
  refine v_vi hC (rest := []) m_m e_m rfl mi_X12_asksCloth ms_X12_asksCloth (d_asksC m_m e_m m_wo e_wo) mx_X12_asksCloth ml_X12_376 (by decide) rfl (cells1 := 0) (slots1 := 0) (by decide) (by decide) (Nat.le_of_ble_eq_true rfl) (Nat.le_of_ble_eq_true rfl) rfl (Nat.le_of_ble_eq_true rfl) dX12_ball_2 (fun r_1 L_2 f_3 h_4 => ?_)
  obtain ⟨rfl, rfl, rfl⟩ := h_4
  refine v_istore_n hC dX12_ball_5 (by decide) (lv' := [(3, .int (sp_c c)), (0, .ref m), (1, .int c), (2, .int i)]) rfl ?_
  refine v_iload_n hC dX12_ball_6 rfl ?_
  refine v_if_ge_f hC dX12_ball_7 (tgt := 12) (by decide) (Int32.not_le.mpr (sp_c_neg c)) ?_
  refine v_iload_n hC dX12_ball_10 rfl ?_
  exact hR _ _ _ _ _ _ _ dX12_ball_11 rfl (Nat.le_of_ble_eq_true rfl) (Nat.le_of_ble_eq_true rfl) rfl
set_option maxRecDepth 100000 in
set_option maxHeartbeats 4000000 in
theorem y_alike {l : Launch} {E : Ez} {L : List Nat} {f : Nat → va_E} {m wo img hi tp fv fr cl0 pl wd rd tr0 co bi wl mn wi nu mv : Nat} {c : Int32} {d : Int32} (m_m : m ∈ L) (e_m : f m = ob 12 [.int 0, .ref wo, .ref img, .ref hi, .ref tp, .int 0, .ref fv, .int 0, .int 0, .int 0, .int 0, .int 0, .int 0, .int (-1), .ref fr, .ref cl0, .ref pl, .int 0, .ref wd, .ref rd, .int (-1), .ref tr0, .ref co, .ref bi, .ref wl, .ref mn, .ref wi, .ref nu, .ref mv]) (m_wo : wo ∈ L) (e_wo : f wo = aI E 2076 (fun _ => 0)) : CI l yX12_alike cX12_alike 6 .int 3 0 0 E [.ref m, .int c, .int d] L f (fun r L1 f1 => sp_cd c d = r) := by
  refine ci_of (by decide) (Nat.le_of_ble_eq_true rfl) (fun z hz hnm hC hR => ?_)
  have hC : Cx z E cX12_alike RX12 6 3 0 0 := hC
  subst hz
  show V z E 6 0 0 L f 0 [(0, .ref m), (1, .int c), (2, .int d)] []
  refine v_aload_n hC dX12_alike_0 rfl ?_
  refine v_iload_n hC dX12_alike_1 rfl ?_
  refine v_iload_n hC dX12_alike_2 rfl ?_
  refine v_vi hC (rest := []) m_m e_m rfl mi_X12_asksTwo ms_X12_asksTwo (d_asksT m_m e_m m_wo e_wo) mx_X12_asksTwo ml_X12_419 (by decide) rfl (cells1 := 0) (slots1 := 0) (by decide) (by decide) (Nat.le_of_ble_eq_true rfl) (Nat.le_of_ble_eq_true rfl) rfl (Nat.le_of_ble_eq_true rfl) dX12_alike_3 (fun r_1 L_2 f_3 h_4 => ?_)
  obtain ⟨rfl, rfl, rfl⟩ := h_4
  refine v_istore_n hC dX12_alike_6 (by decide) (lv' := [(3, .int (sp_cd c d)), (0, .ref m), (1, .int c), (2, .int d)]) rfl ?_
  refine v_iload_n hC dX12_alike_7 rfl ?_
  refine v_if_ge_f hC dX12_alike_8 (tgt := 13) (by decide) (Int32.not_le.mpr (sp_cd_neg c d)) ?_
  refine v_iload_n hC dX12_alike_11 rfl ?_
  exact hR _ _ _ _ _ _ _ dX12_alike_12 rfl (Nat.le_of_ble_eq_true rfl) (Nat.le_of_ble_eq_true rfl) rfl
set_option maxRecDepth 100000 in
set_option maxHeartbeats 4000000 in
theorem y_rewind {l : Launch} {E : Ez} {L : List Nat} {f : Nat → va_E} {m wo img hi tp fv fr cl0 pl wd rd tr0 co bi wl mn wi nu mv : Nat} {c : Int32} {d : Int32} (m_m : m ∈ L) (e_m : f m = ob 12 [.int 0, .ref wo, .ref img, .ref hi, .ref tp, .int 0, .ref fv, .int 0, .int 0, .int 0, .int 0, .int 0, .int 0, .int (-1), .ref fr, .ref cl0, .ref pl, .int 0, .ref wd, .ref rd, .int (-1), .ref tr0, .ref co, .ref bi, .ref wl, .ref mn, .ref wi, .ref nu, .ref mv]) (m_wo : wo ∈ L) (e_wo : f wo = aI E 2076 (fun _ => 0)) : CI l yX12_rewind cX12_rewind 9 .int 2 0 0 E [.ref m, .int c, .int d] L f (fun r L1 f1 => sp_cd c d = r) := by
  refine ci_of (by decide) (Nat.le_of_ble_eq_true rfl) (fun z hz hnm hC hR => ?_)
  have hC : Cx z E cX12_rewind RX12 9 2 0 0 := hC
  subst hz
  show V z E 9 0 0 L f 0 [(0, .ref m), (1, .int c), (2, .int d)] []
  refine v_iload_n hC dX12_rewind_0 rfl ?_
  refine v_si hC (rest := []) mt_X12_isCloth (d_isCloth) mx_X12_isCloth ml_X12_319 (by decide) rfl (cells1 := 0) (slots1 := 0) (by decide) (by decide) (Nat.le_of_ble_eq_true rfl) (Nat.le_of_ble_eq_true rfl) rfl (Nat.le_of_ble_eq_true rfl) dX12_rewind_1 (fun r_1 L_2 f_3 h_4 => ?_)
  obtain ⟨rfl, rfl, rfl⟩ := h_4
  refine v_if_eq hC dX12_rewind_4 (tgt := 14) (by decide) (fun h_5 => ?_) (fun h_5 => ?_)
  · have h_6 := bI_0 h_5
    refine v_bipush hC dX12_rewind_14 (v := (-2)) (by decide) ?_
    exact hR _ _ _ _ _ _ _ dX12_rewind_16 rfl (Nat.le_of_ble_eq_true rfl) (Nat.le_of_ble_eq_true rfl) (by unfold sp_cd; simp only [Int32.lt_iff_toInt_lt, Int32.le_iff_toInt_le, Int32.reduceToInt, ← Int32.toInt_inj] at h_6 ⊢; first | omega | (split <;> first | rfl | (exfalso; omega)))
  · have h_7 := bI_1 h_5
    refine v_iload_n hC dX12_rewind_7 rfl ?_
    refine v_si hC (rest := []) mt_X12_isCloth (d_isCloth) mx_X12_isCloth ml_X12_319 (by decide) rfl (cells1 := 0) (slots1 := 0) (by decide) (by decide) (Nat.le_of_ble_eq_true rfl) (Nat.le_of_ble_eq_true rfl) rfl (Nat.le_of_ble_eq_true rfl) dX12_rewind_8 (fun r_8 L_9 f_10 h_11 => ?_)
    obtain ⟨rfl, rfl, rfl⟩ := h_11
    refine v_if_ne hC dX12_rewind_11 (tgt := 17) (by decide) (fun h_12 => ?_) (fun h_12 => ?_)
    · have h_13 := bI_1 h_12
      refine v_aload_n hC dX12_rewind_17 rfl ?_
      refine v_iload_n hC dX12_rewind_18 rfl ?_
      refine v_vi hC (rest := []) m_m e_m rfl mi_X12_isThere ms_X12_isThere (d_isThere m_m e_m m_wo e_wo (show 0 ≤ c ∧ c < 4 by simp only [Int32.lt_iff_toInt_lt, Int32.le_iff_toInt_le, Int32.reduceToInt, ← Int32.toInt_inj] at h_7 h_13 ⊢; omega)) mx_X12_isThere ml_X12_351 (by decide) rfl (cells1 := 0) (slots1 := 0) (by decide) (by decide) (Nat.le_of_ble_eq_true rfl) (Nat.le_of_ble_eq_true rfl) rfl (Nat.le_of_ble_eq_true rfl) dX12_rewind_19 (fun r_14 L_15 f_16 h_17 => ?_)
      obtain ⟨rfl, rfl, rfl⟩ := h_17
      refine v_if_ne_f hC dX12_rewind_22 (tgt := 28) (by decide) (by decide) ?_
      refine v_bipush hC dX12_rewind_25 (v := (-6)) (by decide) ?_
      exact hR _ _ _ _ _ _ _ dX12_rewind_27 rfl (Nat.le_of_ble_eq_true rfl) (Nat.le_of_ble_eq_true rfl) (by unfold sp_cd; simp only [Int32.lt_iff_toInt_lt, Int32.le_iff_toInt_le, Int32.reduceToInt, ← Int32.toInt_inj] at h_7 h_13 ⊢; first | omega | (split <;> first | rfl | (exfalso; omega)))
    · have h_18 := bI_0 h_12
      refine v_bipush hC dX12_rewind_14 (v := (-2)) (by decide) ?_
      exact hR _ _ _ _ _ _ _ dX12_rewind_16 rfl (Nat.le_of_ble_eq_true rfl) (Nat.le_of_ble_eq_true rfl) (by unfold sp_cd; simp only [Int32.lt_iff_toInt_lt, Int32.le_iff_toInt_le, Int32.reduceToInt, ← Int32.toInt_inj] at h_7 h_18 ⊢; first | omega | (split <;> first | rfl | (exfalso; omega)))
set_option maxRecDepth 100000 in
set_option maxHeartbeats 4000000 in
theorem y_copy {l : Launch} {E : Ez} {L : List Nat} {f : Nat → va_E} {m wo img hi tp fv fr cl0 pl wd rd tr0 co bi wl mn wi nu mv : Nat} {c : Int32} {d : Int32} (m_m : m ∈ L) (e_m : f m = ob 12 [.int 0, .ref wo, .ref img, .ref hi, .ref tp, .int 0, .ref fv, .int 0, .int 0, .int 0, .int 0, .int 0, .int 0, .int (-1), .ref fr, .ref cl0, .ref pl, .int 0, .ref wd, .ref rd, .int (-1), .ref tr0, .ref co, .ref bi, .ref wl, .ref mn, .ref wi, .ref nu, .ref mv]) (m_wo : wo ∈ L) (e_wo : f wo = aI E 2076 (fun _ => 0)) : CI l yX12_copy cX12_copy 3 .int 2 0 0 E [.ref m, .int c, .int d] L f (fun r L1 f1 => sp_cd c d = r) := by
  refine ci_of (by decide) (Nat.le_of_ble_eq_true rfl) (fun z hz hnm hC hR => ?_)
  have hC : Cx z E cX12_copy RX12 3 2 0 0 := hC
  subst hz
  show V z E 3 0 0 L f 0 [(0, .ref m), (1, .int c), (2, .int d)] []
  refine v_iload_n hC dX12_copy_0 rfl ?_
  refine v_si hC (rest := []) mt_X12_isCloth (d_isCloth) mx_X12_isCloth ml_X12_319 (by decide) rfl (cells1 := 0) (slots1 := 0) (by decide) (by decide) (Nat.le_of_ble_eq_true rfl) (Nat.le_of_ble_eq_true rfl) rfl (Nat.le_of_ble_eq_true rfl) dX12_copy_1 (fun r_1 L_2 f_3 h_4 => ?_)
  obtain ⟨rfl, rfl, rfl⟩ := h_4
  refine v_if_eq hC dX12_copy_4 (tgt := 14) (by decide) (fun h_5 => ?_) (fun h_5 => ?_)
  · have h_6 := bI_0 h_5
    refine v_bipush hC dX12_copy_14 (v := (-2)) (by decide) ?_
    exact hR _ _ _ _ _ _ _ dX12_copy_16 rfl (Nat.le_of_ble_eq_true rfl) (Nat.le_of_ble_eq_true rfl) (by unfold sp_cd; simp only [Int32.lt_iff_toInt_lt, Int32.le_iff_toInt_le, Int32.reduceToInt, ← Int32.toInt_inj] at h_6 ⊢; first | omega | (split <;> first | rfl | (exfalso; omega)))
  · have h_7 := bI_1 h_5
    refine v_iload_n hC dX12_copy_7 rfl ?_
    refine v_si hC (rest := []) mt_X12_isCloth (d_isCloth) mx_X12_isCloth ml_X12_319 (by decide) rfl (cells1 := 0) (slots1 := 0) (by decide) (by decide) (Nat.le_of_ble_eq_true rfl) (Nat.le_of_ble_eq_true rfl) rfl (Nat.le_of_ble_eq_true rfl) dX12_copy_8 (fun r_8 L_9 f_10 h_11 => ?_)
    obtain ⟨rfl, rfl, rfl⟩ := h_11
    refine v_if_ne hC dX12_copy_11 (tgt := 17) (by decide) (fun h_12 => ?_) (fun h_12 => ?_)
    · have h_13 := bI_1 h_12
      refine v_aload_n hC dX12_copy_17 rfl ?_
      refine v_iload_n hC dX12_copy_18 rfl ?_
      refine v_vi hC (rest := []) m_m e_m rfl mi_X12_isThere ms_X12_isThere (d_isThere m_m e_m m_wo e_wo (show 0 ≤ c ∧ c < 4 by simp only [Int32.lt_iff_toInt_lt, Int32.le_iff_toInt_le, Int32.reduceToInt, ← Int32.toInt_inj] at h_7 h_13 ⊢; omega)) mx_X12_isThere ml_X12_351 (by decide) rfl (cells1 := 0) (slots1 := 0) (by decide) (by decide) (Nat.le_of_ble_eq_true rfl) (Nat.le_of_ble_eq_true rfl) rfl (Nat.le_of_ble_eq_true rfl) dX12_copy_19 (fun r_14 L_15 f_16 h_17 => ?_)
      obtain ⟨rfl, rfl, rfl⟩ := h_17
      refine v_if_ne_f hC dX12_copy_22 (tgt := 28) (by decide) (by decide) ?_
      refine v_bipush hC dX12_copy_25 (v := (-6)) (by decide) ?_
      exact hR _ _ _ _ _ _ _ dX12_copy_27 rfl (Nat.le_of_ble_eq_true rfl) (Nat.le_of_ble_eq_true rfl) (by unfold sp_cd; simp only [Int32.lt_iff_toInt_lt, Int32.le_iff_toInt_le, Int32.reduceToInt, ← Int32.toInt_inj] at h_7 h_13 ⊢; first | omega | (split <;> first | rfl | (exfalso; omega)))
    · have h_18 := bI_0 h_12
      refine v_bipush hC dX12_copy_14 (v := (-2)) (by decide) ?_
      exact hR _ _ _ _ _ _ _ dX12_copy_16 rfl (Nat.le_of_ble_eq_true rfl) (Nat.le_of_ble_eq_true rfl) (by unfold sp_cd; simp only [Int32.lt_iff_toInt_lt, Int32.le_iff_toInt_le, Int32.reduceToInt, ← Int32.toInt_inj] at h_7 h_18 ⊢; first | omega | (split <;> first | rfl | (exfalso; omega)))
set_option maxRecDepth 100000 in
set_option maxHeartbeats 4000000 in
theorem y_put {l : Launch} {E : Ez} {L : List Nat} {f : Nat → va_E} {m wo img hi tp fv fr cl0 pl wd rd tr0 co bi wl mn wi nu mv : Nat} {c : Int32} {k : Int32} (m_m : m ∈ L) (e_m : f m = ob 12 [.int 0, .ref wo, .ref img, .ref hi, .ref tp, .int 0, .ref fv, .int 0, .int 0, .int 0, .int 0, .int 0, .int 0, .int (-1), .ref fr, .ref cl0, .ref pl, .int 0, .ref wd, .ref rd, .int (-1), .ref tr0, .ref co, .ref bi, .ref wl, .ref mn, .ref wi, .ref nu, .ref mv]) (m_wo : wo ∈ L) (e_wo : f wo = aI E 2076 (fun _ => 0)) : CI l yX12_put cX12_put 6 .int 3 0 0 E [.ref m, .int c, .int k] L f (fun r L1 f1 => sp_ck c k = r) := by
  refine ci_of (by decide) (Nat.le_of_ble_eq_true rfl) (fun z hz hnm hC hR => ?_)
  have hC : Cx z E cX12_put RX12 6 3 0 0 := hC
  subst hz
  show V z E 6 0 0 L f 0 [(0, .ref m), (1, .int c), (2, .int k)] []
  refine v_aload_n hC dX12_put_0 rfl ?_
  refine v_iload_n hC dX12_put_1 rfl ?_
  refine v_iload_n hC dX12_put_2 rfl ?_
  refine v_vi hC (rest := []) m_m e_m rfl mi_X12_asks ms_X12_asks (d_asks m_m e_m m_wo e_wo) mx_X12_asks ml_X12_357 (by decide) rfl (cells1 := 0) (slots1 := 0) (by decide) (by decide) (Nat.le_of_ble_eq_true rfl) (Nat.le_of_ble_eq_true rfl) rfl (Nat.le_of_ble_eq_true rfl) dX12_put_3 (fun r_1 L_2 f_3 h_4 => ?_)
  obtain ⟨rfl, rfl, rfl⟩ := h_4
  refine v_istore_n hC dX12_put_6 (by decide) (lv' := [(3, .int (sp_ck c k)), (0, .ref m), (1, .int c), (2, .int k)]) rfl ?_
  refine v_iload_n hC dX12_put_7 rfl ?_
  refine v_if_ge_f hC dX12_put_8 (tgt := 13) (by decide) (Int32.not_le.mpr (sp_ck_neg c k)) ?_
  refine v_iload_n hC dX12_put_11 rfl ?_
  exact hR _ _ _ _ _ _ _ dX12_put_12 rfl (Nat.le_of_ble_eq_true rfl) (Nat.le_of_ble_eq_true rfl) rfl
set_option maxRecDepth 100000 in
set_option maxHeartbeats 4000000 in
theorem y_read {l : Launch} {E : Ez} {L : List Nat} {f : Nat → va_E} {m wo img hi tp fv fr cl0 pl wd rd tr0 co bi wl mn wi nu mv : Nat} {c : Int32} {k : Int32} (m_m : m ∈ L) (e_m : f m = ob 12 [.int 0, .ref wo, .ref img, .ref hi, .ref tp, .int 0, .ref fv, .int 0, .int 0, .int 0, .int 0, .int 0, .int 0, .int (-1), .ref fr, .ref cl0, .ref pl, .int 0, .ref wd, .ref rd, .int (-1), .ref tr0, .ref co, .ref bi, .ref wl, .ref mn, .ref wi, .ref nu, .ref mv]) (m_wo : wo ∈ L) (e_wo : f wo = aI E 2076 (fun _ => 0)) : CI l yX12_read cX12_read 6 .int 3 0 0 E [.ref m, .int c, .int k] L f (fun r L1 f1 => sp_ck c k = r) := by
  refine ci_of (by decide) (Nat.le_of_ble_eq_true rfl) (fun z hz hnm hC hR => ?_)
  have hC : Cx z E cX12_read RX12 6 3 0 0 := hC
  subst hz
  show V z E 6 0 0 L f 0 [(0, .ref m), (1, .int c), (2, .int k)] []
  refine v_aload_n hC dX12_read_0 rfl ?_
  refine v_iload_n hC dX12_read_1 rfl ?_
  refine v_iload_n hC dX12_read_2 rfl ?_
  refine v_vi hC (rest := []) m_m e_m rfl mi_X12_asks ms_X12_asks (d_asks m_m e_m m_wo e_wo) mx_X12_asks ml_X12_357 (by decide) rfl (cells1 := 0) (slots1 := 0) (by decide) (by decide) (Nat.le_of_ble_eq_true rfl) (Nat.le_of_ble_eq_true rfl) rfl (Nat.le_of_ble_eq_true rfl) dX12_read_3 (fun r_1 L_2 f_3 h_4 => ?_)
  obtain ⟨rfl, rfl, rfl⟩ := h_4
  refine v_istore_n hC dX12_read_6 (by decide) (lv' := [(3, .int (sp_ck c k)), (0, .ref m), (1, .int c), (2, .int k)]) rfl ?_
  refine v_iload_n hC dX12_read_7 rfl ?_
  refine v_if_ge_f hC dX12_read_8 (tgt := 13) (by decide) (Int32.not_le.mpr (sp_ck_neg c k)) ?_
  refine v_iload_n hC dX12_read_11 rfl ?_
  exact hR _ _ _ _ _ _ _ dX12_read_12 rfl (Nat.le_of_ble_eq_true rfl) (Nat.le_of_ble_eq_true rfl) rfl
set_option maxRecDepth 100000 in
set_option maxHeartbeats 4000000 in
theorem y_dim {l : Launch} {E : Ez} {L : List Nat} {f : Nat → va_E} {m wo img hi tp fv fr cl0 pl wd rd tr0 co bi wl mn wi nu mv : Nat} {c : Int32} {k : Int32} (m_m : m ∈ L) (e_m : f m = ob 12 [.int 0, .ref wo, .ref img, .ref hi, .ref tp, .int 0, .ref fv, .int 0, .int 0, .int 0, .int 0, .int 0, .int 0, .int (-1), .ref fr, .ref cl0, .ref pl, .int 0, .ref wd, .ref rd, .int (-1), .ref tr0, .ref co, .ref bi, .ref wl, .ref mn, .ref wi, .ref nu, .ref mv]) (m_wo : wo ∈ L) (e_wo : f wo = aI E 2076 (fun _ => 0)) : CI l yX12_dim cX12_dim 7 .int 3 0 0 E [.ref m, .int c, .int k] L f (fun r L1 f1 => sp_ck c k = r) := by
  refine ci_of (by decide) (Nat.le_of_ble_eq_true rfl) (fun z hz hnm hC hR => ?_)
  have hC : Cx z E cX12_dim RX12 7 3 0 0 := hC
  subst hz
  show V z E 7 0 0 L f 0 [(0, .ref m), (1, .int c), (2, .int k)] []
  refine v_aload_n hC dX12_dim_0 rfl ?_
  refine v_iload_n hC dX12_dim_1 rfl ?_
  refine v_iload_n hC dX12_dim_2 rfl ?_
  refine v_vi hC (rest := []) m_m e_m rfl mi_X12_asks ms_X12_asks (d_asks m_m e_m m_wo e_wo) mx_X12_asks ml_X12_357 (by decide) rfl (cells1 := 0) (slots1 := 0) (by decide) (by decide) (Nat.le_of_ble_eq_true rfl) (Nat.le_of_ble_eq_true rfl) rfl (Nat.le_of_ble_eq_true rfl) dX12_dim_3 (fun r_1 L_2 f_3 h_4 => ?_)
  obtain ⟨rfl, rfl, rfl⟩ := h_4
  refine v_istore_n hC dX12_dim_6 (by decide) (lv' := [(3, .int (sp_ck c k)), (0, .ref m), (1, .int c), (2, .int k)]) rfl ?_
  refine v_iload_n hC dX12_dim_7 rfl ?_
  refine v_if_ge_f hC dX12_dim_8 (tgt := 13) (by decide) (Int32.not_le.mpr (sp_ck_neg c k)) ?_
  refine v_iload_n hC dX12_dim_11 rfl ?_
  exact hR _ _ _ _ _ _ _ dX12_dim_12 rfl (Nat.le_of_ble_eq_true rfl) (Nat.le_of_ble_eq_true rfl) rfl
set_option maxRecDepth 100000 in
set_option maxHeartbeats 4000000 in
theorem y_bit {l : Launch} {E : Ez} {L : List Nat} {f : Nat → va_E} {m wo img hi tp fv fr cl0 pl wd rd tr0 co bi wl mn wi nu mv : Nat} {c : Int32} {k : Int32} {i : Int32} (m_m : m ∈ L) (e_m : f m = ob 12 [.int 0, .ref wo, .ref img, .ref hi, .ref tp, .int 0, .ref fv, .int 0, .int 0, .int 0, .int 0, .int 0, .int 0, .int (-1), .ref fr, .ref cl0, .ref pl, .int 0, .ref wd, .ref rd, .int (-1), .ref tr0, .ref co, .ref bi, .ref wl, .ref mn, .ref wi, .ref nu, .ref mv]) (m_wo : wo ∈ L) (e_wo : f wo = aI E 2076 (fun _ => 0)) : CI l yX12_bit cX12_bit 5 .int 3 0 0 E [.ref m, .int c, .int k, .int i] L f (fun r L1 f1 => sp_ck c k = r) := by
  refine ci_of (by decide) (Nat.le_of_ble_eq_true rfl) (fun z hz hnm hC hR => ?_)
  have hC : Cx z E cX12_bit RX12 5 3 0 0 := hC
  subst hz
  show V z E 5 0 0 L f 0 [(0, .ref m), (1, .int c), (2, .int k), (3, .int i)] []
  refine v_aload_n hC dX12_bit_0 rfl ?_
  refine v_iload_n hC dX12_bit_1 rfl ?_
  refine v_iload_n hC dX12_bit_2 rfl ?_
  refine v_vi hC (rest := []) m_m e_m rfl mi_X12_asks ms_X12_asks (d_asks m_m e_m m_wo e_wo) mx_X12_asks ml_X12_357 (by decide) rfl (cells1 := 0) (slots1 := 0) (by decide) (by decide) (Nat.le_of_ble_eq_true rfl) (Nat.le_of_ble_eq_true rfl) rfl (Nat.le_of_ble_eq_true rfl) dX12_bit_3 (fun r_1 L_2 f_3 h_4 => ?_)
  obtain ⟨rfl, rfl, rfl⟩ := h_4
  refine v_istore hC dX12_bit_6 (by decide) (lv' := [(4, .int (sp_ck c k)), (0, .ref m), (1, .int c), (2, .int k), (3, .int i)]) rfl ?_
  refine v_iload hC dX12_bit_8 rfl ?_
  refine v_if_ge_f hC dX12_bit_10 (tgt := 16) (by decide) (Int32.not_le.mpr (sp_ck_neg c k)) ?_
  refine v_iload hC dX12_bit_13 rfl ?_
  exact hR _ _ _ _ _ _ _ dX12_bit_15 rfl (Nat.le_of_ble_eq_true rfl) (Nat.le_of_ble_eq_true rfl) rfl
set_option maxRecDepth 100000 in
set_option maxHeartbeats 4000000 in
theorem y_place {l : Launch} {E : Ez} {L : List Nat} {f : Nat → va_E} {m wo img hi tp fv fr cl0 pl wd rd tr0 co bi wl mn wi nu mv : Nat} {k : Int32} {i : Int32} (m_m : m ∈ L) (e_m : f m = ob 12 [.int 0, .ref wo, .ref img, .ref hi, .ref tp, .int 0, .ref fv, .int 0, .int 0, .int 0, .int 0, .int 0, .int 0, .int (-1), .ref fr, .ref cl0, .ref pl, .int 0, .ref wd, .ref rd, .int (-1), .ref tr0, .ref co, .ref bi, .ref wl, .ref mn, .ref wi, .ref nu, .ref mv]) (m_wo : wo ∈ L) (e_wo : f wo = aI E 2076 (fun _ => 0)) : CI l yX12_place cX12_place 4 .int 3 0 0 E [.ref m, .int k, .int i] L f (fun r L1 f1 => sp_k k = r) := by
  refine ci_of (by decide) (Nat.le_of_ble_eq_true rfl) (fun z hz hnm hC hR => ?_)
  have hC : Cx z E cX12_place RX12 4 3 0 0 := hC
  subst hz
  show V z E 4 0 0 L f 0 [(0, .ref m), (1, .int k), (2, .int i)] []
  refine v_aload_n hC dX12_place_0 rfl ?_
  refine v_iload_n hC dX12_place_1 rfl ?_
  refine v_vi hC (rest := []) m_m e_m rfl mi_X12_asksWay ms_X12_asksWay (d_asksW m_m e_m m_wo e_wo) mx_X12_asksWay ml_X12_383 (by decide) rfl (cells1 := 0) (slots1 := 0) (by decide) (by decide) (Nat.le_of_ble_eq_true rfl) (Nat.le_of_ble_eq_true rfl) rfl (Nat.le_of_ble_eq_true rfl) dX12_place_2 (fun r_1 L_2 f_3 h_4 => ?_)
  obtain ⟨rfl, rfl, rfl⟩ := h_4
  refine v_istore_n hC dX12_place_5 (by decide) (lv' := [(3, .int (sp_k k)), (0, .ref m), (1, .int k), (2, .int i)]) rfl ?_
  refine v_iload_n hC dX12_place_6 rfl ?_
  refine v_if_ge_f hC dX12_place_7 (tgt := 12) (by decide) (Int32.not_le.mpr (sp_k_neg k)) ?_
  refine v_iload_n hC dX12_place_10 rfl ?_
  exact hR _ _ _ _ _ _ _ dX12_place_11 rfl (Nat.le_of_ble_eq_true rfl) (Nat.le_of_ble_eq_true rfl) rfl
set_option maxRecDepth 100000 in
set_option maxHeartbeats 4000000 in
theorem y_room {l : Launch} {E : Ez} {L : List Nat} {f : Nat → va_E} {m wo img hi tp fv fr cl0 pl wd rd tr0 co bi wl mn wi nu mv : Nat} {k : Int32} (m_m : m ∈ L) (e_m : f m = ob 12 [.int 0, .ref wo, .ref img, .ref hi, .ref tp, .int 0, .ref fv, .int 0, .int 0, .int 0, .int 0, .int 0, .int 0, .int (-1), .ref fr, .ref cl0, .ref pl, .int 0, .ref wd, .ref rd, .int (-1), .ref tr0, .ref co, .ref bi, .ref wl, .ref mn, .ref wi, .ref nu, .ref mv]) (m_wo : wo ∈ L) (e_wo : f wo = aI E 2076 (fun _ => 0)) : CI l yX12_room cX12_room 3 .int 3 0 0 E [.ref m, .int k] L f (fun r L1 f1 => sp_k k = r) := by
  refine ci_of (by decide) (Nat.le_of_ble_eq_true rfl) (fun z hz hnm hC hR => ?_)
  have hC : Cx z E cX12_room RX12 3 3 0 0 := hC
  subst hz
  show V z E 3 0 0 L f 0 [(0, .ref m), (1, .int k)] []
  refine v_aload_n hC dX12_room_0 rfl ?_
  refine v_iload_n hC dX12_room_1 rfl ?_
  refine v_vi hC (rest := []) m_m e_m rfl mi_X12_asksWay ms_X12_asksWay (d_asksW m_m e_m m_wo e_wo) mx_X12_asksWay ml_X12_383 (by decide) rfl (cells1 := 0) (slots1 := 0) (by decide) (by decide) (Nat.le_of_ble_eq_true rfl) (Nat.le_of_ble_eq_true rfl) rfl (Nat.le_of_ble_eq_true rfl) dX12_room_2 (fun r_1 L_2 f_3 h_4 => ?_)
  obtain ⟨rfl, rfl, rfl⟩ := h_4
  refine v_istore_n hC dX12_room_5 (by decide) (lv' := [(2, .int (sp_k k)), (0, .ref m), (1, .int k)]) rfl ?_
  refine v_iload_n hC dX12_room_6 rfl ?_
  refine v_if_ge_f hC dX12_room_7 (tgt := 14) (by decide) (Int32.not_le.mpr (sp_k_neg k)) ?_
  refine v_iload_n hC dX12_room_10 rfl ?_
  refine v_goto hC dX12_room_11 (tgt := 19) (by decide) ?_
  exact hR _ _ _ _ _ _ _ dX12_room_19 rfl (Nat.le_of_ble_eq_true rfl) (Nat.le_of_ble_eq_true rfl) rfl
set_option maxRecDepth 100000 in
set_option maxHeartbeats 4000000 in
theorem y_most {l : Launch} {E : Ez} {L : List Nat} {f : Nat → va_E} {m wo img hi tp fv fr cl0 pl wd rd tr0 co bi wl mn wi nu mv : Nat} {k : Int32} (m_m : m ∈ L) (e_m : f m = ob 12 [.int 0, .ref wo, .ref img, .ref hi, .ref tp, .int 0, .ref fv, .int 0, .int 0, .int 0, .int 0, .int 0, .int 0, .int (-1), .ref fr, .ref cl0, .ref pl, .int 0, .ref wd, .ref rd, .int (-1), .ref tr0, .ref co, .ref bi, .ref wl, .ref mn, .ref wi, .ref nu, .ref mv]) (m_wo : wo ∈ L) (e_wo : f wo = aI E 2076 (fun _ => 0)) : CI l yX12_most cX12_most 3 .int 3 0 0 E [.ref m, .int k] L f (fun r L1 f1 => sp_k k = r) := by
  refine ci_of (by decide) (Nat.le_of_ble_eq_true rfl) (fun z hz hnm hC hR => ?_)
  have hC : Cx z E cX12_most RX12 3 3 0 0 := hC
  subst hz
  show V z E 3 0 0 L f 0 [(0, .ref m), (1, .int k)] []
  refine v_aload_n hC dX12_most_0 rfl ?_
  refine v_iload_n hC dX12_most_1 rfl ?_
  refine v_vi hC (rest := []) m_m e_m rfl mi_X12_asksWay ms_X12_asksWay (d_asksW m_m e_m m_wo e_wo) mx_X12_asksWay ml_X12_383 (by decide) rfl (cells1 := 0) (slots1 := 0) (by decide) (by decide) (Nat.le_of_ble_eq_true rfl) (Nat.le_of_ble_eq_true rfl) rfl (Nat.le_of_ble_eq_true rfl) dX12_most_2 (fun r_1 L_2 f_3 h_4 => ?_)
  obtain ⟨rfl, rfl, rfl⟩ := h_4
  refine v_istore_n hC dX12_most_5 (by decide) (lv' := [(2, .int (sp_k k)), (0, .ref m), (1, .int k)]) rfl ?_
  refine v_iload_n hC dX12_most_6 rfl ?_
  refine v_if_ge_f hC dX12_most_7 (tgt := 14) (by decide) (Int32.not_le.mpr (sp_k_neg k)) ?_
  refine v_iload_n hC dX12_most_10 rfl ?_
  refine v_goto hC dX12_most_11 (tgt := 27) (by decide) ?_
  exact hR _ _ _ _ _ _ _ dX12_most_27 rfl (Nat.le_of_ble_eq_true rfl) (Nat.le_of_ble_eq_true rfl) rfl
