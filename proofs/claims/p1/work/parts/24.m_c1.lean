set_option maxRecDepth 100000 in
set_option maxHeartbeats 4000000 in
theorem a189_X12_rows {l : Launch} {E : Ez} {L : List Nat} {f : Nat → va_E} {aa_0 aa_1 aa_2 aa_3 aa_4 aa_5 aa_6 aa_7 aa_8 aa_9 aa_10 aa_11 aa_12 aa_13 aa_14 aa_15 aa_16 aa_17 aa_18 : Nat} (m_aa_0 : aa_0 ∈ L) (e_aa_0 : f aa_0 = ob 12 [.int 0, .ref aa_1, .ref aa_2, .ref aa_3, .ref aa_4, .int 0, .ref aa_5, .int 0, .int 0, .int 0, .int 0, .int 0, .int 0, .int (-1), .ref aa_6, .ref aa_7, .ref aa_8, .int 0, .ref aa_9, .ref aa_10, .int (-1), .ref aa_11, .ref aa_12, .ref aa_13, .ref aa_14, .ref aa_15, .ref aa_16, .ref aa_17, .ref aa_18]) (m_aa_1 : aa_1 ∈ L) (e_aa_1 : f aa_1 = aI E 2076 (fun _ => 0)) : CI l yX12_rows cX12_rows 1 .int 0 0 0 E [.ref aa_0] L f (fun r L1 f1 => 0 = r ∧ L = L1 ∧ f = f1) := by
  refine ci_of (by decide) (Nat.le_of_ble_eq_true rfl) (fun z hz hnm hC hR => ?_)
  have hC : Cx z E cX12_rows RX12 1 0 0 0 := hC
  subst hz
  show V z E 1 0 0 L f 0 [(0, .ref aa_0)] []
  refine v_aload_n hC dX12_rows_0 rfl ?_
  refine v_get hC fl_X12_13 m_aa_0 e_aa_0 rfl dX12_rows_1 ?_
  refine v_iconst hC dX12_rows_4 (v := 0) (by decide) ?_
  refine v_iald hC m_aa_1 e_aa_1 (by unfold vp_in; decide) (v := 0) rfl dX12_rows_5 ?_
  exact hR _ _ _ _ _ _ _ dX12_rows_6 rfl (Nat.le_of_ble_eq_true rfl) (Nat.le_of_ble_eq_true rfl) ⟨rfl, rfl, rfl⟩
set_option maxRecDepth 100000 in
set_option maxHeartbeats 4000000 in
theorem a189_X12_hasPattern {l : Launch} {E : Ez} {L : List Nat} {f : Nat → va_E} {aa_0 aa_1 aa_2 aa_3 aa_4 aa_5 aa_6 aa_7 aa_8 aa_9 aa_10 aa_11 aa_12 aa_13 aa_14 aa_15 aa_16 aa_17 aa_18 : Nat} (m_aa_0 : aa_0 ∈ L) (e_aa_0 : f aa_0 = ob 12 [.int 0, .ref aa_1, .ref aa_2, .ref aa_3, .ref aa_4, .int 0, .ref aa_5, .int 0, .int 0, .int 0, .int 0, .int 0, .int 0, .int (-1), .ref aa_6, .ref aa_7, .ref aa_8, .int 0, .ref aa_9, .ref aa_10, .int (-1), .ref aa_11, .ref aa_12, .ref aa_13, .ref aa_14, .ref aa_15, .ref aa_16, .ref aa_17, .ref aa_18]) (m_aa_1 : aa_1 ∈ L) (e_aa_1 : f aa_1 = aI E 2076 (fun _ => 0)) : CI l yX12_hasPattern cX12_hasPattern 1 .boolean 1 0 0 E [.ref aa_0] L f (fun r L1 f1 => 0 = r ∧ L = L1 ∧ f = f1) := by
  refine ci_of (by decide) (Nat.le_of_ble_eq_true rfl) (fun z hz hnm hC hR => ?_)
  have hC : Cx z E cX12_hasPattern RX12 1 1 0 0 := hC
  subst hz
  show V z E 1 0 0 L f 0 [(0, .ref aa_0)] []
  refine v_aload_n hC dX12_hasPattern_0 rfl ?_
  refine v_vi hC (rest := []) m_aa_0 e_aa_0 rfl mi_X12_rows ms_X12_rows (a189_X12_rows m_aa_0 e_aa_0 m_aa_1 e_aa_1) mx_X12_rows ml_X12_83 (by decide) rfl (cells1 := 0) (slots1 := 0) (by decide) (by decide) (Nat.le_of_ble_eq_true rfl) (Nat.le_of_ble_eq_true rfl) rfl (Nat.le_of_ble_eq_true rfl) dX12_hasPattern_1 (fun r_1 L_2 f_3 h_4 => ?_)
  obtain ⟨rfl, rfl, rfl⟩ := h_4
  refine v_if_le_t hC dX12_hasPattern_4 (tgt := 11) (by decide) (by decide) ?_
  refine v_iconst hC dX12_hasPattern_11 (v := 0) (by decide) ?_
  exact hR _ _ _ _ _ _ _ dX12_hasPattern_12 rfl (Nat.le_of_ble_eq_true rfl) (Nat.le_of_ble_eq_true rfl) ⟨rfl, rfl, rfl⟩
set_option maxRecDepth 100000 in
set_option maxHeartbeats 4000000 in
theorem y_knit {l : Launch} {E : Ez} {L : List Nat} {f : Nat → va_E} {m wo img hi tp fv fr cl0 pl wd rd tr0 co bi wl mn wi nu mv : Nat} {c : Int32} {seed : Int32} (m_m : m ∈ L) (e_m : f m = ob 12 [.int 0, .ref wo, .ref img, .ref hi, .ref tp, .int 0, .ref fv, .int 0, .int 0, .int 0, .int 0, .int 0, .int 0, .int (-1), .ref fr, .ref cl0, .ref pl, .int 0, .ref wd, .ref rd, .int (-1), .ref tr0, .ref co, .ref bi, .ref wl, .ref mn, .ref wi, .ref nu, .ref mv]) (m_wo : wo ∈ L) (e_wo : f wo = aI E 2076 (fun _ => 0)) : CI l yX12_knit cX12_knit 4 .int 2 0 0 E [.ref m, .int c, .int seed] L f (fun r L1 f1 => sp_knit c seed = r) := by
  refine ci_of (by decide) (Nat.le_of_ble_eq_true rfl) (fun z hz hnm hC hR => ?_)
  have hC : Cx z E cX12_knit RX12 4 2 0 0 := hC
  subst hz
  show V z E 4 0 0 L f 0 [(0, .ref m), (1, .int c), (2, .int seed)] []
  refine v_iload_n hC dX12_knit_0 rfl ?_
  refine v_si hC (rest := []) mt_X12_isCloth (d_isCloth) mx_X12_isCloth ml_X12_319 (by decide) rfl (cells1 := 0) (slots1 := 0) (by decide) (by decide) (Nat.le_of_ble_eq_true rfl) (Nat.le_of_ble_eq_true rfl) rfl (Nat.le_of_ble_eq_true rfl) dX12_knit_1 (fun r_1 L_2 f_3 h_4 => ?_)
  obtain ⟨rfl, rfl, rfl⟩ := h_4
  refine v_if_eq hC dX12_knit_4 (tgt := 14) (by decide) (fun h_5 => ?_) (fun h_5 => ?_)
  · have h_6 := bI_0 h_5
    refine v_bipush hC dX12_knit_14 (v := (-2)) (by decide) ?_
    exact hR _ _ _ _ _ _ _ dX12_knit_16 rfl (Nat.le_of_ble_eq_true rfl) (Nat.le_of_ble_eq_true rfl) (by unfold sp_knit; simp only [Int32.lt_iff_toInt_lt, Int32.le_iff_toInt_le, Int32.reduceToInt, ← Int32.toInt_inj] at h_6 ⊢; first | omega | (split <;> first | rfl | (exfalso; omega)))
  · have h_7 := bI_1 h_5
    refine v_iload_n hC dX12_knit_7 rfl ?_
    refine v_si hC (rest := []) mt_X12_isSeed (d_isSeed) mx_X12_isSeed ml_X12_322 (by decide) rfl (cells1 := 0) (slots1 := 0) (by decide) (by decide) (Nat.le_of_ble_eq_true rfl) (Nat.le_of_ble_eq_true rfl) rfl (Nat.le_of_ble_eq_true rfl) dX12_knit_8 (fun r_8 L_9 f_10 h_11 => ?_)
    obtain ⟨rfl, rfl, rfl⟩ := h_11
    refine v_if_ne hC dX12_knit_11 (tgt := 17) (by decide) (fun h_12 => ?_) (fun h_12 => ?_)
    · have h_13 := bI_1 h_12
      refine v_aload_n hC dX12_knit_17 rfl ?_
      refine v_vi hC (rest := []) m_m e_m rfl mi_X12_hasPattern ms_X12_hasPattern (a189_X12_hasPattern m_m e_m m_wo e_wo) mx_X12_hasPattern ml_X12_325 (by decide) rfl (cells1 := 0) (slots1 := 0) (by decide) (by decide) (Nat.le_of_ble_eq_true rfl) (Nat.le_of_ble_eq_true rfl) rfl (Nat.le_of_ble_eq_true rfl) dX12_knit_18 (fun r_14 L_15 f_16 h_17 => ?_)
      obtain ⟨rfl, rfl, rfl⟩ := h_17
      refine v_if_ne_f hC dX12_knit_21 (tgt := 27) (by decide) (by decide) ?_
      refine v_bipush hC dX12_knit_24 (v := (-6)) (by decide) ?_
      exact hR _ _ _ _ _ _ _ dX12_knit_26 rfl (Nat.le_of_ble_eq_true rfl) (Nat.le_of_ble_eq_true rfl) (by unfold sp_knit; simp only [Int32.lt_iff_toInt_lt, Int32.le_iff_toInt_le, Int32.reduceToInt, ← Int32.toInt_inj] at h_7 h_13 ⊢; first | omega | (split <;> first | rfl | (exfalso; omega)))
    · have h_18 := bI_0 h_12
      refine v_bipush hC dX12_knit_14 (v := (-2)) (by decide) ?_
      exact hR _ _ _ _ _ _ _ dX12_knit_16 rfl (Nat.le_of_ble_eq_true rfl) (Nat.le_of_ble_eq_true rfl) (by unfold sp_knit; simp only [Int32.lt_iff_toInt_lt, Int32.le_iff_toInt_le, Int32.reduceToInt, ← Int32.toInt_inj] at h_7 h_18 ⊢; first | omega | (split <;> first | rfl | (exfalso; omega)))
set_option maxRecDepth 100000 in
set_option maxHeartbeats 4000000 in
theorem y_counts {l : Launch} {E : Ez} {L : List Nat} {f : Nat → va_E} {m wo img hi tp fv fr cl0 pl wd rd tr0 co bi wl mn wi nu mv : Nat} {c : Int32} {w : Int32} (m_m : m ∈ L) (e_m : f m = ob 12 [.int 0, .ref wo, .ref img, .ref hi, .ref tp, .int 0, .ref fv, .int 0, .int 0, .int 0, .int 0, .int 0, .int 0, .int (-1), .ref fr, .ref cl0, .ref pl, .int 0, .ref wd, .ref rd, .int (-1), .ref tr0, .ref co, .ref bi, .ref wl, .ref mn, .ref wi, .ref nu, .ref mv]) (m_wo : wo ∈ L) (e_wo : f wo = aI E 2076 (fun _ => 0)) : CI l yX12_counts cX12_counts 3 .int 2 0 0 E [.ref m, .int c, .int w] L f (fun r L1 f1 => sp_counts c w = r) := by
  refine ci_of (by decide) (Nat.le_of_ble_eq_true rfl) (fun z hz hnm hC hR => ?_)
  have hC : Cx z E cX12_counts RX12 3 2 0 0 := hC
  subst hz
  show V z E 3 0 0 L f 0 [(0, .ref m), (1, .int c), (2, .int w)] []
  refine v_iload_n hC dX12_counts_0 rfl ?_
  refine v_si hC (rest := []) mt_X12_isCloth (d_isCloth) mx_X12_isCloth ml_X12_319 (by decide) rfl (cells1 := 0) (slots1 := 0) (by decide) (by decide) (Nat.le_of_ble_eq_true rfl) (Nat.le_of_ble_eq_true rfl) rfl (Nat.le_of_ble_eq_true rfl) dX12_counts_1 (fun r_1 L_2 f_3 h_4 => ?_)
  obtain ⟨rfl, rfl, rfl⟩ := h_4
  refine v_if_eq hC dX12_counts_4 (tgt := 19) (by decide) (fun h_5 => ?_) (fun h_5 => ?_)
  · have h_6 := bI_0 h_5
    refine v_bipush hC dX12_counts_19 (v := (-2)) (by decide) ?_
    exact hR _ _ _ _ _ _ _ dX12_counts_21 rfl (Nat.le_of_ble_eq_true rfl) (Nat.le_of_ble_eq_true rfl) (by unfold sp_counts; simp only [Int32.lt_iff_toInt_lt, Int32.le_iff_toInt_le, Int32.reduceToInt, ← Int32.toInt_inj] at h_6 ⊢; first | omega | (split <;> first | rfl | (exfalso; omega)))
  · have h_7 := bI_1 h_5
    refine v_iload_n hC dX12_counts_7 rfl ?_
    refine v_i2l hC dX12_counts_8 rfl ?_
    refine v_lconst hC dX12_counts_9 (v := 0) (by decide) ?_
    refine v_ldc2 hC kl_X12_389 dX12_counts_10 ?_
    refine v_si hC (rest := []) mt_X12_in c_in mx_X12_in ml_X12_79 (by decide) rfl (cells1 := 0) (slots1 := 0) (by decide) (by decide) (Nat.le_of_ble_eq_true rfl) (Nat.le_of_ble_eq_true rfl) rfl (Nat.le_of_ble_eq_true rfl) dX12_counts_13 (fun r_8 L_9 f_10 h_11 => ?_)
    obtain ⟨r_89, rfl, rfl⟩ := h_11
    obtain rfl : bI (0 ≤ w ∧ w ≤ 7) = r_8 := (bI_iff (by simp only [Int64.le_iff_toInt_le, Int32.le_iff_toInt_le, Int32.toInt_toInt64, Int64.reduceToInt, Int32.reduceToInt])).trans r_89
    refine v_if_ne hC dX12_counts_16 (tgt := 22) (by decide) (fun h_12 => ?_) (fun h_12 => ?_)
    · have h_13 := bI_1 h_12
      refine v_aload_n hC dX12_counts_22 rfl ?_
      refine v_iload_n hC dX12_counts_23 rfl ?_
      refine v_vi hC (rest := []) m_m e_m rfl mi_X12_isThere ms_X12_isThere (d_isThere m_m e_m m_wo e_wo (show 0 ≤ c ∧ c < 4 by simp only [Int32.lt_iff_toInt_lt, Int32.le_iff_toInt_le, Int32.reduceToInt, ← Int32.toInt_inj] at h_7 h_13 ⊢; omega)) mx_X12_isThere ml_X12_351 (by decide) rfl (cells1 := 0) (slots1 := 0) (by decide) (by decide) (Nat.le_of_ble_eq_true rfl) (Nat.le_of_ble_eq_true rfl) rfl (Nat.le_of_ble_eq_true rfl) dX12_counts_24 (fun r_14 L_15 f_16 h_17 => ?_)
      obtain ⟨rfl, rfl, rfl⟩ := h_17
      refine v_if_ne_f hC dX12_counts_27 (tgt := 33) (by decide) (by decide) ?_
      refine v_bipush hC dX12_counts_30 (v := (-6)) (by decide) ?_
      exact hR _ _ _ _ _ _ _ dX12_counts_32 rfl (Nat.le_of_ble_eq_true rfl) (Nat.le_of_ble_eq_true rfl) (by unfold sp_counts; simp only [Int32.lt_iff_toInt_lt, Int32.le_iff_toInt_le, Int32.reduceToInt, ← Int32.toInt_inj] at h_7 h_13 ⊢; first | omega | (split <;> first | rfl | (exfalso; omega)))
    · have h_18 := bI_0 h_12
      refine v_bipush hC dX12_counts_19 (v := (-2)) (by decide) ?_
      exact hR _ _ _ _ _ _ _ dX12_counts_21 rfl (Nat.le_of_ble_eq_true rfl) (Nat.le_of_ble_eq_true rfl) (by unfold sp_counts; simp only [Int32.lt_iff_toInt_lt, Int32.le_iff_toInt_le, Int32.reduceToInt, ← Int32.toInt_inj] at h_7 h_18 ⊢; first | omega | (split <;> first | rfl | (exfalso; omega)))
set_option maxRecDepth 100000 in
set_option maxHeartbeats 4000000 in
theorem y_odds {l : Launch} {E : Ez} {L : List Nat} {f : Nat → va_E} {m wo img hi tp fv fr cl0 pl wd rd tr0 co bi wl mn wi nu mv : Nat} {seed : Int32} {n : Int32} (m_m : m ∈ L) (e_m : f m = ob 12 [.int 0, .ref wo, .ref img, .ref hi, .ref tp, .int 0, .ref fv, .int 0, .int 0, .int 0, .int 0, .int 0, .int 0, .int (-1), .ref fr, .ref cl0, .ref pl, .int 0, .ref wd, .ref rd, .int (-1), .ref tr0, .ref co, .ref bi, .ref wl, .ref mn, .ref wi, .ref nu, .ref mv]) (m_wo : wo ∈ L) (e_wo : f wo = aI E 2076 (fun _ => 0)) : CI l yX12_odds cX12_odds 6 .int 2 0 0 E [.ref m, .int seed, .int n] L f (fun r L1 f1 => sp_odds seed n = r) := by
  refine ci_of (by decide) (Nat.le_of_ble_eq_true rfl) (fun z hz hnm hC hR => ?_)
  have hC : Cx z E cX12_odds RX12 6 2 0 0 := hC
  subst hz
  show V z E 6 0 0 L f 0 [(0, .ref m), (1, .int seed), (2, .int n)] []
  refine v_iload_n hC dX12_odds_0 rfl ?_
  refine v_si hC (rest := []) mt_X12_isSeed (d_isSeed) mx_X12_isSeed ml_X12_322 (by decide) rfl (cells1 := 0) (slots1 := 0) (by decide) (by decide) (Nat.le_of_ble_eq_true rfl) (Nat.le_of_ble_eq_true rfl) rfl (Nat.le_of_ble_eq_true rfl) dX12_odds_1 (fun r_1 L_2 f_3 h_4 => ?_)
  obtain ⟨rfl, rfl, rfl⟩ := h_4
  refine v_if_eq hC dX12_odds_4 (tgt := 19) (by decide) (fun h_5 => ?_) (fun h_5 => ?_)
  · have h_6 := bI_0 h_5
    refine v_bipush hC dX12_odds_19 (v := (-2)) (by decide) ?_
    exact hR _ _ _ _ _ _ _ dX12_odds_21 rfl (Nat.le_of_ble_eq_true rfl) (Nat.le_of_ble_eq_true rfl) (by unfold sp_odds; simp only [Int32.lt_iff_toInt_lt, Int32.le_iff_toInt_le, Int32.reduceToInt, ← Int32.toInt_inj] at h_6 ⊢; first | omega | (split <;> first | rfl | (exfalso; omega)))
  · have h_7 := bI_1 h_5
    refine v_iload_n hC dX12_odds_7 rfl ?_
    refine v_i2l hC dX12_odds_8 rfl ?_
    refine v_lconst hC dX12_odds_9 (v := 1) (by decide) ?_
    refine v_ldc2 hC kl_X12_408 dX12_odds_10 ?_
    refine v_si hC (rest := []) mt_X12_in c_in mx_X12_in ml_X12_79 (by decide) rfl (cells1 := 0) (slots1 := 0) (by decide) (by decide) (Nat.le_of_ble_eq_true rfl) (Nat.le_of_ble_eq_true rfl) rfl (Nat.le_of_ble_eq_true rfl) dX12_odds_13 (fun r_8 L_9 f_10 h_11 => ?_)
    obtain ⟨r_89, rfl, rfl⟩ := h_11
    obtain rfl : bI (1 ≤ n ∧ n ≤ 50) = r_8 := (bI_iff (by simp only [Int64.le_iff_toInt_le, Int32.le_iff_toInt_le, Int32.toInt_toInt64, Int64.reduceToInt, Int32.reduceToInt])).trans r_89
    refine v_if_ne hC dX12_odds_16 (tgt := 22) (by decide) (fun h_12 => ?_) (fun h_12 => ?_)
    · have h_13 := bI_1 h_12
      refine v_aload_n hC dX12_odds_22 rfl ?_
      refine v_vi hC (rest := []) m_m e_m rfl mi_X12_hasPattern ms_X12_hasPattern (a189_X12_hasPattern m_m e_m m_wo e_wo) mx_X12_hasPattern ml_X12_325 (by decide) rfl (cells1 := 0) (slots1 := 0) (by decide) (by decide) (Nat.le_of_ble_eq_true rfl) (Nat.le_of_ble_eq_true rfl) rfl (Nat.le_of_ble_eq_true rfl) dX12_odds_23 (fun r_14 L_15 f_16 h_17 => ?_)
      obtain ⟨rfl, rfl, rfl⟩ := h_17
      refine v_if_ne_f hC dX12_odds_26 (tgt := 32) (by decide) (by decide) ?_
      refine v_bipush hC dX12_odds_29 (v := (-6)) (by decide) ?_
      exact hR _ _ _ _ _ _ _ dX12_odds_31 rfl (Nat.le_of_ble_eq_true rfl) (Nat.le_of_ble_eq_true rfl) (by unfold sp_odds; simp only [Int32.lt_iff_toInt_lt, Int32.le_iff_toInt_le, Int32.reduceToInt, ← Int32.toInt_inj] at h_7 h_13 ⊢; first | omega | (split <;> first | rfl | (exfalso; omega)))
    · have h_18 := bI_0 h_12
      refine v_bipush hC dX12_odds_19 (v := (-2)) (by decide) ?_
      exact hR _ _ _ _ _ _ _ dX12_odds_21 rfl (Nat.le_of_ble_eq_true rfl) (Nat.le_of_ble_eq_true rfl) (by unfold sp_odds; simp only [Int32.lt_iff_toInt_lt, Int32.le_iff_toInt_le, Int32.reduceToInt, ← Int32.toInt_inj] at h_7 h_18 ⊢; first | omega | (split <;> first | rfl | (exfalso; omega)))
set_option maxRecDepth 100000 in
set_option maxHeartbeats 4000000 in
theorem y_carries {l : Launch} {E : Ez} {L : List Nat} {f : Nat → va_E} {m wo img hi tp fv fr cl0 pl wd rd tr0 co bi wl mn wi nu mv : Nat} {k : Int32} {seed : Int32} {n : Int32} (m_m : m ∈ L) (e_m : f m = ob 12 [.int 0, .ref wo, .ref img, .ref hi, .ref tp, .int 0, .ref fv, .int 0, .int 0, .int 0, .int 0, .int 0, .int 0, .int (-1), .ref fr, .ref cl0, .ref pl, .int 0, .ref wd, .ref rd, .int (-1), .ref tr0, .ref co, .ref bi, .ref wl, .ref mn, .ref wi, .ref nu, .ref mv]) (m_wo : wo ∈ L) (e_wo : f wo = aI E 2076 (fun _ => 0)) : CI l yX12_carries cX12_carries 7 .int 2 0 0 E [.ref m, .int k, .int seed, .int n] L f (fun r L1 f1 => sp_carries k seed n = r) := by
  refine ci_of (by decide) (Nat.le_of_ble_eq_true rfl) (fun z hz hnm hC hR => ?_)
  have hC : Cx z E cX12_carries RX12 7 2 0 0 := hC
  subst hz
  show V z E 7 0 0 L f 0 [(0, .ref m), (1, .int k), (2, .int seed), (3, .int n)] []
  refine v_iload_n hC dX12_carries_0 rfl ?_
  refine v_si hC (rest := []) mt_X12_isWay (d_isWay) mx_X12_isWay ml_X12_221 (by decide) rfl (cells1 := 0) (slots1 := 0) (by decide) (by decide) (Nat.le_of_ble_eq_true rfl) (Nat.le_of_ble_eq_true rfl) rfl (Nat.le_of_ble_eq_true rfl) dX12_carries_1 (fun r_1 L_2 f_3 h_4 => ?_)
  obtain ⟨rfl, rfl, rfl⟩ := h_4
  refine v_if_eq hC dX12_carries_4 (tgt := 26) (by decide) (fun h_5 => ?_) (fun h_5 => ?_)
  · have h_6 := bI_0 h_5
    refine v_bipush hC dX12_carries_26 (v := (-2)) (by decide) ?_
    exact hR _ _ _ _ _ _ _ dX12_carries_28 rfl (Nat.le_of_ble_eq_true rfl) (Nat.le_of_ble_eq_true rfl) (by unfold sp_carries; simp only [Int32.lt_iff_toInt_lt, Int32.le_iff_toInt_le, Int32.reduceToInt, ← Int32.toInt_inj] at h_6 ⊢; first | omega | (split <;> first | rfl | (exfalso; omega)))
  · have h_7 := bI_1 h_5
    refine v_iload_n hC dX12_carries_7 rfl ?_
    refine v_si hC (rest := []) mt_X12_isSeed (d_isSeed) mx_X12_isSeed ml_X12_322 (by decide) rfl (cells1 := 0) (slots1 := 0) (by decide) (by decide) (Nat.le_of_ble_eq_true rfl) (Nat.le_of_ble_eq_true rfl) rfl (Nat.le_of_ble_eq_true rfl) dX12_carries_8 (fun r_8 L_9 f_10 h_11 => ?_)
    obtain ⟨rfl, rfl, rfl⟩ := h_11
    refine v_if_eq hC dX12_carries_11 (tgt := 26) (by decide) (fun h_12 => ?_) (fun h_12 => ?_)
    · have h_13 := bI_0 h_12
      refine v_bipush hC dX12_carries_26 (v := (-2)) (by decide) ?_
      exact hR _ _ _ _ _ _ _ dX12_carries_28 rfl (Nat.le_of_ble_eq_true rfl) (Nat.le_of_ble_eq_true rfl) (by unfold sp_carries; simp only [Int32.lt_iff_toInt_lt, Int32.le_iff_toInt_le, Int32.reduceToInt, ← Int32.toInt_inj] at h_7 h_13 ⊢; first | omega | (split <;> first | rfl | (exfalso; omega)))
    · have h_14 := bI_1 h_12
      refine v_iload_n hC dX12_carries_14 rfl ?_
      refine v_i2l hC dX12_carries_15 rfl ?_
      refine v_lconst hC dX12_carries_16 (v := 1) (by decide) ?_
      refine v_ldc2 hC kl_X12_408 dX12_carries_17 ?_
      refine v_si hC (rest := []) mt_X12_in c_in mx_X12_in ml_X12_79 (by decide) rfl (cells1 := 0) (slots1 := 0) (by decide) (by decide) (Nat.le_of_ble_eq_true rfl) (Nat.le_of_ble_eq_true rfl) rfl (Nat.le_of_ble_eq_true rfl) dX12_carries_20 (fun r_15 L_16 f_17 h_18 => ?_)
      obtain ⟨r_159, rfl, rfl⟩ := h_18
      obtain rfl : bI (1 ≤ n ∧ n ≤ 50) = r_15 := (bI_iff (by simp only [Int64.le_iff_toInt_le, Int32.le_iff_toInt_le, Int32.toInt_toInt64, Int64.reduceToInt, Int32.reduceToInt])).trans r_159
      refine v_if_ne hC dX12_carries_23 (tgt := 29) (by decide) (fun h_19 => ?_) (fun h_19 => ?_)
      · have h_20 := bI_1 h_19
        refine v_aload_n hC dX12_carries_29 rfl ?_
        refine v_vi hC (rest := []) m_m e_m rfl mi_X12_hasPattern ms_X12_hasPattern (a189_X12_hasPattern m_m e_m m_wo e_wo) mx_X12_hasPattern ml_X12_325 (by decide) rfl (cells1 := 0) (slots1 := 0) (by decide) (by decide) (Nat.le_of_ble_eq_true rfl) (Nat.le_of_ble_eq_true rfl) rfl (Nat.le_of_ble_eq_true rfl) dX12_carries_30 (fun r_21 L_22 f_23 h_24 => ?_)
        obtain ⟨rfl, rfl, rfl⟩ := h_24
        refine v_if_eq_t hC dX12_carries_33 (tgt := 44) (by decide) (by decide) ?_
        refine v_bipush hC dX12_carries_44 (v := (-6)) (by decide) ?_
        exact hR _ _ _ _ _ _ _ dX12_carries_46 rfl (Nat.le_of_ble_eq_true rfl) (Nat.le_of_ble_eq_true rfl) (by unfold sp_carries; simp only [Int32.lt_iff_toInt_lt, Int32.le_iff_toInt_le, Int32.reduceToInt, ← Int32.toInt_inj] at h_7 h_14 h_20 ⊢; first | omega | (split <;> first | rfl | (exfalso; omega)))
      · have h_25 := bI_0 h_19
        refine v_bipush hC dX12_carries_26 (v := (-2)) (by decide) ?_
        exact hR _ _ _ _ _ _ _ dX12_carries_28 rfl (Nat.le_of_ble_eq_true rfl) (Nat.le_of_ble_eq_true rfl) (by unfold sp_carries; simp only [Int32.lt_iff_toInt_lt, Int32.le_iff_toInt_le, Int32.reduceToInt, ← Int32.toInt_inj] at h_7 h_14 h_25 ⊢; first | omega | (split <;> first | rfl | (exfalso; omega)))
set_option maxRecDepth 100000 in
set_option maxHeartbeats 4000000 in
theorem y_same {l : Launch} {E : Ez} {L : List Nat} {f : Nat → va_E} {m wo img hi tp fv fr cl0 pl wd rd tr0 co bi wl mn wi nu mv : Nat} {c : Int32} {d : Int32} {k : Int32} (m_m : m ∈ L) (e_m : f m = ob 12 [.int 0, .ref wo, .ref img, .ref hi, .ref tp, .int 0, .ref fv, .int 0, .int 0, .int 0, .int 0, .int 0, .int 0, .int (-1), .ref fr, .ref cl0, .ref pl, .int 0, .ref wd, .ref rd, .int (-1), .ref tr0, .ref co, .ref bi, .ref wl, .ref mn, .ref wi, .ref nu, .ref mv]) (m_wo : wo ∈ L) (e_wo : f wo = aI E 2076 (fun _ => 0)) : CI l yX12_same cX12_same 8 .int 3 0 0 E [.ref m, .int c, .int d, .int k] L f (fun r L1 f1 => sp_same c d k = r) := by
  refine ci_of (by decide) (Nat.le_of_ble_eq_true rfl) (fun z hz hnm hC hR => ?_)
  have hC : Cx z E cX12_same RX12 8 3 0 0 := hC
  subst hz
  show V z E 8 0 0 L f 0 [(0, .ref m), (1, .int c), (2, .int d), (3, .int k)] []
  refine v_iload_n hC dX12_same_0 rfl ?_
  refine v_si hC (rest := []) mt_X12_isWay (d_isWay) mx_X12_isWay ml_X12_221 (by decide) rfl (cells1 := 0) (slots1 := 0) (by decide) (by decide) (Nat.le_of_ble_eq_true rfl) (Nat.le_of_ble_eq_true rfl) rfl (Nat.le_of_ble_eq_true rfl) dX12_same_1 (fun r_1 L_2 f_3 h_4 => ?_)
  obtain ⟨rfl, rfl, rfl⟩ := h_4
  refine v_if_ne hC dX12_same_4 (tgt := 10) (by decide) (fun h_5 => ?_) (fun h_5 => ?_)
  · have h_6 := bI_1 h_5
    refine v_aload_n hC dX12_same_10 rfl ?_
    refine v_iload_n hC dX12_same_11 rfl ?_
    refine v_iload_n hC dX12_same_12 rfl ?_
    refine v_vi hC (rest := []) m_m e_m rfl mi_X12_asksTwo ms_X12_asksTwo (d_asksT m_m e_m m_wo e_wo) mx_X12_asksTwo ml_X12_419 (by decide) rfl (cells1 := 0) (slots1 := 0) (by decide) (by decide) (Nat.le_of_ble_eq_true rfl) (Nat.le_of_ble_eq_true rfl) rfl (Nat.le_of_ble_eq_true rfl) dX12_same_13 (fun r_7 L_8 f_9 h_10 => ?_)
    obtain ⟨rfl, rfl, rfl⟩ := h_10
    refine v_istore hC dX12_same_16 (by decide) (lv' := [(4, .int (sp_cd c d)), (0, .ref m), (1, .int c), (2, .int d), (3, .int k)]) rfl ?_
    refine v_iload hC dX12_same_18 rfl ?_
    refine v_if_ge_f hC dX12_same_20 (tgt := 26) (by decide) (Int32.not_le.mpr (sp_cd_neg c d)) ?_
    refine v_iload hC dX12_same_23 rfl ?_
    exact hR _ _ _ _ _ _ _ dX12_same_25 rfl (Nat.le_of_ble_eq_true rfl) (Nat.le_of_ble_eq_true rfl) (by unfold sp_same sp_cd; simp only [Int32.lt_iff_toInt_lt, Int32.le_iff_toInt_le, Int32.reduceToInt, ← Int32.toInt_inj] at h_6 ⊢; split <;> split <;> first | rfl | (exfalso; omega))
  · have h_11 := bI_0 h_5
    refine v_bipush hC dX12_same_7 (v := (-2)) (by decide) ?_
    exact hR _ _ _ _ _ _ _ dX12_same_9 rfl (Nat.le_of_ble_eq_true rfl) (Nat.le_of_ble_eq_true rfl) (by unfold sp_same; simp only [Int32.lt_iff_toInt_lt, Int32.le_iff_toInt_le, Int32.reduceToInt, ← Int32.toInt_inj] at h_11 ⊢; first | omega | (split <;> first | rfl | (exfalso; omega)))
set_option maxRecDepth 100000 in
set_option maxHeartbeats 4000000 in
theorem y_letter {l : Launch} {E : Ez} {L : List Nat} {f : Nat → va_E} {m wo img hi tp fv fr cl0 pl wd rd tr0 co bi wl mn wi nu mv : Nat} {i : Int32} (m_m : m ∈ L) (e_m : f m = ob 12 [.int 0, .ref wo, .ref img, .ref hi, .ref tp, .int 0, .ref fv, .int 0, .int 0, .int 0, .int 0, .int 0, .int 0, .int (-1), .ref fr, .ref cl0, .ref pl, .int 0, .ref wd, .ref rd, .int (-1), .ref tr0, .ref co, .ref bi, .ref wl, .ref mn, .ref wi, .ref nu, .ref mv]) : CI l yX12_letter cX12_letter 2 .int 1 0 0 E [.ref m, .int i] L f (fun r L1 f1 => (-1 : Int32) = r) := by
  refine ci_of (by decide) (Nat.le_of_ble_eq_true rfl) (fun z hz hnm hC hR => ?_)
  have hC : Cx z E cX12_letter RX12 2 1 0 0 := hC
  subst hz
  show V z E 2 0 0 L f 0 [(0, .ref m), (1, .int i)] []
  refine v_iload_n hC dX12_letter_0 rfl ?_
  refine v_i2l hC dX12_letter_1 rfl ?_
  refine v_lconst hC dX12_letter_2 (v := 0) (by decide) ?_
  refine v_aload_n hC dX12_letter_3 rfl ?_
  refine v_get hC fl_X12_49 m_m e_m rfl dX12_letter_4 ?_
  refine v_iconst hC dX12_letter_7 (v := 1) (by decide) ?_
  refine v_isub hC dX12_letter_8 (v := (-2)) (by decide) ?_
  refine v_i2l hC dX12_letter_9 (v := (-2)) (by decide) ?_
  refine v_si hC (rest := []) mt_X12_in c_in mx_X12_in ml_X12_79 (by decide) rfl (cells1 := 0) (slots1 := 0) (by decide) (by decide) (Nat.le_of_ble_eq_true rfl) (Nat.le_of_ble_eq_true rfl) rfl (Nat.le_of_ble_eq_true rfl) dX12_letter_10 (fun r_1 L_2 f_3 h_4 => ?_)
  obtain ⟨r_19, rfl, rfl⟩ := h_4
  obtain rfl : (0 : Int32) = r_1 := (bI_f (by simp only [Int64.le_iff_toInt_le, Int64.reduceToInt]; omega)).symm.trans r_19
  refine v_if_ne_f hC dX12_letter_13 (tgt := 18) (by decide) (by decide) ?_
  refine v_iconst hC dX12_letter_16 (v := (-1)) (by decide) ?_
  exact hR _ _ _ _ _ _ _ dX12_letter_17 rfl (Nat.le_of_ble_eq_true rfl) (Nat.le_of_ble_eq_true rfl) rfl
set_option maxRecDepth 100000 in
set_option maxHeartbeats 4000000 in
theorem a199_X12_isPlace {l : Launch} {E : Ez} {L : List Nat} {f : Nat → va_E} {aa_0 aa_1 aa_2 aa_3 aa_4 aa_5 aa_6 aa_7 aa_8 aa_9 aa_10 aa_11 aa_12 aa_13 aa_14 aa_15 aa_16 aa_17 aa_18 : Nat} {xx_0 : Int32} {xx_1 : Int32} (m_aa_0 : aa_0 ∈ L) (e_aa_0 : f aa_0 = ob 12 [.int 0, .ref aa_1, .ref aa_2, .ref aa_3, .ref aa_4, .int 0, .ref aa_5, .int 0, .int 0, .int 0, .int 0, .int 0, .int 0, .int (-1), .ref aa_6, .ref aa_7, .ref aa_8, .int 0, .ref aa_9, .ref aa_10, .int (-1), .ref aa_11, .ref aa_12, .ref aa_13, .ref aa_14, .ref aa_15, .ref aa_16, .ref aa_17, .ref aa_18]) (m_aa_1 : aa_1 ∈ L) (e_aa_1 : f aa_1 = aI E 2076 (fun _ => 0)) : CI l yX12_isPlace cX12_isPlace 3 .boolean 1 0 0 E [.ref aa_0, .int xx_0, .int xx_1] L f (fun r L1 f1 => 0 = r ∧ L = L1 ∧ f = f1) := by
  refine ci_of (by decide) (Nat.le_of_ble_eq_true rfl) (fun z hz hnm hC hR => ?_)
  have hC : Cx z E cX12_isPlace RX12 3 1 0 0 := hC
  subst hz
  show V z E 3 0 0 L f 0 [(0, .ref aa_0), (1, .int xx_0), (2, .int xx_1)] []
  refine v_iload_n hC dX12_isPlace_0 rfl ?_
  refine v_i2l hC dX12_isPlace_1 rfl ?_
  refine v_lconst hC dX12_isPlace_2 (v := 0) (by decide) ?_
  refine v_aload_n hC dX12_isPlace_3 rfl ?_
  refine v_vi hC (rest := [.long 0, .long xx_0.toInt64]) m_aa_0 e_aa_0 rfl mi_X12_rows ms_X12_rows (a189_X12_rows m_aa_0 e_aa_0 m_aa_1 e_aa_1) mx_X12_rows ml_X12_83 (by decide) rfl (cells1 := 0) (slots1 := 0) (by decide) (by decide) (Nat.le_of_ble_eq_true rfl) (Nat.le_of_ble_eq_true rfl) rfl (Nat.le_of_ble_eq_true rfl) dX12_isPlace_4 (fun r_1 L_2 f_3 h_4 => ?_)
  obtain ⟨rfl, rfl, rfl⟩ := h_4
  refine v_iconst hC dX12_isPlace_7 (v := 1) (by decide) ?_
  refine v_isub hC dX12_isPlace_8 (v := (-1)) (by decide) ?_
  refine v_i2l hC dX12_isPlace_9 (v := (-1)) (by decide) ?_
  refine v_si hC (rest := []) mt_X12_in c_in mx_X12_in ml_X12_79 (by decide) rfl (cells1 := 0) (slots1 := 0) (by decide) (by decide) (Nat.le_of_ble_eq_true rfl) (Nat.le_of_ble_eq_true rfl) rfl (Nat.le_of_ble_eq_true rfl) dX12_isPlace_10 (fun r_5 L_6 f_7 h_8 => ?_)
  obtain ⟨r_59, rfl, rfl⟩ := h_8
  obtain rfl : (0 : Int32) = r_5 := (bI_f (by simp only [Int64.le_iff_toInt_le, Int64.reduceToInt]; omega)).symm.trans r_59
  refine v_if_eq_t hC dX12_isPlace_13 (tgt := 36) (by decide) (by decide) ?_
  refine v_iconst hC dX12_isPlace_36 (v := 0) (by decide) ?_
  exact hR _ _ _ _ _ _ _ dX12_isPlace_37 rfl (Nat.le_of_ble_eq_true rfl) (Nat.le_of_ble_eq_true rfl) ⟨rfl, rfl, rfl⟩
set_option maxRecDepth 100000 in
set_option maxHeartbeats 4000000 in
theorem y_sort {l : Launch} {E : Ez} {L : List Nat} {f : Nat → va_E} {m wo img hi tp fv fr cl0 pl wd rd tr0 co bi wl mn wi nu mv : Nat} {i : Int32} {j : Int32} (m_m : m ∈ L) (e_m : f m = ob 12 [.int 0, .ref wo, .ref img, .ref hi, .ref tp, .int 0, .ref fv, .int 0, .int 0, .int 0, .int 0, .int 0, .int 0, .int (-1), .ref fr, .ref cl0, .ref pl, .int 0, .ref wd, .ref rd, .int (-1), .ref tr0, .ref co, .ref bi, .ref wl, .ref mn, .ref wi, .ref nu, .ref mv]) (m_wo : wo ∈ L) (e_wo : f wo = aI E 2076 (fun _ => 0)) : CI l yX12_sort cX12_sort 3 .int 2 0 0 E [.ref m, .int i, .int j] L f (fun r L1 f1 => (-1 : Int32) = r) := by
  refine ci_of (by decide) (Nat.le_of_ble_eq_true rfl) (fun z hz hnm hC hR => ?_)
  have hC : Cx z E cX12_sort RX12 3 2 0 0 := hC
  subst hz
  show V z E 3 0 0 L f 0 [(0, .ref m), (1, .int i), (2, .int j)] []
  refine v_aload_n hC dX12_sort_0 rfl ?_
  refine v_iload_n hC dX12_sort_1 rfl ?_
  refine v_iload_n hC dX12_sort_2 rfl ?_
  refine v_vi hC (rest := []) m_m e_m rfl mi_X12_isPlace ms_X12_isPlace (a199_X12_isPlace m_m e_m m_wo e_wo) mx_X12_isPlace ml_X12_379 (by decide) rfl (cells1 := 0) (slots1 := 0) (by decide) (by decide) (Nat.le_of_ble_eq_true rfl) (Nat.le_of_ble_eq_true rfl) rfl (Nat.le_of_ble_eq_true rfl) dX12_sort_3 (fun r_1 L_2 f_3 h_4 => ?_)
  obtain ⟨rfl, rfl, rfl⟩ := h_4
  refine v_if_eq_t hC dX12_sort_6 (tgt := 24) (by decide) (by decide) ?_
  refine v_iconst hC dX12_sort_24 (v := (-1)) (by decide) ?_
  exact hR _ _ _ _ _ _ _ dX12_sort_25 rfl (Nat.le_of_ble_eq_true rfl) (Nat.le_of_ble_eq_true rfl) rfl
set_option maxRecDepth 100000 in
set_option maxHeartbeats 4000000 in
theorem y_at {l : Launch} {E : Ez} {L : List Nat} {f : Nat → va_E} {m wo img hi tp fv fr cl0 pl wd rd tr0 co bi wl mn wi nu mv : Nat} {c : Int32} {i : Int32} {j : Int32} (m_m : m ∈ L) (e_m : f m = ob 12 [.int 0, .ref wo, .ref img, .ref hi, .ref tp, .int 0, .ref fv, .int 0, .int 0, .int 0, .int 0, .int 0, .int 0, .int (-1), .ref fr, .ref cl0, .ref pl, .int 0, .ref wd, .ref rd, .int (-1), .ref tr0, .ref co, .ref bi, .ref wl, .ref mn, .ref wi, .ref nu, .ref mv]) (m_wo : wo ∈ L) (e_wo : f wo = aI E 2076 (fun _ => 0)) : CI l yX12_at cX12_at 4 .int 2 0 0 E [.ref m, .int c, .int i, .int j] L f (fun r L1 f1 => (-1 : Int32) = r) := by
  refine ci_of (by decide) (Nat.le_of_ble_eq_true rfl) (fun z hz hnm hC hR => ?_)
  have hC : Cx z E cX12_at RX12 4 2 0 0 := hC
  subst hz
  show V z E 4 0 0 L f 0 [(0, .ref m), (1, .int c), (2, .int i), (3, .int j)] []
  refine v_iload_n hC dX12_at_0 rfl ?_
  refine v_si hC (rest := []) mt_X12_isCloth (d_isCloth) mx_X12_isCloth ml_X12_319 (by decide) rfl (cells1 := 0) (slots1 := 0) (by decide) (by decide) (Nat.le_of_ble_eq_true rfl) (Nat.le_of_ble_eq_true rfl) rfl (Nat.le_of_ble_eq_true rfl) dX12_at_1 (fun r_1 L_2 f_3 h_4 => ?_)
  obtain ⟨rfl, rfl, rfl⟩ := h_4
  refine v_if_eq hC dX12_at_4 (tgt := 40) (by decide) (fun h_5 => ?_) (fun h_5 => ?_)
  · have h_6 := bI_0 h_5
    refine v_iconst hC dX12_at_40 (v := (-1)) (by decide) ?_
    exact hR _ _ _ _ _ _ _ dX12_at_41 rfl (Nat.le_of_ble_eq_true rfl) (Nat.le_of_ble_eq_true rfl) rfl
  · have h_7 := bI_1 h_5
    refine v_aload_n hC dX12_at_7 rfl ?_
    refine v_iload_n hC dX12_at_8 rfl ?_
    refine v_vi hC (rest := []) m_m e_m rfl mi_X12_isThere ms_X12_isThere (d_isThere m_m e_m m_wo e_wo (show 0 ≤ c ∧ c < 4 by simp only [Int32.lt_iff_toInt_lt, Int32.le_iff_toInt_le, Int32.reduceToInt, ← Int32.toInt_inj] at h_7 ⊢; omega)) mx_X12_isThere ml_X12_351 (by decide) rfl (cells1 := 0) (slots1 := 0) (by decide) (by decide) (Nat.le_of_ble_eq_true rfl) (Nat.le_of_ble_eq_true rfl) rfl (Nat.le_of_ble_eq_true rfl) dX12_at_9 (fun r_8 L_9 f_10 h_11 => ?_)
    obtain ⟨rfl, rfl, rfl⟩ := h_11
    refine v_if_eq_t hC dX12_at_12 (tgt := 40) (by decide) (by decide) ?_
    refine v_iconst hC dX12_at_40 (v := (-1)) (by decide) ?_
    exact hR _ _ _ _ _ _ _ dX12_at_41 rfl (Nat.le_of_ble_eq_true rfl) (Nat.le_of_ble_eq_true rfl) rfl
set_option maxRecDepth 100000 in
set_option maxHeartbeats 4000000 in
theorem y_turn {l : Launch} {E : Ez} {L : List Nat} {f : Nat → va_E} {m wo img hi tp fv fr cl0 pl wd rd tr0 co bi wl mn wi nu mv : Nat} {c : Int32} {i : Int32} {j : Int32} (m_m : m ∈ L) (e_m : f m = ob 12 [.int 0, .ref wo, .ref img, .ref hi, .ref tp, .int 0, .ref fv, .int 0, .int 0, .int 0, .int 0, .int 0, .int 0, .int (-1), .ref fr, .ref cl0, .ref pl, .int 0, .ref wd, .ref rd, .int (-1), .ref tr0, .ref co, .ref bi, .ref wl, .ref mn, .ref wi, .ref nu, .ref mv]) (m_wo : wo ∈ L) (e_wo : f wo = aI E 2076 (fun _ => 0)) : CI l yX12_turn cX12_turn 5 .int 2 0 0 E [.ref m, .int c, .int i, .int j] L f (fun r L1 f1 => (-2 : Int32) = r) := by
  refine ci_of (by decide) (Nat.le_of_ble_eq_true rfl) (fun z hz hnm hC hR => ?_)
  have hC : Cx z E cX12_turn RX12 5 2 0 0 := hC
  subst hz
  show V z E 5 0 0 L f 0 [(0, .ref m), (1, .int c), (2, .int i), (3, .int j)] []
  refine v_iload_n hC dX12_turn_0 rfl ?_
  refine v_si hC (rest := []) mt_X12_isCloth (d_isCloth) mx_X12_isCloth ml_X12_319 (by decide) rfl (cells1 := 0) (slots1 := 0) (by decide) (by decide) (Nat.le_of_ble_eq_true rfl) (Nat.le_of_ble_eq_true rfl) rfl (Nat.le_of_ble_eq_true rfl) dX12_turn_1 (fun r_1 L_2 f_3 h_4 => ?_)
  obtain ⟨rfl, rfl, rfl⟩ := h_4
  refine v_if_eq hC dX12_turn_4 (tgt := 31) (by decide) (fun h_5 => ?_) (fun h_5 => ?_)
  · have h_6 := bI_0 h_5
    refine v_bipush hC dX12_turn_31 (v := (-2)) (by decide) ?_
    exact hR _ _ _ _ _ _ _ dX12_turn_33 rfl (Nat.le_of_ble_eq_true rfl) (Nat.le_of_ble_eq_true rfl) rfl
  · have h_7 := bI_1 h_5
    refine v_aload_n hC dX12_turn_7 rfl ?_
    refine v_iload_n hC dX12_turn_8 rfl ?_
    refine v_iload_n hC dX12_turn_9 rfl ?_
    refine v_vi hC (rest := []) m_m e_m rfl mi_X12_isPlace ms_X12_isPlace (a199_X12_isPlace m_m e_m m_wo e_wo) mx_X12_isPlace ml_X12_379 (by decide) rfl (cells1 := 0) (slots1 := 0) (by decide) (by decide) (Nat.le_of_ble_eq_true rfl) (Nat.le_of_ble_eq_true rfl) rfl (Nat.le_of_ble_eq_true rfl) dX12_turn_10 (fun r_8 L_9 f_10 h_11 => ?_)
    obtain ⟨rfl, rfl, rfl⟩ := h_11
    refine v_if_eq_t hC dX12_turn_13 (tgt := 31) (by decide) (by decide) ?_
    refine v_bipush hC dX12_turn_31 (v := (-2)) (by decide) ?_
    exact hR _ _ _ _ _ _ _ dX12_turn_33 rfl (Nat.le_of_ble_eq_true rfl) (Nat.le_of_ble_eq_true rfl) rfl
