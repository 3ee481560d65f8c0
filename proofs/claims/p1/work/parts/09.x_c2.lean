set_option maxRecDepth 100000 in
set_option maxHeartbeats 4000000 in
theorem a78_X7_complain {l : Launch} {E : Ez} {L : List Nat} {f : Nat → va_E} {aa_0 aa_1 : Nat} (m_aa_0 : aa_0 ∈ L) (e_aa_0 : f aa_0 = ob 7 [.ref aa_1, .int 0, .int 0, .int 0, .int 0, .int 0, .int (-1)]) : CV l yX7_complain cX7_complain 2 1 0 0 E [.ref aa_0, .int 1] L f (fun L1 f1 => L = L1 ∧ f1 aa_0 = ob 7 [.ref aa_1, .int 0, .int 4, .int 0, .int 0, .int 1, .int 0] ∧ ∀ b, b ≠ aa_0 → f1 b = f b) := by
  refine cv_of (by decide) (Nat.le_of_ble_eq_true rfl) (fun z hz hnm hC hR => ?_)
  have hC : Cx z E cX7_complain RX7 2 1 0 0 := hC
  subst hz
  show V z E 2 0 0 L f 0 [(0, .ref aa_0), (1, .int 1)] []
  refine v_aload_n hC dX7_complain_0 rfl ?_
  refine v_vi hC (rest := []) m_aa_0 e_aa_0 rfl mi_X7_isFine ms_X7_isFine (a66_X7_isFine m_aa_0 e_aa_0) mx_X7_isFine ml_X7_31 (by decide) rfl (cells1 := 0) (slots1 := 0) (by decide) (by decide) (Nat.le_of_ble_eq_true rfl) (Nat.le_of_ble_eq_true rfl) rfl (Nat.le_of_ble_eq_true rfl) dX7_complain_1 (fun r_1 L_2 f_3 h_4 => ?_)
  obtain ⟨rfl, rfl, rfl⟩ := h_4
  refine v_if_eq_f hC dX7_complain_4 (tgt := 25) (by decide) (by decide) ?_
  refine v_aload_n hC dX7_complain_7 rfl ?_
  refine v_iload_n hC dX7_complain_8 rfl ?_
  refine v_put hC fl_X7_22 m_aa_0 e_aa_0 rfl rfl (Nat.le_of_ble_eq_true rfl) (fs' := [.ref aa_1, .int 0, .int 0, .int 0, .int 0, .int 1, .int (-1)]) rfl dX7_complain_9 (fun f_5 hf_6 hk_7 => ?_)
  refine v_aload_n hC dX7_complain_12 rfl ?_
  refine v_aload_n hC dX7_complain_13 rfl ?_
  refine v_get hC fl_X7_38 m_aa_0 hf_6 rfl dX7_complain_14 ?_
  refine v_put hC fl_X7_15 m_aa_0 hf_6 rfl rfl (Nat.le_of_ble_eq_true rfl) (fs' := [.ref aa_1, .int 0, .int 0, .int 0, .int 0, .int 1, .int 0]) rfl dX7_complain_17 (fun f_8 hf_9 hk_10 => ?_)
  refine v_aload_n hC dX7_complain_20 rfl ?_
  refine v_iconst hC dX7_complain_21 (v := 4) (by decide) ?_
  refine v_put hC fl_X7_35 m_aa_0 hf_9 rfl rfl (Nat.le_of_ble_eq_true rfl) (fs' := [.ref aa_1, .int 0, .int 4, .int 0, .int 0, .int 1, .int 0]) rfl dX7_complain_22 (fun f_11 hf_12 hk_13 => ?_)
  exact hR _ _ _ _ _ _ dX7_complain_25 (Nat.le_of_ble_eq_true rfl) (Nat.le_of_ble_eq_true rfl) ⟨rfl, hf_12, fun b nn_0 => ((hk_13 b nn_0).trans ((hk_10 b nn_0).trans (hk_7 b nn_0)))⟩
set_option maxRecDepth 100000 in
set_option maxHeartbeats 4000000 in
theorem a76_X7_takeWord {l : Launch} {E : Ez} {L : List Nat} {f : Nat → va_E} {aa_0 aa_1 aa_2 : Nat} (m_aa_0 : aa_0 ∈ L) (e_aa_0 : f aa_0 = ob 7 [.ref aa_2, .int 0, .int 0, .int 0, .int 0, .int 0, .int (-1)]) : CV l yX7_takeWord cX7_takeWord 2 2 0 0 E [.ref aa_0, .ref aa_1] L f (fun L1 f1 => L = L1 ∧ f1 aa_0 = ob 7 [.ref aa_2, .int 0, .int 4, .int 0, .int 0, .int 1, .int 0] ∧ ∀ b, b ≠ aa_0 → f1 b = f b) := by
  refine cv_of (by decide) (Nat.le_of_ble_eq_true rfl) (fun z hz hnm hC hR => ?_)
  have hC : Cx z E cX7_takeWord RX7 2 2 0 0 := hC
  subst hz
  show V z E 2 0 0 L f 0 [(0, .ref aa_0), (1, .ref aa_1)] []
  refine v_aload_n hC dX7_takeWord_0 rfl ?_
  refine v_aload_n hC dX7_takeWord_1 rfl ?_
  refine v_vi hC (rest := []) m_aa_0 e_aa_0 rfl mi_X7_isWord ms_X7_isWord (a76_X7_isWord m_aa_0 e_aa_0) mx_X7_isWord ml_X7_77 (by decide) rfl (cells1 := 0) (slots1 := 0) (by decide) (by decide) (Nat.le_of_ble_eq_true rfl) (Nat.le_of_ble_eq_true rfl) rfl (Nat.le_of_ble_eq_true rfl) dX7_takeWord_2 (fun r_1 L_2 f_3 h_4 => ?_)
  obtain ⟨rfl, rfl, rfl⟩ := h_4
  refine v_if_eq_t hC dX7_takeWord_5 (tgt := 15) (by decide) (by decide) ?_
  refine v_aload_n hC dX7_takeWord_15 rfl ?_
  refine v_iconst hC dX7_takeWord_16 (v := 1) (by decide) ?_
  refine v_vv hC (rest := []) m_aa_0 e_aa_0 rfl mi_X7_complain ms_X7_complain (a78_X7_complain m_aa_0 e_aa_0) mx_X7_complain ml_X7_81 (by decide) rfl (cells1 := 0) (slots1 := 0) (by decide) (by decide) (Nat.le_of_ble_eq_true rfl) (Nat.le_of_ble_eq_true rfl) rfl (Nat.le_of_ble_eq_true rfl) dX7_takeWord_17 (fun L_6 f_7 h_8 => ?_)
  obtain ⟨rfl, hf_9, hk_10⟩ := h_8
  exact hR _ _ _ _ _ _ dX7_takeWord_20 (Nat.le_of_ble_eq_true rfl) (Nat.le_of_ble_eq_true rfl) ⟨rfl, hf_9, fun b nn_0 => (hk_10 b nn_0)⟩
set_option maxRecDepth 100000 in
set_option maxHeartbeats 4000000 in
theorem a82_X7_isNumber {l : Launch} {E : Ez} {L : List Nat} {f : Nat → va_E} {aa_0 aa_1 : Nat} (m_aa_0 : aa_0 ∈ L) (e_aa_0 : f aa_0 = ob 7 [.ref aa_1, .int 0, .int 4, .int 0, .int 0, .int 1, .int 0]) : CI l yX7_isNumber cX7_isNumber 1 .boolean 0 0 0 E [.ref aa_0] L f (fun r L1 f1 => 0 = r ∧ L = L1 ∧ f = f1) := by
  refine ci_of (by decide) (Nat.le_of_ble_eq_true rfl) (fun z hz hnm hC hR => ?_)
  have hC : Cx z E cX7_isNumber RX7 1 0 0 0 := hC
  subst hz
  show V z E 1 0 0 L f 0 [(0, .ref aa_0)] []
  refine v_aload_n hC dX7_isNumber_0 rfl ?_
  refine v_get hC fl_X7_35 m_aa_0 e_aa_0 rfl dX7_isNumber_1 ?_
  refine v_iconst hC dX7_isNumber_4 (v := 2) (by decide) ?_
  refine v_icmp_ne_t hC dX7_isNumber_5 (tgt := 12) (by decide) (by decide) ?_
  refine v_iconst hC dX7_isNumber_12 (v := 0) (by decide) ?_
  exact hR _ _ _ _ _ _ _ dX7_isNumber_13 rfl (Nat.le_of_ble_eq_true rfl) (Nat.le_of_ble_eq_true rfl) ⟨rfl, rfl, rfl⟩
set_option maxRecDepth 100000 in
set_option maxHeartbeats 4000000 in
theorem a84_X7_isFine {l : Launch} {E : Ez} {L : List Nat} {f : Nat → va_E} {aa_0 aa_1 : Nat} (m_aa_0 : aa_0 ∈ L) (e_aa_0 : f aa_0 = ob 7 [.ref aa_1, .int 0, .int 4, .int 0, .int 0, .int 1, .int 0]) : CI l yX7_isFine cX7_isFine 1 .boolean 0 0 0 E [.ref aa_0] L f (fun r L1 f1 => 0 = r ∧ L = L1 ∧ f = f1) := by
  refine ci_of (by decide) (Nat.le_of_ble_eq_true rfl) (fun z hz hnm hC hR => ?_)
  have hC : Cx z E cX7_isFine RX7 1 0 0 0 := hC
  subst hz
  show V z E 1 0 0 L f 0 [(0, .ref aa_0)] []
  refine v_aload_n hC dX7_isFine_0 rfl ?_
  refine v_get hC fl_X7_22 m_aa_0 e_aa_0 rfl dX7_isFine_1 ?_
  refine v_if_ne_t hC dX7_isFine_4 (tgt := 11) (by decide) (by decide) ?_
  refine v_iconst hC dX7_isFine_11 (v := 0) (by decide) ?_
  exact hR _ _ _ _ _ _ _ dX7_isFine_12 rfl (Nat.le_of_ble_eq_true rfl) (Nat.le_of_ble_eq_true rfl) ⟨rfl, rfl, rfl⟩
set_option maxRecDepth 100000 in
set_option maxHeartbeats 4000000 in
theorem a84_X7_complain {l : Launch} {E : Ez} {L : List Nat} {f : Nat → va_E} {aa_0 aa_1 : Nat} (m_aa_0 : aa_0 ∈ L) (e_aa_0 : f aa_0 = ob 7 [.ref aa_1, .int 0, .int 4, .int 0, .int 0, .int 1, .int 0]) : CV l yX7_complain cX7_complain 2 1 0 0 E [.ref aa_0, .int 1] L f (fun L1 f1 => L = L1 ∧ f = f1) := by
  refine cv_of (by decide) (Nat.le_of_ble_eq_true rfl) (fun z hz hnm hC hR => ?_)
  have hC : Cx z E cX7_complain RX7 2 1 0 0 := hC
  subst hz
  show V z E 2 0 0 L f 0 [(0, .ref aa_0), (1, .int 1)] []
  refine v_aload_n hC dX7_complain_0 rfl ?_
  refine v_vi hC (rest := []) m_aa_0 e_aa_0 rfl mi_X7_isFine ms_X7_isFine (a84_X7_isFine m_aa_0 e_aa_0) mx_X7_isFine ml_X7_31 (by decide) rfl (cells1 := 0) (slots1 := 0) (by decide) (by decide) (Nat.le_of_ble_eq_true rfl) (Nat.le_of_ble_eq_true rfl) rfl (Nat.le_of_ble_eq_true rfl) dX7_complain_1 (fun r_1 L_2 f_3 h_4 => ?_)
  obtain ⟨rfl, rfl, rfl⟩ := h_4
  refine v_if_eq_t hC dX7_complain_4 (tgt := 25) (by decide) (by decide) ?_
  exact hR _ _ _ _ _ _ dX7_complain_25 (Nat.le_of_ble_eq_true rfl) (Nat.le_of_ble_eq_true rfl) ⟨rfl, rfl⟩
set_option maxRecDepth 100000 in
set_option maxHeartbeats 4000000 in
theorem a82_X7_takeNumber {l : Launch} {E : Ez} {L : List Nat} {f : Nat → va_E} {aa_0 aa_1 : Nat} (m_aa_0 : aa_0 ∈ L) (e_aa_0 : f aa_0 = ob 7 [.ref aa_1, .int 0, .int 4, .int 0, .int 0, .int 1, .int 0]) : CI l yX7_takeNumber cX7_takeNumber 4 .int 2 0 0 E [.ref aa_0, .int 1, .int 16] L f (fun r L1 f1 => 1 = r ∧ L = L1 ∧ f = f1) := by
  refine ci_of (by decide) (Nat.le_of_ble_eq_true rfl) (fun z hz hnm hC hR => ?_)
  have hC : Cx z E cX7_takeNumber RX7 4 2 0 0 := hC
  subst hz
  show V z E 4 0 0 L f 0 [(0, .ref aa_0), (1, .int 1), (2, .int 16)] []
  refine v_aload_n hC dX7_takeNumber_0 rfl ?_
  refine v_vi hC (rest := []) m_aa_0 e_aa_0 rfl mi_X7_isNumber ms_X7_isNumber (a82_X7_isNumber m_aa_0 e_aa_0) mx_X7_isNumber ml_X7_58 (by decide) rfl (cells1 := 0) (slots1 := 0) (by decide) (by decide) (Nat.le_of_ble_eq_true rfl) (Nat.le_of_ble_eq_true rfl) rfl (Nat.le_of_ble_eq_true rfl) dX7_takeNumber_1 (fun r_1 L_2 f_3 h_4 => ?_)
  obtain ⟨rfl, rfl, rfl⟩ := h_4
  refine v_if_ne_f hC dX7_takeNumber_4 (tgt := 14) (by decide) (by decide) ?_
  refine v_aload_n hC dX7_takeNumber_7 rfl ?_
  refine v_iconst hC dX7_takeNumber_8 (v := 1) (by decide) ?_
  refine v_vv hC (rest := []) m_aa_0 e_aa_0 rfl mi_X7_complain ms_X7_complain (a84_X7_complain m_aa_0 e_aa_0) mx_X7_complain ml_X7_81 (by decide) rfl (cells1 := 0) (slots1 := 0) (by decide) (by decide) (Nat.le_of_ble_eq_true rfl) (Nat.le_of_ble_eq_true rfl) rfl (Nat.le_of_ble_eq_true rfl) dX7_takeNumber_9 (fun L_6 f_7 h_8 => ?_)
  obtain ⟨rfl, rfl⟩ := h_8
  refine v_iload_n hC dX7_takeNumber_12 rfl ?_
  exact hR _ _ _ _ _ _ _ dX7_takeNumber_13 rfl (Nat.le_of_ble_eq_true rfl) (Nat.le_of_ble_eq_true rfl) ⟨rfl, rfl, rfl⟩
set_option maxRecDepth 100000 in
set_option maxHeartbeats 4000000 in
theorem a90_X7_isWord {l : Launch} {E : Ez} {L : List Nat} {f : Nat → va_E} {aa_0 aa_1 aa_2 : Nat} (m_aa_0 : aa_0 ∈ L) (e_aa_0 : f aa_0 = ob 7 [.ref aa_2, .int 0, .int 4, .int 0, .int 0, .int 1, .int 0]) : CI l yX7_isWord cX7_isWord 3 .boolean 0 0 0 E [.ref aa_0, .ref aa_1] L f (fun r L1 f1 => 0 = r ∧ L = L1 ∧ f = f1) := by
  refine ci_of (by decide) (Nat.le_of_ble_eq_true rfl) (fun z hz hnm hC hR => ?_)
  have hC : Cx z E cX7_isWord RX7 3 0 0 0 := hC
  subst hz
  show V z E 3 0 0 L f 0 [(0, .ref aa_0), (1, .ref aa_1)] []
  refine v_aload_n hC dX7_isWord_0 rfl ?_
  refine v_get hC fl_X7_35 m_aa_0 e_aa_0 rfl dX7_isWord_1 ?_
  refine v_iconst hC dX7_isWord_4 (v := 1) (by decide) ?_
  refine v_icmp_ne_t hC dX7_isWord_5 (tgt := 24) (by decide) (by decide) ?_
  refine v_iconst hC dX7_isWord_24 (v := 0) (by decide) ?_
  exact hR _ _ _ _ _ _ _ dX7_isWord_25 rfl (Nat.le_of_ble_eq_true rfl) (Nat.le_of_ble_eq_true rfl) ⟨rfl, rfl, rfl⟩
set_option maxRecDepth 100000 in
set_option maxHeartbeats 4000000 in
theorem a90_X7_takeWord {l : Launch} {E : Ez} {L : List Nat} {f : Nat → va_E} {aa_0 aa_1 aa_2 : Nat} (m_aa_0 : aa_0 ∈ L) (e_aa_0 : f aa_0 = ob 7 [.ref aa_2, .int 0, .int 4, .int 0, .int 0, .int 1, .int 0]) : CV l yX7_takeWord cX7_takeWord 2 2 0 0 E [.ref aa_0, .ref aa_1] L f (fun L1 f1 => L = L1 ∧ f = f1) := by
  refine cv_of (by decide) (Nat.le_of_ble_eq_true rfl) (fun z hz hnm hC hR => ?_)
  have hC : Cx z E cX7_takeWord RX7 2 2 0 0 := hC
  subst hz
  show V z E 2 0 0 L f 0 [(0, .ref aa_0), (1, .ref aa_1)] []
  refine v_aload_n hC dX7_takeWord_0 rfl ?_
  refine v_aload_n hC dX7_takeWord_1 rfl ?_
  refine v_vi hC (rest := []) m_aa_0 e_aa_0 rfl mi_X7_isWord ms_X7_isWord (a90_X7_isWord m_aa_0 e_aa_0) mx_X7_isWord ml_X7_77 (by decide) rfl (cells1 := 0) (slots1 := 0) (by decide) (by decide) (Nat.le_of_ble_eq_true rfl) (Nat.le_of_ble_eq_true rfl) rfl (Nat.le_of_ble_eq_true rfl) dX7_takeWord_2 (fun r_1 L_2 f_3 h_4 => ?_)
  obtain ⟨rfl, rfl, rfl⟩ := h_4
  refine v_if_eq_t hC dX7_takeWord_5 (tgt := 15) (by decide) (by decide) ?_
  refine v_aload_n hC dX7_takeWord_15 rfl ?_
  refine v_iconst hC dX7_takeWord_16 (v := 1) (by decide) ?_
  refine v_vv hC (rest := []) m_aa_0 e_aa_0 rfl mi_X7_complain ms_X7_complain (a84_X7_complain m_aa_0 e_aa_0) mx_X7_complain ml_X7_81 (by decide) rfl (cells1 := 0) (slots1 := 0) (by decide) (by decide) (Nat.le_of_ble_eq_true rfl) (Nat.le_of_ble_eq_true rfl) rfl (Nat.le_of_ble_eq_true rfl) dX7_takeWord_17 (fun L_6 f_7 h_8 => ?_)
  obtain ⟨rfl, rfl⟩ := h_8
  exact hR _ _ _ _ _ _ dX7_takeWord_20 (Nat.le_of_ble_eq_true rfl) (Nat.le_of_ble_eq_true rfl) ⟨rfl, rfl⟩
set_option maxRecDepth 100000 in
set_option maxHeartbeats 4000000 in
theorem a94_X7_isSemicolon {l : Launch} {E : Ez} {L : List Nat} {f : Nat → va_E} {aa_0 aa_1 : Nat} (m_aa_0 : aa_0 ∈ L) (e_aa_0 : f aa_0 = ob 7 [.ref aa_1, .int 0, .int 4, .int 0, .int 0, .int 1, .int 0]) : CI l yX7_isSemicolon cX7_isSemicolon 1 .boolean 0 0 0 E [.ref aa_0] L f (fun r L1 f1 => 0 = r ∧ L = L1 ∧ f = f1) := by
  refine ci_of (by decide) (Nat.le_of_ble_eq_true rfl) (fun z hz hnm hC hR => ?_)
  have hC : Cx z E cX7_isSemicolon RX7 1 0 0 0 := hC
  subst hz
  show V z E 1 0 0 L f 0 [(0, .ref aa_0)] []
  refine v_aload_n hC dX7_isSemicolon_0 rfl ?_
  refine v_get hC fl_X7_35 m_aa_0 e_aa_0 rfl dX7_isSemicolon_1 ?_
  refine v_iconst hC dX7_isSemicolon_4 (v := 3) (by decide) ?_
  refine v_icmp_ne_t hC dX7_isSemicolon_5 (tgt := 12) (by decide) (by decide) ?_
  refine v_iconst hC dX7_isSemicolon_12 (v := 0) (by decide) ?_
  exact hR _ _ _ _ _ _ _ dX7_isSemicolon_13 rfl (Nat.le_of_ble_eq_true rfl) (Nat.le_of_ble_eq_true rfl) ⟨rfl, rfl, rfl⟩
set_option maxRecDepth 100000 in
set_option maxHeartbeats 4000000 in
theorem a94_X7_takeSemicolon {l : Launch} {E : Ez} {L : List Nat} {f : Nat → va_E} {aa_0 aa_1 : Nat} (m_aa_0 : aa_0 ∈ L) (e_aa_0 : f aa_0 = ob 7 [.ref aa_1, .int 0, .int 4, .int 0, .int 0, .int 1, .int 0]) : CV l yX7_takeSemicolon cX7_takeSemicolon 1 2 0 0 E [.ref aa_0] L f (fun L1 f1 => L = L1 ∧ f = f1) := by
  refine cv_of (by decide) (Nat.le_of_ble_eq_true rfl) (fun z hz hnm hC hR => ?_)
  have hC : Cx z E cX7_takeSemicolon RX7 1 2 0 0 := hC
  subst hz
  show V z E 1 0 0 L f 0 [(0, .ref aa_0)] []
  refine v_aload_n hC dX7_takeSemicolon_0 rfl ?_
  refine v_vi hC (rest := []) m_aa_0 e_aa_0 rfl mi_X7_isSemicolon ms_X7_isSemicolon (a94_X7_isSemicolon m_aa_0 e_aa_0) mx_X7_isSemicolon ml_X7_85 (by decide) rfl (cells1 := 0) (slots1 := 0) (by decide) (by decide) (Nat.le_of_ble_eq_true rfl) (Nat.le_of_ble_eq_true rfl) rfl (Nat.le_of_ble_eq_true rfl) dX7_takeSemicolon_1 (fun r_1 L_2 f_3 h_4 => ?_)
  obtain ⟨rfl, rfl, rfl⟩ := h_4
  refine v_if_eq_t hC dX7_takeSemicolon_4 (tgt := 14) (by decide) (by decide) ?_
  refine v_aload_n hC dX7_takeSemicolon_14 rfl ?_
  refine v_iconst hC dX7_takeSemicolon_15 (v := 1) (by decide) ?_
  refine v_vv hC (rest := []) m_aa_0 e_aa_0 rfl mi_X7_complain ms_X7_complain (a84_X7_complain m_aa_0 e_aa_0) mx_X7_complain ml_X7_81 (by decide) rfl (cells1 := 0) (slots1 := 0) (by decide) (by decide) (Nat.le_of_ble_eq_true rfl) (Nat.le_of_ble_eq_true rfl) rfl (Nat.le_of_ble_eq_true rfl) dX7_takeSemicolon_16 (fun L_6 f_7 h_8 => ?_)
  obtain ⟨rfl, rfl⟩ := h_8
  exact hR _ _ _ _ _ _ dX7_takeSemicolon_19 (Nat.le_of_ble_eq_true rfl) (Nat.le_of_ble_eq_true rfl) ⟨rfl, rfl⟩
set_option maxRecDepth 100000 in
set_option maxHeartbeats 4000000 in
theorem a98_X7_isWordOf {l : Launch} {E : Ez} {L : List Nat} {f : Nat → va_E} {aa_0 aa_1 aa_2 : Nat} (m_aa_0 : aa_0 ∈ L) (e_aa_0 : f aa_0 = ob 7 [.ref aa_2, .int 0, .int 4, .int 0, .int 0, .int 1, .int 0]) : CI l yX7_isWordOf cX7_isWordOf 3 .boolean 0 0 0 E [.ref aa_0, .ref aa_1] L f (fun r L1 f1 => 0 = r ∧ L = L1 ∧ f = f1) := by
  refine ci_of (by decide) (Nat.le_of_ble_eq_true rfl) (fun z hz hnm hC hR => ?_)
  have hC : Cx z E cX7_isWordOf RX7 3 0 0 0 := hC
  subst hz
  show V z E 3 0 0 L f 0 [(0, .ref aa_0), (1, .ref aa_1)] []
  refine v_aload_n hC dX7_isWordOf_0 rfl ?_
  refine v_get hC fl_X7_38 m_aa_0 e_aa_0 rfl dX7_isWordOf_1 ?_
  refine v_istore_n hC dX7_isWordOf_4 (by decide) (lv' := [(2, .int 0), (0, .ref aa_0), (1, .ref aa_1)]) rfl ?_
  refine v_iload_n hC dX7_isWordOf_5 rfl ?_
  refine v_aload_n hC dX7_isWordOf_6 rfl ?_
  refine v_get hC fl_X7_25 m_aa_0 e_aa_0 rfl dX7_isWordOf_7 ?_
  refine v_icmp_ge_t hC dX7_isWordOf_10 (tgt := 34) (by decide) (by decide) ?_
  refine v_aload_n hC dX7_isWordOf_34 rfl ?_
  refine v_get hC fl_X7_35 m_aa_0 e_aa_0 rfl dX7_isWordOf_35 ?_
  refine v_iconst hC dX7_isWordOf_38 (v := 1) (by decide) ?_
  refine v_icmp_ne_t hC dX7_isWordOf_39 (tgt := 46) (by decide) (by decide) ?_
  refine v_iconst hC dX7_isWordOf_46 (v := 0) (by decide) ?_
  exact hR _ _ _ _ _ _ _ dX7_isWordOf_47 rfl (Nat.le_of_ble_eq_true rfl) (Nat.le_of_ble_eq_true rfl) ⟨rfl, rfl, rfl⟩
set_option maxRecDepth 100000 in
set_option maxHeartbeats 4000000 in
theorem a98_X4_tellRow {l : Launch} {E : Ez} {L : List Nat} {f : Nat → va_E} {aa_0 aa_1 aa_4 : Nat} (m_aa_1 : aa_1 ∈ L) (e_aa_1 : f aa_1 = ob 7 [.ref aa_4, .int 0, .int 4, .int 0, .int 0, .int 1, .int 0]) : CV l yX4_tellRow cX4_tellRow 3 3 0 0 E [.ref aa_0, .ref aa_1, .int 0] L f (fun L1 f1 => L = L1 ∧ f = f1) := by
  refine cv_of (by decide) (Nat.le_of_ble_eq_true rfl) (fun z hz hnm hC hR => ?_)
  have hC : Cx z E cX4_tellRow RX4 3 3 0 0 := hC
  subst hz
  show V z E 3 0 0 L f 0 [(0, .ref aa_0), (1, .ref aa_1), (2, .int 0)] []
  refine v_iload_n hC dX4_tellRow_0 rfl ?_
  refine v_bipush hC dX4_tellRow_1 (v := 8) (by decide) ?_
  refine v_icmp_ne_t hC dX4_tellRow_3 (tgt := 20) (by decide) (by decide) ?_
  refine v_aload_n hC dX4_tellRow_20 rfl ?_
  refine v_ldcS hC sr_X4_87 dX4_tellRow_21 ?_
  refine v_vv hC (rest := []) m_aa_1 e_aa_1 rfl mi_X7_takeWord ms_X7_takeWord (a90_X7_takeWord m_aa_1 e_aa_1) mx_X7_takeWord ml_X4_57 (by decide) rfl (cells1 := 0) (slots1 := 0) (by decide) (by decide) (Nat.le_of_ble_eq_true rfl) (Nat.le_of_ble_eq_true rfl) rfl (Nat.le_of_ble_eq_true rfl) dX4_tellRow_23 (fun L_2 f_3 h_4 => ?_)
  obtain ⟨rfl, rfl⟩ := h_4
  refine v_aload_n hC dX4_tellRow_26 rfl ?_
  refine v_ldcS hC sr_X4_96 dX4_tellRow_27 ?_
  refine v_vi hC (rest := []) m_aa_1 e_aa_1 rfl mi_X7_isWordOf ms_X7_isWordOf (a98_X7_isWordOf m_aa_1 e_aa_1) mx_X7_isWordOf ml_X4_98 (by decide) rfl (cells1 := 0) (slots1 := 0) (by decide) (by decide) (Nat.le_of_ble_eq_true rfl) (Nat.le_of_ble_eq_true rfl) rfl (Nat.le_of_ble_eq_true rfl) dX4_tellRow_29 (fun r_5 L_6 f_7 h_8 => ?_)
  obtain ⟨rfl, rfl, rfl⟩ := h_8
  refine v_if_eq_t hC dX4_tellRow_32 (tgt := 57) (by decide) (by decide) ?_
  refine v_aload_n hC dX4_tellRow_57 rfl ?_
  refine v_iconst hC dX4_tellRow_58 (v := 1) (by decide) ?_
  refine v_vv hC (rest := []) m_aa_1 e_aa_1 rfl mi_X7_complain ms_X7_complain (a84_X7_complain m_aa_1 e_aa_1) mx_X7_complain ml_X4_93 (by decide) rfl (cells1 := 0) (slots1 := 0) (by decide) (by decide) (Nat.le_of_ble_eq_true rfl) (Nat.le_of_ble_eq_true rfl) rfl (Nat.le_of_ble_eq_true rfl) dX4_tellRow_59 (fun L_10 f_11 h_12 => ?_)
  obtain ⟨rfl, rfl⟩ := h_12
  refine v_aload_n hC dX4_tellRow_62 rfl ?_
  refine v_vv hC (rest := []) m_aa_1 e_aa_1 rfl mi_X7_takeSemicolon ms_X7_takeSemicolon (a94_X7_takeSemicolon m_aa_1 e_aa_1) mx_X7_takeSemicolon ml_X4_66 (by decide) rfl (cells1 := 0) (slots1 := 0) (by decide) (by decide) (Nat.le_of_ble_eq_true rfl) (Nat.le_of_ble_eq_true rfl) rfl (Nat.le_of_ble_eq_true rfl) dX4_tellRow_63 (fun L_14 f_15 h_16 => ?_)
  obtain ⟨rfl, rfl⟩ := h_16
  exact hR _ _ _ _ _ _ dX4_tellRow_66 (Nat.le_of_ble_eq_true rfl) (Nat.le_of_ble_eq_true rfl) ⟨rfl, rfl⟩
set_option maxRecDepth 100000 in
set_option maxHeartbeats 4000000 in
theorem a102_X7_goesOn {l : Launch} {E : Ez} {L : List Nat} {f : Nat → va_E} {aa_0 aa_1 : Nat} (m_aa_0 : aa_0 ∈ L) (e_aa_0 : f aa_0 = ob 7 [.ref aa_1, .int 0, .int 4, .int 0, .int 0, .int 1, .int 0]) : CI l yX7_goesOn cX7_goesOn 1 .boolean 1 0 0 E [.ref aa_0] L f (fun r L1 f1 => 0 = r ∧ L = L1 ∧ f = f1) := by
  refine ci_of (by decide) (Nat.le_of_ble_eq_true rfl) (fun z hz hnm hC hR => ?_)
  have hC : Cx z E cX7_goesOn RX7 1 1 0 0 := hC
  subst hz
  show V z E 1 0 0 L f 0 [(0, .ref aa_0)] []
  refine v_aload_n hC dX7_goesOn_0 rfl ?_
  refine v_vi hC (rest := []) m_aa_0 e_aa_0 rfl mi_X7_isFine ms_X7_isFine (a84_X7_isFine m_aa_0 e_aa_0) mx_X7_isFine ml_X7_31 (by decide) rfl (cells1 := 0) (slots1 := 0) (by decide) (by decide) (Nat.le_of_ble_eq_true rfl) (Nat.le_of_ble_eq_true rfl) rfl (Nat.le_of_ble_eq_true rfl) dX7_goesOn_1 (fun r_1 L_2 f_3 h_4 => ?_)
  obtain ⟨rfl, rfl, rfl⟩ := h_4
  refine v_if_eq_t hC dX7_goesOn_4 (tgt := 18) (by decide) (by decide) ?_
  refine v_iconst hC dX7_goesOn_18 (v := 0) (by decide) ?_
  exact hR _ _ _ _ _ _ _ dX7_goesOn_19 rfl (Nat.le_of_ble_eq_true rfl) (Nat.le_of_ble_eq_true rfl) ⟨rfl, rfl, rfl⟩
set_option maxRecDepth 100000 in
set_option maxHeartbeats 4000000 in
theorem a66_X4_tell {l : Launch} {E : Ez} {L : List Nat} {f : Nat → va_E} {aa_0 aa_1 aa_2 aa_3 aa_4 : Nat} (m_aa_1 : aa_1 ∈ L) (e_aa_1 : f aa_1 = ob 7 [.ref aa_4, .int 0, .int 0, .int 0, .int 0, .int 0, .int (-1)]) (m_aa_0 : aa_0 ∈ L) (e_aa_0 : f aa_0 = ob 4 [.ref aa_2, .ref aa_3, .int 0, .int 0, .int 0]) : CI l yX4_tell cX4_tell 3 .boolean 4 0 0 E [.ref aa_0, .ref aa_1] L f (fun r L1 f1 => 0 = r ∧ L = L1 ∧ f1 aa_1 = ob 7 [.ref aa_4, .int 0, .int 4, .int 0, .int 0, .int 1, .int 0] ∧ f1 aa_0 = ob 4 [.ref aa_2, .ref aa_3, .int 1, .int 1, .int 0] ∧ ∀ b, b ≠ aa_1 → b ≠ aa_0 → f1 b = f b) := by
  refine ci_of (by decide) (Nat.le_of_ble_eq_true rfl) (fun z hz hnm hC hR => ?_)
  have hC : Cx z E cX4_tell RX4 3 4 0 0 := hC
  subst hz
  show V z E 3 0 0 L f 0 [(0, .ref aa_0), (1, .ref aa_1)] []
  refine v_aload_n hC dX4_tell_0 rfl ?_
  refine v_vv hC (rest := []) m_aa_1 e_aa_1 rfl mi_X7_start ms_X7_start (a66_X7_start m_aa_1 e_aa_1) mx_X7_start ml_X4_51 (by decide) rfl (cells1 := 0) (slots1 := 0) (by decide) (by decide) (Nat.le_of_ble_eq_true rfl) (Nat.le_of_ble_eq_true rfl) rfl (Nat.le_of_ble_eq_true rfl) dX4_tell_1 (fun L_2 f_3 h_4 => ?_)
  obtain ⟨rfl, rfl⟩ := h_4
  refine v_aload_n hC dX4_tell_4 rfl ?_
  refine v_ldcS hC sr_X4_56 dX4_tell_5 ?_
  refine v_vv hC (rest := []) m_aa_1 e_aa_1 rfl mi_X7_takeWord ms_X7_takeWord (a76_X7_takeWord m_aa_1 e_aa_1) mx_X7_takeWord ml_X4_57 (by decide) rfl (cells1 := 0) (slots1 := 0) (by decide) (by decide) (Nat.le_of_ble_eq_true rfl) (Nat.le_of_ble_eq_true rfl) rfl (Nat.le_of_ble_eq_true rfl) dX4_tell_7 (fun L_6 f_7 h_8 => ?_)
  obtain ⟨rfl, hf_9, hk_10⟩ := h_8
  have hf_11 := (hk_10 aa_0 (ne_kd e_aa_0 e_aa_1 rfl)).trans e_aa_0
  refine v_aload_n hC dX4_tell_10 rfl ?_
  refine v_aload_n hC dX4_tell_11 rfl ?_
  refine v_iconst hC dX4_tell_12 (v := 1) (by decide) ?_
  refine v_bipush hC dX4_tell_13 (v := 16) (by decide) ?_
  refine v_vi hC (rest := [.ref aa_0]) m_aa_1 hf_9 rfl mi_X7_takeNumber ms_X7_takeNumber (a82_X7_takeNumber m_aa_1 hf_9) mx_X7_takeNumber ml_X4_61 (by decide) rfl (cells1 := 0) (slots1 := 0) (by decide) (by decide) (Nat.le_of_ble_eq_true rfl) (Nat.le_of_ble_eq_true rfl) rfl (Nat.le_of_ble_eq_true rfl) dX4_tell_15 (fun r_12 L_13 f_14 h_15 => ?_)
  obtain ⟨rfl, rfl, rfl⟩ := h_15
  refine v_put hC fl_X4_22 m_aa_0 hf_11 rfl rfl (Nat.le_of_ble_eq_true rfl) (fs' := [.ref aa_2, .ref aa_3, .int 1, .int 0, .int 0]) rfl dX4_tell_18 (fun f_16 hf_17 hk_18 => ?_)
  have hf_19 := (hk_18 aa_1 (ne_kd hf_9 hf_11 rfl)).trans hf_9
  refine v_aload_n hC dX4_tell_21 rfl ?_
  refine v_ldcS hC sr_X4_64 dX4_tell_22 ?_
  refine v_vv hC (rest := []) m_aa_1 hf_19 rfl mi_X7_takeWord ms_X7_takeWord (a90_X7_takeWord m_aa_1 hf_19) mx_X7_takeWord ml_X4_57 (by decide) rfl (cells1 := 0) (slots1 := 0) (by decide) (by decide) (Nat.le_of_ble_eq_true rfl) (Nat.le_of_ble_eq_true rfl) rfl (Nat.le_of_ble_eq_true rfl) dX4_tell_24 (fun L_21 f_22 h_23 => ?_)
  obtain ⟨rfl, rfl⟩ := h_23
  refine v_aload_n hC dX4_tell_27 rfl ?_
  refine v_aload_n hC dX4_tell_28 rfl ?_
  refine v_iconst hC dX4_tell_29 (v := 1) (by decide) ?_
  refine v_bipush hC dX4_tell_30 (v := 16) (by decide) ?_
  refine v_vi hC (rest := [.ref aa_0]) m_aa_1 hf_19 rfl mi_X7_takeNumber ms_X7_takeNumber (a82_X7_takeNumber m_aa_1 hf_19) mx_X7_takeNumber ml_X4_61 (by decide) rfl (cells1 := 0) (slots1 := 0) (by decide) (by decide) (Nat.le_of_ble_eq_true rfl) (Nat.le_of_ble_eq_true rfl) rfl (Nat.le_of_ble_eq_true rfl) dX4_tell_32 (fun r_24 L_25 f_26 h_27 => ?_)
  obtain ⟨rfl, rfl, rfl⟩ := h_27
  refine v_put hC fl_X4_18 m_aa_0 hf_17 rfl rfl (Nat.le_of_ble_eq_true rfl) (fs' := [.ref aa_2, .ref aa_3, .int 1, .int 1, .int 0]) rfl dX4_tell_35 (fun f_28 hf_29 hk_30 => ?_)
  have hf_31 := (hk_30 aa_1 (ne_kd hf_19 hf_17 rfl)).trans hf_19
  refine v_aload_n hC dX4_tell_38 rfl ?_
  refine v_vv hC (rest := []) m_aa_1 hf_31 rfl mi_X7_takeSemicolon ms_X7_takeSemicolon (a94_X7_takeSemicolon m_aa_1 hf_31) mx_X7_takeSemicolon ml_X4_66 (by decide) rfl (cells1 := 0) (slots1 := 0) (by decide) (by decide) (Nat.le_of_ble_eq_true rfl) (Nat.le_of_ble_eq_true rfl) rfl (Nat.le_of_ble_eq_true rfl) dX4_tell_39 (fun L_33 f_34 h_35 => ?_)
  obtain ⟨rfl, rfl⟩ := h_35
  refine v_aload_n hC dX4_tell_42 rfl ?_
  refine v_aload_n hC dX4_tell_43 rfl ?_
  refine v_iconst hC dX4_tell_44 (v := 0) (by decide) ?_
  refine v_vv hC (rest := []) m_aa_0 hf_29 rfl mi_X4_tellRow ms_X4_tellRow (a98_X4_tellRow m_aa_1 hf_31) mx_X4_tellRow ml_X4_69 (by decide) rfl (cells1 := 0) (slots1 := 0) (by decide) (by decide) (Nat.le_of_ble_eq_true rfl) (Nat.le_of_ble_eq_true rfl) rfl (Nat.le_of_ble_eq_true rfl) dX4_tell_45 (fun L_37 f_38 h_39 => ?_)
  obtain ⟨rfl, rfl⟩ := h_39
  refine v_iconst hC dX4_tell_48 (v := 1) (by decide) ?_
  refine v_istore_n hC dX4_tell_49 (by decide) (lv' := [(2, .int 1), (0, .ref aa_0), (1, .ref aa_1)]) rfl ?_
  refine v_iload_n hC dX4_tell_50 rfl ?_
  refine v_bipush hC dX4_tell_51 (v := 8) (by decide) ?_
  refine v_icmp_gt_f hC dX4_tell_53 (tgt := 75) (by decide) (by decide) ?_
  refine v_aload_n hC dX4_tell_56 rfl ?_
  refine v_vi hC (rest := []) m_aa_1 hf_31 rfl mi_X7_goesOn ms_X7_goesOn (a102_X7_goesOn m_aa_1 hf_31) mx_X7_goesOn ml_X4_73 (by decide) rfl (cells1 := 0) (slots1 := 0) (by decide) (by decide) (Nat.le_of_ble_eq_true rfl) (Nat.le_of_ble_eq_true rfl) rfl (Nat.le_of_ble_eq_true rfl) dX4_tell_57 (fun r_40 L_41 f_42 h_43 => ?_)
  obtain ⟨rfl, rfl, rfl⟩ := h_43
  refine v_if_eq_t hC dX4_tell_60 (tgt := 75) (by decide) (by decide) ?_
  refine v_aload_n hC dX4_tell_75 rfl ?_
  refine v_vi hC (rest := []) m_aa_1 hf_31 rfl mi_X7_isFine ms_X7_isFine (a84_X7_isFine m_aa_1 hf_31) mx_X7_isFine ml_X4_77 (by decide) rfl (cells1 := 0) (slots1 := 0) (by decide) (by decide) (Nat.le_of_ble_eq_true rfl) (Nat.le_of_ble_eq_true rfl) rfl (Nat.le_of_ble_eq_true rfl) dX4_tell_76 (fun r_44 L_45 f_46 h_47 => ?_)
  obtain ⟨rfl, rfl, rfl⟩ := h_47
  refine v_if_eq_t hC dX4_tell_79 (tgt := 91) (by decide) (by decide) ?_
  refine v_aload_n hC dX4_tell_91 rfl ?_
  refine v_vi hC (rest := []) m_aa_1 hf_31 rfl mi_X7_isFine ms_X7_isFine (a84_X7_isFine m_aa_1 hf_31) mx_X7_isFine ml_X4_77 (by decide) rfl (cells1 := 0) (slots1 := 0) (by decide) (by decide) (Nat.le_of_ble_eq_true rfl) (Nat.le_of_ble_eq_true rfl) rfl (Nat.le_of_ble_eq_true rfl) dX4_tell_92 (fun r_48 L_49 f_50 h_51 => ?_)
  obtain ⟨rfl, rfl, rfl⟩ := h_51
  exact hR _ _ _ _ _ _ _ dX4_tell_95 rfl (Nat.le_of_ble_eq_true rfl) (Nat.le_of_ble_eq_true rfl) ⟨rfl, rfl, hf_31, hf_29, fun b nn_0 nn_1 => ((hk_30 b nn_1).trans ((hk_18 b nn_1).trans (hk_10 b nn_0)))⟩
set_option maxRecDepth 100000 in
set_option maxHeartbeats 4000000 in
theorem a106_X7_empty {l : Launch} {E : Ez} {L : List Nat} {f : Nat → va_E} {aa_0 aa_1 : Nat} (m_aa_0 : aa_0 ∈ L) (e_aa_0 : f aa_0 = ob 7 [.ref aa_1, .int 0, .int 4, .int 0, .int 0, .int 1, .int 0]) : CV l yX7_empty cX7_empty 1 0 0 0 E [.ref aa_0] L f (fun L1 f1 => L = L1 ∧ f = f1) := by
  refine cv_of (by decide) (Nat.le_of_ble_eq_true rfl) (fun z hz hnm hC hR => ?_)
  have hC : Cx z E cX7_empty RX7 1 0 0 0 := hC
  subst hz
  show V z E 1 0 0 L f 0 [(0, .ref aa_0)] []
  refine v_aload_n hC dX7_empty_0 rfl ?_
  refine v_iconst hC dX7_empty_1 (v := 0) (by decide) ?_
  refine v_put hC fl_X7_19 m_aa_0 e_aa_0 rfl rfl (Nat.le_of_ble_eq_true rfl) (fs' := [.ref aa_1, .int 0, .int 4, .int 0, .int 0, .int 1, .int 0]) rfl dX7_empty_2 (fun f_1 hf_2 hk_3 => ?_)
  obtain rfl : f = f_1 := (funext (noop e_aa_0 hf_2 hk_3)).symm
  exact hR _ _ _ _ _ _ dX7_empty_5 (Nat.le_of_ble_eq_true rfl) (Nat.le_of_ble_eq_true rfl) ⟨rfl, rfl⟩
set_option maxRecDepth 100000 in
set_option maxHeartbeats 4000000 in
theorem x_pattern {l : Launch} {E : Ez} {L : List Nat} {f : Nat → va_E} {he im la nl now np npf nps ns nw nwa sl t ta tb tr wa x : Nat} (m_x : x ∈ L) (e_x : f x = ob 11 [.ref t, .ref now, .ref im, .ref la, .ref sl, .ref np, .ref ns, .ref nw, .ref nwa, .ref nl, .ref he, .ref wa, .ref tr, .ref ta]) (m_t : t ∈ L) (e_t : f t = ob 7 [.ref tb, .int 0, .int 0, .int 0, .int 0, .int 0, .int (-1)]) (m_np : np ∈ L) (e_np : f np = ob 4 [.ref nps, .ref npf, .int 0, .int 0, .int 0]) : CI l yX11_pattern cX11_pattern 2 .int 5 0 0 E [.ref x] L f (fun r L1 f1 => (-4 : Int32) = r) := by
  refine ci_of (by decide) (Nat.le_of_ble_eq_true rfl) (fun z hz hnm hC hR => ?_)
  have hC : Cx z E cX11_pattern RX11 2 5 0 0 := hC
  subst hz
  show V z E 2 0 0 L f 0 [(0, .ref x)] []
  refine v_aload_n hC dX11_pattern_0 rfl ?_
  refine v_get hC fl_X11_43 m_x e_x rfl dX11_pattern_1 ?_
  refine v_aload_n hC dX11_pattern_4 rfl ?_
  refine v_get hC fl_X11_12 m_x e_x rfl dX11_pattern_5 ?_
  refine v_vi hC (rest := []) m_np e_np rfl mi_X4_tell ms_X4_tell (a66_X4_tell m_t e_t m_np e_np) mx_X4_tell ml_X11_109 (by decide) rfl (cells1 := 0) (slots1 := 0) (by decide) (by decide) (Nat.le_of_ble_eq_true rfl) (Nat.le_of_ble_eq_true rfl) rfl (Nat.le_of_ble_eq_true rfl) dX11_pattern_8 (fun r_1 L_2 f_3 h_4 => ?_)
  obtain ⟨rfl, rfl, hf_5, hf_6, hk_7⟩ := h_4
  have hf_8 := (hk_7 x (ne_kd e_x e_t rfl) (ne_kd e_x e_np rfl)).trans e_x
  refine v_istore_n hC dX11_pattern_11 (by decide) (lv' := [(1, .int 0), (0, .ref x)]) rfl ?_
  refine v_aload_n hC dX11_pattern_12 rfl ?_
  refine v_get hC fl_X11_12 m_x hf_8 rfl dX11_pattern_13 ?_
  refine v_vv hC (rest := []) m_t hf_5 rfl mi_X7_empty ms_X7_empty (a106_X7_empty m_t hf_5) mx_X7_empty ml_X11_113 (by decide) rfl (cells1 := 0) (slots1 := 0) (by decide) (by decide) (Nat.le_of_ble_eq_true rfl) (Nat.le_of_ble_eq_true rfl) rfl (Nat.le_of_ble_eq_true rfl) dX11_pattern_16 (fun L_10 f_11 h_12 => ?_)
  obtain ⟨rfl, rfl⟩ := h_12
  refine v_iload_n hC dX11_pattern_19 rfl ?_
  refine v_if_ne_f hC dX11_pattern_20 (tgt := 26) (by decide) (by decide) ?_
  refine v_bipush hC dX11_pattern_23 (v := (-4)) (by decide) ?_
  exact hR _ _ _ _ _ _ _ dX11_pattern_25 rfl (Nat.le_of_ble_eq_true rfl) (Nat.le_of_ble_eq_true rfl) rfl
set_option maxRecDepth 100000 in
set_option maxHeartbeats 4000000 in
theorem a109_X7_takeNumber {l : Launch} {E : Ez} {L : List Nat} {f : Nat → va_E} {aa_0 aa_1 : Nat} (m_aa_0 : aa_0 ∈ L) (e_aa_0 : f aa_0 = ob 7 [.ref aa_1, .int 0, .int 4, .int 0, .int 0, .int 1, .int 0]) : CI l yX7_takeNumber cX7_takeNumber 4 .int 2 0 0 E [.ref aa_0, .int 0, .int 100] L f (fun r L1 f1 => 0 = r ∧ L = L1 ∧ f = f1) := by
  refine ci_of (by decide) (Nat.le_of_ble_eq_true rfl) (fun z hz hnm hC hR => ?_)
  have hC : Cx z E cX7_takeNumber RX7 4 2 0 0 := hC
  subst hz
  show V z E 4 0 0 L f 0 [(0, .ref aa_0), (1, .int 0), (2, .int 100)] []
  refine v_aload_n hC dX7_takeNumber_0 rfl ?_
  refine v_vi hC (rest := []) m_aa_0 e_aa_0 rfl mi_X7_isNumber ms_X7_isNumber (a82_X7_isNumber m_aa_0 e_aa_0) mx_X7_isNumber ml_X7_58 (by decide) rfl (cells1 := 0) (slots1 := 0) (by decide) (by decide) (Nat.le_of_ble_eq_true rfl) (Nat.le_of_ble_eq_true rfl) rfl (Nat.le_of_ble_eq_true rfl) dX7_takeNumber_1 (fun r_1 L_2 f_3 h_4 => ?_)
  obtain ⟨rfl, rfl, rfl⟩ := h_4
  refine v_if_ne_f hC dX7_takeNumber_4 (tgt := 14) (by decide) (by decide) ?_
  refine v_aload_n hC dX7_takeNumber_7 rfl ?_
  refine v_iconst hC dX7_takeNumber_8 (v := 1) (by decide) ?_
  refine v_vv hC (rest := []) m_aa_0 e_aa_0 rfl mi_X7_complain ms_X7_complain (a84_X7_complain m_aa_0 e_aa_0) mx_X7_complain ml_X7_81 (by decide) rfl (cells1 := 0) (slots1 := 0) (by decide) (by decide) (Nat.le_of_ble_eq_true rfl) (Nat.le_of_ble_eq_true rfl) rfl (Nat.le_of_ble_eq_true rfl) dX7_takeNumber_9 (fun L_6 f_7 h_8 => ?_)
  obtain ⟨rfl, rfl⟩ := h_8
  refine v_iload_n hC dX7_takeNumber_12 rfl ?_
  exact hR _ _ _ _ _ _ _ dX7_takeNumber_13 rfl (Nat.le_of_ble_eq_true rfl) (Nat.le_of_ble_eq_true rfl) ⟨rfl, rfl, rfl⟩
set_option maxRecDepth 100000 in
set_option maxHeartbeats 4000000 in
theorem a111_X7_takeEnd {l : Launch} {E : Ez} {L : List Nat} {f : Nat → va_E} {aa_0 aa_1 : Nat} (m_aa_0 : aa_0 ∈ L) (e_aa_0 : f aa_0 = ob 7 [.ref aa_1, .int 0, .int 4, .int 0, .int 0, .int 1, .int 0]) : CV l yX7_takeEnd cX7_takeEnd 1 2 0 0 E [.ref aa_0] L f (fun L1 f1 => L = L1 ∧ f = f1) := by
  refine cv_of (by decide) (Nat.le_of_ble_eq_true rfl) (fun z hz hnm hC hR => ?_)
  have hC : Cx z E cX7_takeEnd RX7 1 2 0 0 := hC
  subst hz
  show V z E 1 0 0 L f 0 [(0, .ref aa_0)] []
  refine v_aload_n hC dX7_takeEnd_0 rfl ?_
  refine v_get hC fl_X7_35 m_aa_0 e_aa_0 rfl dX7_takeEnd_1 ?_
  refine v_if_eq_f hC dX7_takeEnd_4 (tgt := 12) (by decide) (by decide) ?_
  refine v_aload_n hC dX7_takeEnd_7 rfl ?_
  refine v_iconst hC dX7_takeEnd_8 (v := 1) (by decide) ?_
  refine v_vv hC (rest := []) m_aa_0 e_aa_0 rfl mi_X7_complain ms_X7_complain (a84_X7_complain m_aa_0 e_aa_0) mx_X7_complain ml_X7_81 (by decide) rfl (cells1 := 0) (slots1 := 0) (by decide) (by decide) (Nat.le_of_ble_eq_true rfl) (Nat.le_of_ble_eq_true rfl) rfl (Nat.le_of_ble_eq_true rfl) dX7_takeEnd_9 (fun L_2 f_3 h_4 => ?_)
  obtain ⟨rfl, rfl⟩ := h_4
  exact hR _ _ _ _ _ _ dX7_takeEnd_12 (Nat.le_of_ble_eq_true rfl) (Nat.le_of_ble_eq_true rfl) ⟨rfl, rfl⟩
set_option maxRecDepth 100000 in
set_option maxHeartbeats 4000000 in
theorem a109_X11_tellHand {l : Launch} {E : Ez} {L : List Nat} {f : Nat → va_E} {aa_0 aa_1 aa_2 aa_3 aa_4 aa_5 aa_6 aa_7 aa_8 aa_9 aa_10 aa_11 aa_12 aa_13 aa_14 aa_15 : Nat} {gg_0 : Nat → Int32} (m_aa_0 : aa_0 ∈ L) (e_aa_0 : f aa_0 = ob 11 [.ref aa_1, .ref aa_2, .ref aa_3, .ref aa_4, .ref aa_5, .ref aa_6, .ref aa_7, .ref aa_8, .ref aa_9, .ref aa_10, .ref aa_11, .ref aa_12, .ref aa_13, .ref aa_14]) (m_aa_1 : aa_1 ∈ L) (e_aa_1 : f aa_1 = ob 7 [.ref aa_15, .int 0, .int 0, .int 0, .int 0, .int 0, .int (-1)]) (m_aa_7 : aa_7 ∈ L) (e_aa_7 : f aa_7 = aI E 3 gg_0) : CI l yX11_tellHand cX11_tellHand 2 .boolean 3 0 0 E [.ref aa_0] L f (fun r L1 f1 => 0 = r ∧ L = L1 ∧ f1 aa_1 = ob 7 [.ref aa_15, .int 0, .int 4, .int 0, .int 0, .int 1, .int 0] ∧ (∃ g9, f1 aa_7 = aI E 3 g9) ∧ ∀ b, b ≠ aa_1 → b ≠ aa_7 → f1 b = f b) := by
  refine ci_of (by decide) (Nat.le_of_ble_eq_true rfl) (fun z hz hnm hC hR => ?_)
  have hC : Cx z E cX11_tellHand RX11 2 3 0 0 := hC
  subst hz
  show V z E 2 0 0 L f 0 [(0, .ref aa_0)] []
  refine v_aload_n hC dX11_tellHand_0 rfl ?_
  refine v_get hC fl_X11_12 m_aa_0 e_aa_0 rfl dX11_tellHand_1 ?_
  refine v_vv hC (rest := []) m_aa_1 e_aa_1 rfl mi_X7_start ms_X7_start (a66_X7_start m_aa_1 e_aa_1) mx_X7_start ml_X11_387 (by decide) rfl (cells1 := 0) (slots1 := 0) (by decide) (by decide) (Nat.le_of_ble_eq_true rfl) (Nat.le_of_ble_eq_true rfl) rfl (Nat.le_of_ble_eq_true rfl) dX11_tellHand_4 (fun L_2 f_3 h_4 => ?_)
  obtain ⟨rfl, rfl⟩ := h_4
  refine v_aload_n hC dX11_tellHand_7 rfl ?_
  refine v_get hC fl_X11_12 m_aa_0 e_aa_0 rfl dX11_tellHand_8 ?_
  refine v_ldcwS hC sr_X11_390 dX11_tellHand_11 ?_
  refine v_vv hC (rest := []) m_aa_1 e_aa_1 rfl mi_X7_takeWord ms_X7_takeWord (a76_X7_takeWord m_aa_1 e_aa_1) mx_X7_takeWord ml_X11_392 (by decide) rfl (cells1 := 0) (slots1 := 0) (by decide) (by decide) (Nat.le_of_ble_eq_true rfl) (Nat.le_of_ble_eq_true rfl) rfl (Nat.le_of_ble_eq_true rfl) dX11_tellHand_14 (fun L_6 f_7 h_8 => ?_)
  obtain ⟨rfl, hf_9, hk_10⟩ := h_8
  have hf_11 := (hk_10 aa_0 (ne_kd e_aa_0 e_aa_1 rfl)).trans e_aa_0
  have hf_12 := (hk_10 aa_7 (ne_kd e_aa_7 e_aa_1 rfl)).trans e_aa_7
  refine v_iconst hC dX11_tellHand_17 (v := 0) (by decide) ?_
  refine v_istore_n hC dX11_tellHand_18 (by decide) (lv' := [(1, .int 0), (0, .ref aa_0)]) rfl ?_
  refine v_iload_n hC dX11_tellHand_19 rfl ?_
  refine v_iconst hC dX11_tellHand_20 (v := 3) (by decide) ?_
  refine v_icmp_ge_f hC dX11_tellHand_21 (tgt := 77) (by decide) (by decide) ?_
  refine v_aload_n hC dX11_tellHand_24 rfl ?_
  refine v_get hC fl_X11_12 m_aa_0 hf_11 rfl dX11_tellHand_25 ?_
  refine v_iload_n hC dX11_tellHand_28 rfl ?_
  refine v_if_ne_f hC dX11_tellHand_29 (tgt := 38) (by decide) (by decide) ?_
  refine v_ldcwS hC sr_X11_396 dX11_tellHand_32 ?_
  refine v_goto hC dX11_tellHand_35 (tgt := 52) (by decide) ?_
  refine v_vv hC (rest := []) m_aa_1 hf_9 rfl mi_X7_takeWord ms_X7_takeWord (a90_X7_takeWord m_aa_1 hf_9) mx_X7_takeWord ml_X11_392 (by decide) rfl (cells1 := 0) (slots1 := 0) (by decide) (by decide) (Nat.le_of_ble_eq_true rfl) (Nat.le_of_ble_eq_true rfl) rfl (Nat.le_of_ble_eq_true rfl) dX11_tellHand_52 (fun L_14 f_15 h_16 => ?_)
  obtain ⟨rfl, rfl⟩ := h_16
  refine v_aload_n hC dX11_tellHand_55 rfl ?_
  refine v_get hC fl_X11_47 m_aa_0 hf_11 rfl dX11_tellHand_56 ?_
  refine v_iload_n hC dX11_tellHand_59 rfl ?_
  refine v_aload_n hC dX11_tellHand_60 rfl ?_
  refine v_get hC fl_X11_12 m_aa_0 hf_11 rfl dX11_tellHand_61 ?_
  refine v_iconst hC dX11_tellHand_64 (v := 0) (by decide) ?_
  refine v_bipush hC dX11_tellHand_65 (v := 100) (by decide) ?_
  refine v_vi hC (rest := [.int 0, .ref aa_7]) m_aa_1 hf_9 rfl mi_X7_takeNumber ms_X7_takeNumber (a109_X7_takeNumber m_aa_1 hf_9) mx_X7_takeNumber ml_X11_402 (by decide) rfl (cells1 := 0) (slots1 := 0) (by decide) (by decide) (Nat.le_of_ble_eq_true rfl) (Nat.le_of_ble_eq_true rfl) rfl (Nat.le_of_ble_eq_true rfl) dX11_tellHand_67 (fun r_17 L_18 f_19 h_20 => ?_)
  obtain ⟨rfl, rfl, rfl⟩ := h_20
  refine v_iast hC m_aa_7 hf_12 (by unfold vp_in; decide) dX11_tellHand_70 (fun f_21 hf_22 hk_23 => ?_)
  obtain ⟨g_24, hf_22⟩ : ∃ g9, f_21 aa_7 = aI E 3 g9 := ⟨_, hf_22⟩
  have hf_25 := (hk_23 aa_0 (ne_kd hf_11 hf_12 rfl)).trans hf_11
  have hf_26 := (hk_23 aa_1 (ne_kd hf_9 hf_12 rfl)).trans hf_9
  refine v_iinc hC dX11_tellHand_71 (k := 0) rfl (v := 1) (by decide) (by decide) (lv' := [(1, .int 1), (0, .ref aa_0)]) rfl ?_
  refine v_goto hC dX11_tellHand_74 (tgt := 19) (by decide) ?_
  refine v_iload_n hC dX11_tellHand_19 rfl ?_
  refine v_iconst hC dX11_tellHand_20 (v := 3) (by decide) ?_
  refine v_icmp_ge_f hC dX11_tellHand_21 (tgt := 77) (by decide) (by decide) ?_
  refine v_aload_n hC dX11_tellHand_24 rfl ?_
  refine v_get hC fl_X11_12 m_aa_0 hf_25 rfl dX11_tellHand_25 ?_
  refine v_iload_n hC dX11_tellHand_28 rfl ?_
  refine v_if_ne_t hC dX11_tellHand_29 (tgt := 38) (by decide) (by decide) ?_
  refine v_iload_n hC dX11_tellHand_38 rfl ?_
  refine v_iconst hC dX11_tellHand_39 (v := 1) (by decide) ?_
  refine v_icmp_ne_f hC dX11_tellHand_40 (tgt := 49) (by decide) (by decide) ?_
  refine v_ldcwS hC sr_X11_398 dX11_tellHand_43 ?_
  refine v_goto hC dX11_tellHand_46 (tgt := 52) (by decide) ?_
  refine v_vv hC (rest := []) m_aa_1 hf_26 rfl mi_X7_takeWord ms_X7_takeWord (a90_X7_takeWord m_aa_1 hf_26) mx_X7_takeWord ml_X11_392 (by decide) rfl (cells1 := 0) (slots1 := 0) (by decide) (by decide) (Nat.le_of_ble_eq_true rfl) (Nat.le_of_ble_eq_true rfl) rfl (Nat.le_of_ble_eq_true rfl) dX11_tellHand_52 (fun L_28 f_29 h_30 => ?_)
  obtain ⟨rfl, rfl⟩ := h_30
  refine v_aload_n hC dX11_tellHand_55 rfl ?_
  refine v_get hC fl_X11_47 m_aa_0 hf_25 rfl dX11_tellHand_56 ?_
  refine v_iload_n hC dX11_tellHand_59 rfl ?_
  refine v_aload_n hC dX11_tellHand_60 rfl ?_
  refine v_get hC fl_X11_12 m_aa_0 hf_25 rfl dX11_tellHand_61 ?_
  refine v_iconst hC dX11_tellHand_64 (v := 0) (by decide) ?_
  refine v_bipush hC dX11_tellHand_65 (v := 100) (by decide) ?_
  refine v_vi hC (rest := [.int 1, .ref aa_7]) m_aa_1 hf_26 rfl mi_X7_takeNumber ms_X7_takeNumber (a109_X7_takeNumber m_aa_1 hf_26) mx_X7_takeNumber ml_X11_402 (by decide) rfl (cells1 := 0) (slots1 := 0) (by decide) (by decide) (Nat.le_of_ble_eq_true rfl) (Nat.le_of_ble_eq_true rfl) rfl (Nat.le_of_ble_eq_true rfl) dX11_tellHand_67 (fun r_31 L_32 f_33 h_34 => ?_)
  obtain ⟨rfl, rfl, rfl⟩ := h_34
  refine v_iast hC m_aa_7 hf_22 (by unfold vp_in; decide) dX11_tellHand_70 (fun f_35 hf_36 hk_37 => ?_)
  obtain ⟨g_38, hf_36⟩ : ∃ g9, f_35 aa_7 = aI E 3 g9 := ⟨_, hf_36⟩
  have hf_39 := (hk_37 aa_0 (ne_kd hf_25 hf_22 rfl)).trans hf_25
  have hf_40 := (hk_37 aa_1 (ne_kd hf_26 hf_22 rfl)).trans hf_26
  refine v_iinc hC dX11_tellHand_71 (k := 0) rfl (v := 2) (by decide) (by decide) (lv' := [(1, .int 2), (0, .ref aa_0)]) rfl ?_
  refine v_goto hC dX11_tellHand_74 (tgt := 19) (by decide) ?_
  refine v_iload_n hC dX11_tellHand_19 rfl ?_
  refine v_iconst hC dX11_tellHand_20 (v := 3) (by decide) ?_
  refine v_icmp_ge_f hC dX11_tellHand_21 (tgt := 77) (by decide) (by decide) ?_
  refine v_aload_n hC dX11_tellHand_24 rfl ?_
  refine v_get hC fl_X11_12 m_aa_0 hf_39 rfl dX11_tellHand_25 ?_
  refine v_iload_n hC dX11_tellHand_28 rfl ?_
  refine v_if_ne_t hC dX11_tellHand_29 (tgt := 38) (by decide) (by decide) ?_
  refine v_iload_n hC dX11_tellHand_38 rfl ?_
  refine v_iconst hC dX11_tellHand_39 (v := 1) (by decide) ?_
  refine v_icmp_ne_t hC dX11_tellHand_40 (tgt := 49) (by decide) (by decide) ?_
  refine v_ldcwS hC sr_X11_400 dX11_tellHand_49 ?_
  refine v_vv hC (rest := []) m_aa_1 hf_40 rfl mi_X7_takeWord ms_X7_takeWord (a90_X7_takeWord m_aa_1 hf_40) mx_X7_takeWord ml_X11_392 (by decide) rfl (cells1 := 0) (slots1 := 0) (by decide) (by decide) (Nat.le_of_ble_eq_true rfl) (Nat.le_of_ble_eq_true rfl) rfl (Nat.le_of_ble_eq_true rfl) dX11_tellHand_52 (fun L_42 f_43 h_44 => ?_)
  obtain ⟨rfl, rfl⟩ := h_44
  refine v_aload_n hC dX11_tellHand_55 rfl ?_
  refine v_get hC fl_X11_47 m_aa_0 hf_39 rfl dX11_tellHand_56 ?_
  refine v_iload_n hC dX11_tellHand_59 rfl ?_
  refine v_aload_n hC dX11_tellHand_60 rfl ?_
  refine v_get hC fl_X11_12 m_aa_0 hf_39 rfl dX11_tellHand_61 ?_
  refine v_iconst hC dX11_tellHand_64 (v := 0) (by decide) ?_
  refine v_bipush hC dX11_tellHand_65 (v := 100) (by decide) ?_
  refine v_vi hC (rest := [.int 2, .ref aa_7]) m_aa_1 hf_40 rfl mi_X7_takeNumber ms_X7_takeNumber (a109_X7_takeNumber m_aa_1 hf_40) mx_X7_takeNumber ml_X11_402 (by decide) rfl (cells1 := 0) (slots1 := 0) (by decide) (by decide) (Nat.le_of_ble_eq_true rfl) (Nat.le_of_ble_eq_true rfl) rfl (Nat.le_of_ble_eq_true rfl) dX11_tellHand_67 (fun r_45 L_46 f_47 h_48 => ?_)
  obtain ⟨rfl, rfl, rfl⟩ := h_48
  refine v_iast hC m_aa_7 hf_36 (by unfold vp_in; decide) dX11_tellHand_70 (fun f_49 hf_50 hk_51 => ?_)
  obtain ⟨g_52, hf_50⟩ : ∃ g9, f_49 aa_7 = aI E 3 g9 := ⟨_, hf_50⟩
  have hf_53 := (hk_51 aa_0 (ne_kd hf_39 hf_36 rfl)).trans hf_39
  have hf_54 := (hk_51 aa_1 (ne_kd hf_40 hf_36 rfl)).trans hf_40
  refine v_iinc hC dX11_tellHand_71 (k := 0) rfl (v := 3) (by decide) (by decide) (lv' := [(1, .int 3), (0, .ref aa_0)]) rfl ?_
  refine v_goto hC dX11_tellHand_74 (tgt := 19) (by decide) ?_
  refine v_iload_n hC dX11_tellHand_19 rfl ?_
  refine v_iconst hC dX11_tellHand_20 (v := 3) (by decide) ?_
  refine v_icmp_ge_t hC dX11_tellHand_21 (tgt := 77) (by decide) (by decide) ?_
  refine v_aload_n hC dX11_tellHand_77 rfl ?_
  refine v_get hC fl_X11_12 m_aa_0 hf_53 rfl dX11_tellHand_78 ?_
  refine v_vv hC (rest := []) m_aa_1 hf_54 rfl mi_X7_takeSemicolon ms_X7_takeSemicolon (a94_X7_takeSemicolon m_aa_1 hf_54) mx_X7_takeSemicolon ml_X11_405 (by decide) rfl (cells1 := 0) (slots1 := 0) (by decide) (by decide) (Nat.le_of_ble_eq_true rfl) (Nat.le_of_ble_eq_true rfl) rfl (Nat.le_of_ble_eq_true rfl) dX11_tellHand_81 (fun L_56 f_57 h_58 => ?_)
  obtain ⟨rfl, rfl⟩ := h_58
  refine v_aload_n hC dX11_tellHand_84 rfl ?_
  refine v_get hC fl_X11_12 m_aa_0 hf_53 rfl dX11_tellHand_85 ?_
  refine v_vv hC (rest := []) m_aa_1 hf_54 rfl mi_X7_takeEnd ms_X7_takeEnd (a111_X7_takeEnd m_aa_1 hf_54) mx_X7_takeEnd ml_X11_408 (by decide) rfl (cells1 := 0) (slots1 := 0) (by decide) (by decide) (Nat.le_of_ble_eq_true rfl) (Nat.le_of_ble_eq_true rfl) rfl (Nat.le_of_ble_eq_true rfl) dX11_tellHand_88 (fun L_60 f_61 h_62 => ?_)
  obtain ⟨rfl, rfl⟩ := h_62
  refine v_aload_n hC dX11_tellHand_91 rfl ?_
  refine v_get hC fl_X11_12 m_aa_0 hf_53 rfl dX11_tellHand_92 ?_
  refine v_vi hC (rest := []) m_aa_1 hf_54 rfl mi_X7_isFine ms_X7_isFine (a84_X7_isFine m_aa_1 hf_54) mx_X7_isFine ml_X11_411 (by decide) rfl (cells1 := 0) (slots1 := 0) (by decide) (by decide) (Nat.le_of_ble_eq_true rfl) (Nat.le_of_ble_eq_true rfl) rfl (Nat.le_of_ble_eq_true rfl) dX11_tellHand_95 (fun r_63 L_64 f_65 h_66 => ?_)
  obtain ⟨rfl, rfl, rfl⟩ := h_66
  exact hR _ _ _ _ _ _ _ dX11_tellHand_98 rfl (Nat.le_of_ble_eq_true rfl) (Nat.le_of_ble_eq_true rfl) ⟨rfl, rfl, hf_54, ⟨_, hf_50⟩, fun b nn_0 nn_1 => ((hk_51 b nn_1).trans ((hk_37 b nn_1).trans ((hk_23 b nn_1).trans (hk_10 b nn_0))))⟩
set_option maxRecDepth 100000 in
set_option maxHeartbeats 4000000 in
theorem x_hand {l : Launch} {E : Ez} {L : List Nat} {f : Nat → va_E} {he im la nl now np ns nw nwa sl t ta tb tr wa x : Nat} (m_x : x ∈ L) (e_x : f x = ob 11 [.ref t, .ref now, .ref im, .ref la, .ref sl, .ref np, .ref ns, .ref nw, .ref nwa, .ref nl, .ref he, .ref wa, .ref tr, .ref ta]) (m_t : t ∈ L) (e_t : f t = ob 7 [.ref tb, .int 0, .int 0, .int 0, .int 0, .int 0, .int (-1)]) (m_ns : ns ∈ L) (e_ns : f ns = aI E 3 (fun _ => 0)) : CI l yX11_hand cX11_hand 2 .int 4 0 0 E [.ref x] L f (fun r L1 f1 => (-4 : Int32) = r) := by
  refine ci_of (by decide) (Nat.le_of_ble_eq_true rfl) (fun z hz hnm hC hR => ?_)
  have hC : Cx z E cX11_hand RX11 2 4 0 0 := hC
  subst hz
  show V z E 2 0 0 L f 0 [(0, .ref x)] []
  refine v_aload_n hC dX11_hand_0 rfl ?_
  refine v_vi hC (rest := []) m_x e_x rfl mi_X11_tellHand ms_X11_tellHand (a109_X11_tellHand m_x e_x m_t e_t m_ns e_ns) mx_X11_tellHand ml_X11_129 (by decide) rfl (cells1 := 0) (slots1 := 0) (by decide) (by decide) (Nat.le_of_ble_eq_true rfl) (Nat.le_of_ble_eq_true rfl) rfl (Nat.le_of_ble_eq_true rfl) dX11_hand_1 (fun r_1 L_2 f_3 h_4 => ?_)
  obtain ⟨rfl, rfl, hf_5, ⟨g_8, hf_6⟩, hk_7⟩ := h_4
  have hf_9 := (hk_7 x (ne_kd e_x e_t rfl) (ne_kd e_x e_ns rfl)).trans e_x
  refine v_istore_n hC dX11_hand_4 (by decide) (lv' := [(1, .int 0), (0, .ref x)]) rfl ?_
  refine v_aload_n hC dX11_hand_5 rfl ?_
  refine v_get hC fl_X11_12 m_x hf_9 rfl dX11_hand_6 ?_
  refine v_vv hC (rest := []) m_t hf_5 rfl mi_X7_empty ms_X7_empty (a106_X7_empty m_t hf_5) mx_X7_empty ml_X11_113 (by decide) rfl (cells1 := 0) (slots1 := 0) (by decide) (by decide) (Nat.le_of_ble_eq_true rfl) (Nat.le_of_ble_eq_true rfl) rfl (Nat.le_of_ble_eq_true rfl) dX11_hand_9 (fun L_11 f_12 h_13 => ?_)
  obtain ⟨rfl, rfl⟩ := h_13
  refine v_iload_n hC dX11_hand_12 rfl ?_
  refine v_if_ne_f hC dX11_hand_13 (tgt := 19) (by decide) (by decide) ?_
  refine v_bipush hC dX11_hand_16 (v := (-4)) (by decide) ?_
  exact hR _ _ _ _ _ _ _ dX11_hand_18 rfl (Nat.le_of_ble_eq_true rfl) (Nat.le_of_ble_eq_true rfl) rfl
set_option maxRecDepth 100000 in
set_option maxHeartbeats 4000000 in
theorem a116_X7_wordLength {l : Launch} {E : Ez} {L : List Nat} {f : Nat → va_E} {aa_0 aa_1 : Nat} (m_aa_0 : aa_0 ∈ L) (e_aa_0 : f aa_0 = ob 7 [.ref aa_1, .int 0, .int 4, .int 0, .int 0, .int 1, .int 0]) : CI l yX7_wordLength cX7_wordLength 1 .int 0 0 0 E [.ref aa_0] L f (fun r L1 f1 => 0 = r ∧ L = L1 ∧ f = f1) := by
  refine ci_of (by decide) (Nat.le_of_ble_eq_true rfl) (fun z hz hnm hC hR => ?_)
  have hC : Cx z E cX7_wordLength RX7 1 0 0 0 := hC
  subst hz
  show V z E 1 0 0 L f 0 [(0, .ref aa_0)] []
  refine v_aload_n hC dX7_wordLength_0 rfl ?_
  refine v_get hC fl_X7_35 m_aa_0 e_aa_0 rfl dX7_wordLength_1 ?_
  refine v_iconst hC dX7_wordLength_4 (v := 1) (by decide) ?_
  refine v_icmp_ne_t hC dX7_wordLength_5 (tgt := 20) (by decide) (by decide) ?_
  refine v_iconst hC dX7_wordLength_20 (v := 0) (by decide) ?_
  exact hR _ _ _ _ _ _ _ dX7_wordLength_21 rfl (Nat.le_of_ble_eq_true rfl) (Nat.le_of_ble_eq_true rfl) ⟨rfl, rfl, rfl⟩
set_option maxRecDepth 100000 in
set_option maxHeartbeats 4000000 in
theorem a116_X10_tellSorts {l : Launch} {E : Ez} {L : List Nat} {f : Nat → va_E} {aa_0 aa_1 aa_2 : Nat} (m_aa_0 : aa_0 ∈ L) (e_aa_0 : f aa_0 = ob 10 [.int 1, .int 0, .int 1, .int 1, .int 1, .int 0, .int 0]) (m_aa_1 : aa_1 ∈ L) (e_aa_1 : f aa_1 = ob 7 [.ref aa_2, .int 0, .int 4, .int 0, .int 0, .int 1, .int 0]) : CV l yX10_tellSorts cX10_tellSorts 5 2 0 0 E [.ref aa_0, .ref aa_1] L f (fun L1 f1 => L = L1 ∧ f = f1) := by
  refine cv_of (by decide) (Nat.le_of_ble_eq_true rfl) (fun z hz hnm hC hR => ?_)
  have hC : Cx z E cX10_tellSorts RX10 5 2 0 0 := hC
  subst hz
  show V z E 5 0 0 L f 0 [(0, .ref aa_0), (1, .ref aa_1)] []
  refine v_aload_n hC dX10_tellSorts_0 rfl ?_
  refine v_iconst hC dX10_tellSorts_1 (v := 0) (by decide) ?_
  refine v_put hC fl_X10_25 m_aa_0 e_aa_0 rfl rfl (Nat.le_of_ble_eq_true rfl) (fs' := [.int 1, .int 0, .int 1, .int 1, .int 1, .int 0, .int 0]) rfl dX10_tellSorts_2 (fun f_1 hf_2 hk_3 => ?_)
  obtain rfl : f = f_1 := (funext (noop e_aa_0 hf_2 hk_3)).symm
  refine v_aload_n hC dX10_tellSorts_5 rfl ?_
  refine v_ldcS hC sr_X10_80 dX10_tellSorts_6 ?_
  refine v_vi hC (rest := []) m_aa_1 e_aa_1 rfl mi_X7_isWordOf ms_X7_isWordOf (a98_X7_isWordOf m_aa_1 e_aa_1) mx_X7_isWordOf ml_X10_82 (by decide) rfl (cells1 := 0) (slots1 := 0) (by decide) (by decide) (Nat.le_of_ble_eq_true rfl) (Nat.le_of_ble_eq_true rfl) rfl (Nat.le_of_ble_eq_true rfl) dX10_tellSorts_8 (fun r_4 L_5 f_6 h_7 => ?_)
  obtain ⟨rfl, rfl, rfl⟩ := h_7
  refine v_istore_n hC dX10_tellSorts_11 (by decide) (lv' := [(2, .int 0), (0, .ref aa_0), (1, .ref aa_1)]) rfl ?_
  refine v_iconst hC dX10_tellSorts_12 (v := 0) (by decide) ?_
  refine v_istore_n hC dX10_tellSorts_13 (by decide) (lv' := [(3, .int 0), (2, .int 0), (0, .ref aa_0), (1, .ref aa_1)]) rfl ?_
  refine v_iload_n hC dX10_tellSorts_14 rfl ?_
  refine v_aload_n hC dX10_tellSorts_15 rfl ?_
  refine v_vi hC (rest := [.int 0]) m_aa_1 e_aa_1 rfl mi_X7_wordLength ms_X7_wordLength (a116_X7_wordLength m_aa_1 e_aa_1) mx_X7_wordLength ml_X10_85 (by decide) rfl (cells1 := 0) (slots1 := 0) (by decide) (by decide) (Nat.le_of_ble_eq_true rfl) (Nat.le_of_ble_eq_true rfl) rfl (Nat.le_of_ble_eq_true rfl) dX10_tellSorts_16 (fun r_8 L_9 f_10 h_11 => ?_)
  obtain ⟨rfl, rfl, rfl⟩ := h_11
  refine v_icmp_ge_t hC dX10_tellSorts_19 (tgt := 70) (by decide) (by decide) ?_
  refine v_iload_n hC dX10_tellSorts_70 rfl ?_
  refine v_if_eq_t hC dX10_tellSorts_71 (tgt := 81) (by decide) (by decide) ?_
  refine v_aload_n hC dX10_tellSorts_81 rfl ?_
  refine v_iconst hC dX10_tellSorts_82 (v := 1) (by decide) ?_
  refine v_vv hC (rest := []) m_aa_1 e_aa_1 rfl mi_X7_complain ms_X7_complain (a84_X7_complain m_aa_1 e_aa_1) mx_X7_complain ml_X10_96 (by decide) rfl (cells1 := 0) (slots1 := 0) (by decide) (by decide) (Nat.le_of_ble_eq_true rfl) (Nat.le_of_ble_eq_true rfl) rfl (Nat.le_of_ble_eq_true rfl) dX10_tellSorts_83 (fun L_13 f_14 h_15 => ?_)
  obtain ⟨rfl, rfl⟩ := h_15
  exact hR _ _ _ _ _ _ dX10_tellSorts_86 (Nat.le_of_ble_eq_true rfl) (Nat.le_of_ble_eq_true rfl) ⟨rfl, rfl⟩
set_option maxRecDepth 100000 in
set_option maxHeartbeats 4000000 in
theorem a120_X7_mayTakeWord {l : Launch} {E : Ez} {L : List Nat} {f : Nat → va_E} {aa_0 aa_1 aa_2 : Nat} (m_aa_0 : aa_0 ∈ L) (e_aa_0 : f aa_0 = ob 7 [.ref aa_2, .int 0, .int 4, .int 0, .int 0, .int 1, .int 0]) : CI l yX7_mayTakeWord cX7_mayTakeWord 2 .boolean 1 0 0 E [.ref aa_0, .ref aa_1] L f (fun r L1 f1 => 0 = r ∧ L = L1 ∧ f = f1) := by
  refine ci_of (by decide) (Nat.le_of_ble_eq_true rfl) (fun z hz hnm hC hR => ?_)
  have hC : Cx z E cX7_mayTakeWord RX7 2 1 0 0 := hC
  subst hz
  show V z E 2 0 0 L f 0 [(0, .ref aa_0), (1, .ref aa_1)] []
  refine v_aload_n hC dX7_mayTakeWord_0 rfl ?_
  refine v_aload_n hC dX7_mayTakeWord_1 rfl ?_
  refine v_vi hC (rest := []) m_aa_0 e_aa_0 rfl mi_X7_isWord ms_X7_isWord (a90_X7_isWord m_aa_0 e_aa_0) mx_X7_isWord ml_X7_77 (by decide) rfl (cells1 := 0) (slots1 := 0) (by decide) (by decide) (Nat.le_of_ble_eq_true rfl) (Nat.le_of_ble_eq_true rfl) rfl (Nat.le_of_ble_eq_true rfl) dX7_mayTakeWord_2 (fun r_1 L_2 f_3 h_4 => ?_)
  obtain ⟨rfl, rfl, rfl⟩ := h_4
  refine v_if_ne_f hC dX7_mayTakeWord_5 (tgt := 10) (by decide) (by decide) ?_
  refine v_iconst hC dX7_mayTakeWord_8 (v := 0) (by decide) ?_
  exact hR _ _ _ _ _ _ _ dX7_mayTakeWord_9 rfl (Nat.le_of_ble_eq_true rfl) (Nat.le_of_ble_eq_true rfl) ⟨rfl, rfl, rfl⟩
set_option maxRecDepth 100000 in
set_option maxHeartbeats 4000000 in
theorem a116_X10_tell {l : Launch} {E : Ez} {L : List Nat} {f : Nat → va_E} {aa_0 aa_1 aa_2 : Nat} (m_aa_0 : aa_0 ∈ L) (e_aa_0 : f aa_0 = ob 10 [.int 0, .int 0, .int 1, .int 1, .int 1, .int 0, .int 0]) (m_aa_1 : aa_1 ∈ L) (e_aa_1 : f aa_1 = ob 7 [.ref aa_2, .int 0, .int 0, .int 0, .int 0, .int 0, .int (-1)]) : CI l yX10_tell cX10_tell 2 .boolean 3 0 0 E [.ref aa_0, .ref aa_1] L f (fun r L1 f1 => 0 = r ∧ L = L1 ∧ f1 aa_0 = ob 10 [.int 1, .int 0, .int 1, .int 1, .int 1, .int 0, .int 0] ∧ f1 aa_1 = ob 7 [.ref aa_2, .int 0, .int 4, .int 0, .int 0, .int 1, .int 0] ∧ ∀ b, b ≠ aa_0 → b ≠ aa_1 → f1 b = f b) := by
  refine ci_of (by decide) (Nat.le_of_ble_eq_true rfl) (fun z hz hnm hC hR => ?_)
  have hC : Cx z E cX10_tell RX10 2 3 0 0 := hC
  subst hz
  show V z E 2 0 0 L f 0 [(0, .ref aa_0), (1, .ref aa_1)] []
  refine v_aload_n hC dX10_tell_0 rfl ?_
  refine v_iconst hC dX10_tell_1 (v := 1) (by decide) ?_
  refine v_put hC fl_X10_21 m_aa_0 e_aa_0 rfl rfl (Nat.le_of_ble_eq_true rfl) (fs' := [.int 1, .int 0, .int 1, .int 1, .int 1, .int 0, .int 0]) rfl dX10_tell_2 (fun f_1 hf_2 hk_3 => ?_)
  have hf_4 := (hk_3 aa_1 (ne_kd e_aa_1 e_aa_0 rfl)).trans e_aa_1
  refine v_aload_n hC dX10_tell_5 rfl ?_
  refine v_vv hC (rest := []) m_aa_1 hf_4 rfl mi_X7_start ms_X7_start (a66_X7_start m_aa_1 hf_4) mx_X7_start ml_X10_34 (by decide) rfl (cells1 := 0) (slots1 := 0) (by decide) (by decide) (Nat.le_of_ble_eq_true rfl) (Nat.le_of_ble_eq_true rfl) rfl (Nat.le_of_ble_eq_true rfl) dX10_tell_6 (fun L_6 f_7 h_8 => ?_)
  obtain ⟨rfl, rfl⟩ := h_8
  refine v_aload_n hC dX10_tell_9 rfl ?_
  refine v_ldcS hC sr_X10_39 dX10_tell_10 ?_
  refine v_vv hC (rest := []) m_aa_1 hf_4 rfl mi_X7_takeWord ms_X7_takeWord (a76_X7_takeWord m_aa_1 hf_4) mx_X7_takeWord ml_X10_41 (by decide) rfl (cells1 := 0) (slots1 := 0) (by decide) (by decide) (Nat.le_of_ble_eq_true rfl) (Nat.le_of_ble_eq_true rfl) rfl (Nat.le_of_ble_eq_true rfl) dX10_tell_12 (fun L_10 f_11 h_12 => ?_)
  obtain ⟨rfl, hf_13, hk_14⟩ := h_12
  have hf_15 := (hk_14 aa_0 (ne_kd hf_2 hf_4 rfl)).trans hf_2
  refine v_aload_n hC dX10_tell_15 rfl ?_
  refine v_ldcS hC sr_X10_45 dX10_tell_16 ?_
  refine v_vv hC (rest := []) m_aa_1 hf_13 rfl mi_X7_takeWord ms_X7_takeWord (a90_X7_takeWord m_aa_1 hf_13) mx_X7_takeWord ml_X10_41 (by decide) rfl (cells1 := 0) (slots1 := 0) (by decide) (by decide) (Nat.le_of_ble_eq_true rfl) (Nat.le_of_ble_eq_true rfl) rfl (Nat.le_of_ble_eq_true rfl) dX10_tell_18 (fun L_17 f_18 h_19 => ?_)
  obtain ⟨rfl, rfl⟩ := h_19
  refine v_aload_n hC dX10_tell_21 rfl ?_
  refine v_aload_n hC dX10_tell_22 rfl ?_
  refine v_vv hC (rest := []) m_aa_0 hf_15 rfl mi_X10_tellSorts ms_X10_tellSorts (a116_X10_tellSorts m_aa_0 hf_15 m_aa_1 hf_13) mx_X10_tellSorts ml_X10_47 (by decide) rfl (cells1 := 0) (slots1 := 0) (by decide) (by decide) (Nat.le_of_ble_eq_true rfl) (Nat.le_of_ble_eq_true rfl) rfl (Nat.le_of_ble_eq_true rfl) dX10_tell_23 (fun L_21 f_22 h_23 => ?_)
  obtain ⟨rfl, rfl⟩ := h_23
  refine v_aload_n hC dX10_tell_26 rfl ?_
  refine v_aload_n hC dX10_tell_27 rfl ?_
  refine v_ldcS hC sr_X10_51 dX10_tell_28 ?_
  refine v_vi hC (rest := [.ref aa_0]) m_aa_1 hf_13 rfl mi_X7_mayTakeWord ms_X7_mayTakeWord (a120_X7_mayTakeWord m_aa_1 hf_13) mx_X7_mayTakeWord ml_X10_52 (by decide) rfl (cells1 := 0) (slots1 := 0) (by decide) (by decide) (Nat.le_of_ble_eq_true rfl) (Nat.le_of_ble_eq_true rfl) rfl (Nat.le_of_ble_eq_true rfl) dX10_tell_30 (fun r_24 L_25 f_26 h_27 => ?_)
  obtain ⟨rfl, rfl, rfl⟩ := h_27
  refine v_if_eq_t hC dX10_tell_33 (tgt := 46) (by decide) (by decide) ?_
  refine v_iconst hC dX10_tell_46 (v := 1) (by decide) ?_
  refine v_put hC fl_X10_9 m_aa_0 hf_15 rfl rfl (Nat.le_of_ble_eq_true rfl) (fs' := [.int 1, .int 0, .int 1, .int 1, .int 1, .int 0, .int 0]) rfl dX10_tell_47 (fun f_28 hf_29 hk_30 => ?_)
  obtain rfl : f_11 = f_28 := (funext (noop hf_15 hf_29 hk_30)).symm
  refine v_aload_n hC dX10_tell_50 rfl ?_
  refine v_aload_n hC dX10_tell_51 rfl ?_
  refine v_ldcS hC sr_X10_60 dX10_tell_52 ?_
  refine v_vi hC (rest := [.ref aa_0]) m_aa_1 hf_13 rfl mi_X7_mayTakeWord ms_X7_mayTakeWord (a120_X7_mayTakeWord m_aa_1 hf_13) mx_X7_mayTakeWord ml_X10_52 (by decide) rfl (cells1 := 0) (slots1 := 0) (by decide) (by decide) (Nat.le_of_ble_eq_true rfl) (Nat.le_of_ble_eq_true rfl) rfl (Nat.le_of_ble_eq_true rfl) dX10_tell_54 (fun r_31 L_32 f_33 h_34 => ?_)
  obtain ⟨rfl, rfl, rfl⟩ := h_34
  refine v_if_eq_t hC dX10_tell_57 (tgt := 69) (by decide) (by decide) ?_
  refine v_iconst hC dX10_tell_69 (v := 1) (by decide) ?_
  refine v_put hC fl_X10_15 m_aa_0 hf_15 rfl rfl (Nat.le_of_ble_eq_true rfl) (fs' := [.int 1, .int 0, .int 1, .int 1, .int 1, .int 0, .int 0]) rfl dX10_tell_70 (fun f_35 hf_36 hk_37 => ?_)
  obtain rfl : f_11 = f_35 := (funext (noop hf_15 hf_36 hk_37)).symm
  refine v_aload_n hC dX10_tell_73 rfl ?_
  refine v_aload_n hC dX10_tell_74 rfl ?_
  refine v_ldcS hC sr_X10_61 dX10_tell_75 ?_
  refine v_vi hC (rest := [.ref aa_0]) m_aa_1 hf_13 rfl mi_X7_mayTakeWord ms_X7_mayTakeWord (a120_X7_mayTakeWord m_aa_1 hf_13) mx_X7_mayTakeWord ml_X10_52 (by decide) rfl (cells1 := 0) (slots1 := 0) (by decide) (by decide) (Nat.le_of_ble_eq_true rfl) (Nat.le_of_ble_eq_true rfl) rfl (Nat.le_of_ble_eq_true rfl) dX10_tell_77 (fun r_38 L_39 f_40 h_41 => ?_)
  obtain ⟨rfl, rfl, rfl⟩ := h_41
  refine v_if_eq_t hC dX10_tell_80 (tgt := 90) (by decide) (by decide) ?_
  refine v_iconst hC dX10_tell_90 (v := 1) (by decide) ?_
  refine v_put hC fl_X10_18 m_aa_0 hf_15 rfl rfl (Nat.le_of_ble_eq_true rfl) (fs' := [.int 1, .int 0, .int 1, .int 1, .int 1, .int 0, .int 0]) rfl dX10_tell_91 (fun f_42 hf_43 hk_44 => ?_)
  obtain rfl : f_11 = f_42 := (funext (noop hf_15 hf_43 hk_44)).symm
  refine v_aload_n hC dX10_tell_94 rfl ?_
  refine v_aload_n hC dX10_tell_95 rfl ?_
  refine v_ldcS hC sr_X10_66 dX10_tell_96 ?_
  refine v_vi hC (rest := [.ref aa_0]) m_aa_1 hf_13 rfl mi_X7_mayTakeWord ms_X7_mayTakeWord (a120_X7_mayTakeWord m_aa_1 hf_13) mx_X7_mayTakeWord ml_X10_52 (by decide) rfl (cells1 := 0) (slots1 := 0) (by decide) (by decide) (Nat.le_of_ble_eq_true rfl) (Nat.le_of_ble_eq_true rfl) rfl (Nat.le_of_ble_eq_true rfl) dX10_tell_98 (fun r_45 L_46 f_47 h_48 => ?_)
  obtain ⟨rfl, rfl, rfl⟩ := h_48
  refine v_put hC fl_X10_28 m_aa_0 hf_15 rfl rfl (Nat.le_of_ble_eq_true rfl) (fs' := [.int 1, .int 0, .int 1, .int 1, .int 1, .int 0, .int 0]) rfl dX10_tell_101 (fun f_49 hf_50 hk_51 => ?_)
  obtain rfl : f_11 = f_49 := (funext (noop hf_15 hf_50 hk_51)).symm
  refine v_aload_n hC dX10_tell_104 rfl ?_
  refine v_aload_n hC dX10_tell_105 rfl ?_
  refine v_ldcS hC sr_X10_68 dX10_tell_106 ?_
  refine v_vi hC (rest := [.ref aa_0]) m_aa_1 hf_13 rfl mi_X7_mayTakeWord ms_X7_mayTakeWord (a120_X7_mayTakeWord m_aa_1 hf_13) mx_X7_mayTakeWord ml_X10_52 (by decide) rfl (cells1 := 0) (slots1 := 0) (by decide) (by decide) (Nat.le_of_ble_eq_true rfl) (Nat.le_of_ble_eq_true rfl) rfl (Nat.le_of_ble_eq_true rfl) dX10_tell_108 (fun r_52 L_53 f_54 h_55 => ?_)
  obtain ⟨rfl, rfl, rfl⟩ := h_55
  refine v_put hC fl_X10_31 m_aa_0 hf_15 rfl rfl (Nat.le_of_ble_eq_true rfl) (fs' := [.int 1, .int 0, .int 1, .int 1, .int 1, .int 0, .int 0]) rfl dX10_tell_111 (fun f_56 hf_57 hk_58 => ?_)
  obtain rfl : f_11 = f_56 := (funext (noop hf_15 hf_57 hk_58)).symm
  refine v_aload_n hC dX10_tell_114 rfl ?_
  refine v_vv hC (rest := []) m_aa_1 hf_13 rfl mi_X7_takeSemicolon ms_X7_takeSemicolon (a94_X7_takeSemicolon m_aa_1 hf_13) mx_X7_takeSemicolon ml_X10_70 (by decide) rfl (cells1 := 0) (slots1 := 0) (by decide) (by decide) (Nat.le_of_ble_eq_true rfl) (Nat.le_of_ble_eq_true rfl) rfl (Nat.le_of_ble_eq_true rfl) dX10_tell_115 (fun L_60 f_61 h_62 => ?_)
  obtain ⟨rfl, rfl⟩ := h_62
  refine v_aload_n hC dX10_tell_118 rfl ?_
  refine v_vv hC (rest := []) m_aa_1 hf_13 rfl mi_X7_takeEnd ms_X7_takeEnd (a111_X7_takeEnd m_aa_1 hf_13) mx_X7_takeEnd ml_X10_73 (by decide) rfl (cells1 := 0) (slots1 := 0) (by decide) (by decide) (Nat.le_of_ble_eq_true rfl) (Nat.le_of_ble_eq_true rfl) rfl (Nat.le_of_ble_eq_true rfl) dX10_tell_119 (fun L_64 f_65 h_66 => ?_)
  obtain ⟨rfl, rfl⟩ := h_66
  refine v_aload_n hC dX10_tell_122 rfl ?_
  refine v_vi hC (rest := []) m_aa_1 hf_13 rfl mi_X7_isFine ms_X7_isFine (a84_X7_isFine m_aa_1 hf_13) mx_X7_isFine ml_X10_76 (by decide) rfl (cells1 := 0) (slots1 := 0) (by decide) (by decide) (Nat.le_of_ble_eq_true rfl) (Nat.le_of_ble_eq_true rfl) rfl (Nat.le_of_ble_eq_true rfl) dX10_tell_123 (fun r_67 L_68 f_69 h_70 => ?_)
  obtain ⟨rfl, rfl, rfl⟩ := h_70
  exact hR _ _ _ _ _ _ _ dX10_tell_126 rfl (Nat.le_of_ble_eq_true rfl) (Nat.le_of_ble_eq_true rfl) ⟨rfl, rfl, hf_15, hf_13, fun b nn_0 nn_1 => ((hk_14 b nn_1).trans (hk_3 b nn_0))⟩
set_option maxRecDepth 100000 in
set_option maxHeartbeats 4000000 in
theorem x_way {l : Launch} {E : Ez} {L : List Nat} {f : Nat → va_E} {he im la nl now np ns nw nwa sl t ta tb tr wa x : Nat} {k : Int32} (m_x : x ∈ L) (e_x : f x = ob 11 [.ref t, .ref now, .ref im, .ref la, .ref sl, .ref np, .ref ns, .ref nw, .ref nwa, .ref nl, .ref he, .ref wa, .ref tr, .ref ta]) (m_t : t ∈ L) (e_t : f t = ob 7 [.ref tb, .int 0, .int 0, .int 0, .int 0, .int 0, .int (-1)]) (m_nw : nw ∈ L) (e_nw : f nw = ob 10 [.int 0, .int 0, .int 1, .int 1, .int 1, .int 0, .int 0]) : CI l yX11_way cX11_way 3 .int 4 0 0 E [.ref x, .int k] L f (fun r L1 f1 => sp_way k = r) := by
  refine ci_of (by decide) (Nat.le_of_ble_eq_true rfl) (fun z hz hnm hC hR => ?_)
  have hC : Cx z E cX11_way RX11 3 4 0 0 := hC
  subst hz
  show V z E 3 0 0 L f 0 [(0, .ref x), (1, .int k)] []
  refine v_iload_n hC dX11_way_0 rfl ?_
  refine v_si hC (rest := []) mt_X11_isWay (c_isWay) mx_X11_isWay ml_X11_142 (by decide) rfl (cells1 := 0) (slots1 := 0) (by decide) (by decide) (Nat.le_of_ble_eq_true rfl) (Nat.le_of_ble_eq_true rfl) rfl (Nat.le_of_ble_eq_true rfl) dX11_way_1 (fun r_1 L_2 f_3 h_4 => ?_)
  obtain ⟨rfl, rfl, rfl⟩ := h_4
  refine v_if_ne hC dX11_way_4 (tgt := 10) (by decide) (fun h_5 => ?_) (fun h_5 => ?_)
  · have h_6 := bI_1 h_5
    refine v_aload_n hC dX11_way_10 rfl ?_
    refine v_get hC fl_X11_54 m_x e_x rfl dX11_way_11 ?_
    refine v_aload_n hC dX11_way_14 rfl ?_
    refine v_get hC fl_X11_12 m_x e_x rfl dX11_way_15 ?_
    refine v_vi hC (rest := []) m_nw e_nw rfl mi_X10_tell ms_X10_tell (a116_X10_tell m_nw e_nw m_t e_t) mx_X10_tell ml_X11_145 (by decide) rfl (cells1 := 0) (slots1 := 0) (by decide) (by decide) (Nat.le_of_ble_eq_true rfl) (Nat.le_of_ble_eq_true rfl) rfl (Nat.le_of_ble_eq_true rfl) dX11_way_18 (fun r_7 L_8 f_9 h_10 => ?_)
    obtain ⟨rfl, rfl, hf_11, hf_12, hk_13⟩ := h_10
    have hf_14 := (hk_13 x (ne_kd e_x e_nw rfl) (ne_kd e_x e_t rfl)).trans e_x
    refine v_istore_n hC dX11_way_21 (by decide) (lv' := [(2, .int 0), (0, .ref x), (1, .int k)]) rfl ?_
    refine v_aload_n hC dX11_way_22 rfl ?_
    refine v_get hC fl_X11_12 m_x hf_14 rfl dX11_way_23 ?_
    refine v_vv hC (rest := []) m_t hf_12 rfl mi_X7_empty ms_X7_empty (a106_X7_empty m_t hf_12) mx_X7_empty ml_X11_113 (by decide) rfl (cells1 := 0) (slots1 := 0) (by decide) (by decide) (Nat.le_of_ble_eq_true rfl) (Nat.le_of_ble_eq_true rfl) rfl (Nat.le_of_ble_eq_true rfl) dX11_way_26 (fun L_16 f_17 h_18 => ?_)
    obtain ⟨rfl, rfl⟩ := h_18
    refine v_iload_n hC dX11_way_29 rfl ?_
    refine v_if_ne_f hC dX11_way_30 (tgt := 36) (by decide) (by decide) ?_
    refine v_bipush hC dX11_way_33 (v := (-4)) (by decide) ?_
    exact hR _ _ _ _ _ _ _ dX11_way_35 rfl (Nat.le_of_ble_eq_true rfl) (Nat.le_of_ble_eq_true rfl) (by unfold sp_way; simp only [Int32.lt_iff_toInt_lt, Int32.le_iff_toInt_le, Int32.reduceToInt, ← Int32.toInt_inj] at h_6 ⊢; first | omega | (split <;> first | rfl | (exfalso; omega)))
  · have h_19 := bI_0 h_5
    refine v_bipush hC dX11_way_7 (v := (-2)) (by decide) ?_
    exact hR _ _ _ _ _ _ _ dX11_way_9 rfl (Nat.le_of_ble_eq_true rfl) (Nat.le_of_ble_eq_true rfl) (by unfold sp_way; simp only [Int32.lt_iff_toInt_lt, Int32.le_iff_toInt_le, Int32.reduceToInt, ← Int32.toInt_inj] at h_19 ⊢; first | omega | (split <;> first | rfl | (exfalso; omega)))
set_option maxRecDepth 100000 in
set_option maxHeartbeats 4000000 in
theorem c_waysThere {l : Launch} {E : Ez} {L : List Nat} {f : Nat → va_E} {cl lo now pa sh wt wy : Nat} {gwy : Nat → Option Nat} (m_now : now ∈ L) (e_now : f now = ob 0 [.ref pa, .ref sh, .ref wy, .ref wt, .ref lo, .ref cl]) (m_wy : wy ∈ L) (e_wy : f wy = aR E 7 6 gwy) (pwy : ∀ i : Nat, i < 6 → ∃ q : Nat, gwy i = some q ∧ q ∈ L ∧ f q = ob 10 [.int 0, .int 0, .int 1, .int 1, .int 1, .int 0, .int 0]) : CI l yX0_waysThere cX0_waysThere 3 .int 0 0 0 E [.ref now] L f (fun r L1 f1 => (0 : Int32) = r ∧ L = L1 ∧ f = f1) := by
  refine ci_of (by decide) (Nat.le_of_ble_eq_true rfl) (fun z hz hnm hC hR => ?_)
  have hC : Cx z E cX0_waysThere RX0 3 0 0 0 := hC
  subst hz
  show V z E 3 0 0 L f 0 [(0, .ref now)] []
  refine v_iconst hC dX0_waysThere_0 (v := 0) (by decide) ?_
  refine v_istore_n hC dX0_waysThere_1 (by decide) (lv' := [(1, .int 0), (0, .ref now)]) rfl ?_
  refine v_iconst hC dX0_waysThere_2 (v := 0) (by decide) ?_
  refine v_istore_n hC dX0_waysThere_3 (by decide) (lv' := [(2, .int 0), (1, .int 0), (0, .ref now)]) rfl ?_
  refine v_iload_n hC dX0_waysThere_4 rfl ?_
  refine v_bipush hC dX0_waysThere_5 (v := 6) (by decide) ?_
  refine v_icmp_ge_f hC dX0_waysThere_7 (tgt := 31) (by decide) (by decide) ?_
  refine v_aload_n hC dX0_waysThere_10 rfl ?_
  refine v_get hC fl_X0_24 m_now e_now rfl dX0_waysThere_11 ?_
  refine v_iload_n hC dX0_waysThere_14 rfl ?_
  have hin_5 : vp_in 0 6 := by unfold vp_in; decide
  obtain ⟨j_1, hj_2, ej_3⟩ := vp_in_of hin_5 (by decide)
  obtain ⟨q_4, eg_6, m_7, e_8⟩ := pwy j_1 hj_2
  refine v_aald hC m_wy e_wy (t := 7) (Cn := "StitchSays$Way") rfl hin_5 (v := .ref q_4) (by rw [ej_3, nI_clamp (by omega), eg_6]; rfl) dX0_waysThere_15 ?_
  refine v_getN hC fn_X0_76 m_7 e_8 rfl dX0_waysThere_16 ?_
  refine v_if_eq_t hC dX0_waysThere_19 (tgt := 25) (by decide) (by decide) ?_
  refine v_iinc hC dX0_waysThere_25 (k := 0) rfl (v := 1) (by decide) (by decide) (lv' := [(2, .int 1), (1, .int 0), (0, .ref now)]) rfl ?_
  refine v_goto hC dX0_waysThere_28 (tgt := 4) (by decide) ?_
  refine v_iload_n hC dX0_waysThere_4 rfl ?_
  refine v_bipush hC dX0_waysThere_5 (v := 6) (by decide) ?_
  refine v_icmp_ge_f hC dX0_waysThere_7 (tgt := 31) (by decide) (by decide) ?_
  refine v_aload_n hC dX0_waysThere_10 rfl ?_
  refine v_get hC fl_X0_24 m_now e_now rfl dX0_waysThere_11 ?_
  refine v_iload_n hC dX0_waysThere_14 rfl ?_
  have hin_14 : vp_in 1 6 := by unfold vp_in; decide
  obtain ⟨j_10, hj_11, ej_12⟩ := vp_in_of hin_14 (by decide)
  obtain ⟨q_13, eg_15, m_16, e_17⟩ := pwy j_10 hj_11
  refine v_aald hC m_wy e_wy (t := 7) (Cn := "StitchSays$Way") rfl hin_14 (v := .ref q_13) (by rw [ej_12, nI_clamp (by omega), eg_15]; rfl) dX0_waysThere_15 ?_
  refine v_getN hC fn_X0_76 m_16 e_17 rfl dX0_waysThere_16 ?_
  refine v_if_eq_t hC dX0_waysThere_19 (tgt := 25) (by decide) (by decide) ?_
  refine v_iinc hC dX0_waysThere_25 (k := 0) rfl (v := 2) (by decide) (by decide) (lv' := [(2, .int 2), (1, .int 0), (0, .ref now)]) rfl ?_
  refine v_goto hC dX0_waysThere_28 (tgt := 4) (by decide) ?_
  refine v_iload_n hC dX0_waysThere_4 rfl ?_
  refine v_bipush hC dX0_waysThere_5 (v := 6) (by decide) ?_
  refine v_icmp_ge_f hC dX0_waysThere_7 (tgt := 31) (by decide) (by decide) ?_
  refine v_aload_n hC dX0_waysThere_10 rfl ?_
  refine v_get hC fl_X0_24 m_now e_now rfl dX0_waysThere_11 ?_
  refine v_iload_n hC dX0_waysThere_14 rfl ?_
  have hin_23 : vp_in 2 6 := by unfold vp_in; decide
  obtain ⟨j_19, hj_20, ej_21⟩ := vp_in_of hin_23 (by decide)
  obtain ⟨q_22, eg_24, m_25, e_26⟩ := pwy j_19 hj_20
  refine v_aald hC m_wy e_wy (t := 7) (Cn := "StitchSays$Way") rfl hin_23 (v := .ref q_22) (by rw [ej_21, nI_clamp (by omega), eg_24]; rfl) dX0_waysThere_15 ?_
  refine v_getN hC fn_X0_76 m_25 e_26 rfl dX0_waysThere_16 ?_
  refine v_if_eq_t hC dX0_waysThere_19 (tgt := 25) (by decide) (by decide) ?_
  refine v_iinc hC dX0_waysThere_25 (k := 0) rfl (v := 3) (by decide) (by decide) (lv' := [(2, .int 3), (1, .int 0), (0, .ref now)]) rfl ?_
  refine v_goto hC dX0_waysThere_28 (tgt := 4) (by decide) ?_
  refine v_iload_n hC dX0_waysThere_4 rfl ?_
  refine v_bipush hC dX0_waysThere_5 (v := 6) (by decide) ?_
  refine v_icmp_ge_f hC dX0_waysThere_7 (tgt := 31) (by decide) (by decide) ?_
  refine v_aload_n hC dX0_waysThere_10 rfl ?_
  refine v_get hC fl_X0_24 m_now e_now rfl dX0_waysThere_11 ?_
  refine v_iload_n hC dX0_waysThere_14 rfl ?_
  have hin_32 : vp_in 3 6 := by unfold vp_in; decide
  obtain ⟨j_28, hj_29, ej_30⟩ := vp_in_of hin_32 (by decide)
  obtain ⟨q_31, eg_33, m_34, e_35⟩ := pwy j_28 hj_29
  refine v_aald hC m_wy e_wy (t := 7) (Cn := "StitchSays$Way") rfl hin_32 (v := .ref q_31) (by rw [ej_30, nI_clamp (by omega), eg_33]; rfl) dX0_waysThere_15 ?_
  refine v_getN hC fn_X0_76 m_34 e_35 rfl dX0_waysThere_16 ?_
  refine v_if_eq_t hC dX0_waysThere_19 (tgt := 25) (by decide) (by decide) ?_
  refine v_iinc hC dX0_waysThere_25 (k := 0) rfl (v := 4) (by decide) (by decide) (lv' := [(2, .int 4), (1, .int 0), (0, .ref now)]) rfl ?_
  refine v_goto hC dX0_waysThere_28 (tgt := 4) (by decide) ?_
  refine v_iload_n hC dX0_waysThere_4 rfl ?_
  refine v_bipush hC dX0_waysThere_5 (v := 6) (by decide) ?_
  refine v_icmp_ge_f hC dX0_waysThere_7 (tgt := 31) (by decide) (by decide) ?_
  refine v_aload_n hC dX0_waysThere_10 rfl ?_
  refine v_get hC fl_X0_24 m_now e_now rfl dX0_waysThere_11 ?_
  refine v_iload_n hC dX0_waysThere_14 rfl ?_
  have hin_41 : vp_in 4 6 := by unfold vp_in; decide
  obtain ⟨j_37, hj_38, ej_39⟩ := vp_in_of hin_41 (by decide)
  obtain ⟨q_40, eg_42, m_43, e_44⟩ := pwy j_37 hj_38
  refine v_aald hC m_wy e_wy (t := 7) (Cn := "StitchSays$Way") rfl hin_41 (v := .ref q_40) (by rw [ej_39, nI_clamp (by omega), eg_42]; rfl) dX0_waysThere_15 ?_
  refine v_getN hC fn_X0_76 m_43 e_44 rfl dX0_waysThere_16 ?_
  refine v_if_eq_t hC dX0_waysThere_19 (tgt := 25) (by decide) (by decide) ?_
  refine v_iinc hC dX0_waysThere_25 (k := 0) rfl (v := 5) (by decide) (by decide) (lv' := [(2, .int 5), (1, .int 0), (0, .ref now)]) rfl ?_
  refine v_goto hC dX0_waysThere_28 (tgt := 4) (by decide) ?_
  refine v_iload_n hC dX0_waysThere_4 rfl ?_
  refine v_bipush hC dX0_waysThere_5 (v := 6) (by decide) ?_
  refine v_icmp_ge_f hC dX0_waysThere_7 (tgt := 31) (by decide) (by decide) ?_
  refine v_aload_n hC dX0_waysThere_10 rfl ?_
  refine v_get hC fl_X0_24 m_now e_now rfl dX0_waysThere_11 ?_
  refine v_iload_n hC dX0_waysThere_14 rfl ?_
  have hin_50 : vp_in 5 6 := by unfold vp_in; decide
  obtain ⟨j_46, hj_47, ej_48⟩ := vp_in_of hin_50 (by decide)
  obtain ⟨q_49, eg_51, m_52, e_53⟩ := pwy j_46 hj_47
  refine v_aald hC m_wy e_wy (t := 7) (Cn := "StitchSays$Way") rfl hin_50 (v := .ref q_49) (by rw [ej_48, nI_clamp (by omega), eg_51]; rfl) dX0_waysThere_15 ?_
  refine v_getN hC fn_X0_76 m_52 e_53 rfl dX0_waysThere_16 ?_
  refine v_if_eq_t hC dX0_waysThere_19 (tgt := 25) (by decide) (by decide) ?_
  refine v_iinc hC dX0_waysThere_25 (k := 0) rfl (v := 6) (by decide) (by decide) (lv' := [(2, .int 6), (1, .int 0), (0, .ref now)]) rfl ?_
  refine v_goto hC dX0_waysThere_28 (tgt := 4) (by decide) ?_
  refine v_iload_n hC dX0_waysThere_4 rfl ?_
  refine v_bipush hC dX0_waysThere_5 (v := 6) (by decide) ?_
  refine v_icmp_ge_t hC dX0_waysThere_7 (tgt := 31) (by decide) (by decide) ?_
  refine v_iload_n hC dX0_waysThere_31 rfl ?_
  exact hR _ _ _ _ _ _ _ dX0_waysThere_32 rfl (Nat.le_of_ble_eq_true rfl) (Nat.le_of_ble_eq_true rfl) ⟨rfl, rfl, rfl⟩
set_option maxRecDepth 100000 in
set_option maxHeartbeats 4000000 in
theorem c_clothsThere {l : Launch} {E : Ez} {L : List Nat} {f : Nat → va_E} {cl lo now pa sh wt wy : Nat} {gcl : Nat → Option Nat} (m_now : now ∈ L) (e_now : f now = ob 0 [.ref pa, .ref sh, .ref wy, .ref wt, .ref lo, .ref cl]) (m_cl : cl ∈ L) (e_cl : f cl = aR E 5 4 gcl) (pcl : ∀ i : Nat, i < 4 → ∃ q s : Nat, gcl i = some q ∧ q ∈ L ∧ f q = ob 1 [.ref s, .int 0]) : CI l yX0_clothsThere cX0_clothsThere 3 .int 0 0 0 E [.ref now] L f (fun r L1 f1 => (0 : Int32) = r ∧ L = L1 ∧ f = f1) := by
  refine ci_of (by decide) (Nat.le_of_ble_eq_true rfl) (fun z hz hnm hC hR => ?_)
  have hC : Cx z E cX0_clothsThere RX0 3 0 0 0 := hC
  subst hz
  show V z E 3 0 0 L f 0 [(0, .ref now)] []
  refine v_iconst hC dX0_clothsThere_0 (v := 0) (by decide) ?_
  refine v_istore_n hC dX0_clothsThere_1 (by decide) (lv' := [(1, .int 0), (0, .ref now)]) rfl ?_
  refine v_iconst hC dX0_clothsThere_2 (v := 0) (by decide) ?_
  refine v_istore_n hC dX0_clothsThere_3 (by decide) (lv' := [(2, .int 0), (1, .int 0), (0, .ref now)]) rfl ?_
  refine v_iload_n hC dX0_clothsThere_4 rfl ?_
  refine v_iconst hC dX0_clothsThere_5 (v := 4) (by decide) ?_
  refine v_icmp_ge_f hC dX0_clothsThere_6 (tgt := 30) (by decide) (by decide) ?_
  refine v_aload_n hC dX0_clothsThere_9 rfl ?_
  refine v_get hC fl_X0_44 m_now e_now rfl dX0_clothsThere_10 ?_
  refine v_iload_n hC dX0_clothsThere_13 rfl ?_
  have hin_5 : vp_in 0 4 := by unfold vp_in; decide
  obtain ⟨j_1, hj_2, ej_3⟩ := vp_in_of hin_5 (by decide)
  obtain ⟨q_4, s_9, eg_6, m_7, e_8⟩ := pcl j_1 hj_2
  refine v_aald hC m_cl e_cl (t := 5) (Cn := "StitchSays$Cloth") rfl hin_5 (v := .ref q_4) (by rw [ej_3, nI_clamp (by omega), eg_6]; rfl) dX0_clothsThere_14 ?_
  refine v_getN hC fn_X0_72 m_7 e_8 rfl dX0_clothsThere_15 ?_
  refine v_if_eq_t hC dX0_clothsThere_18 (tgt := 24) (by decide) (by decide) ?_
  refine v_iinc hC dX0_clothsThere_24 (k := 0) rfl (v := 1) (by decide) (by decide) (lv' := [(2, .int 1), (1, .int 0), (0, .ref now)]) rfl ?_
  refine v_goto hC dX0_clothsThere_27 (tgt := 4) (by decide) ?_
  refine v_iload_n hC dX0_clothsThere_4 rfl ?_
  refine v_iconst hC dX0_clothsThere_5 (v := 4) (by decide) ?_
  refine v_icmp_ge_f hC dX0_clothsThere_6 (tgt := 30) (by decide) (by decide) ?_
  refine v_aload_n hC dX0_clothsThere_9 rfl ?_
  refine v_get hC fl_X0_44 m_now e_now rfl dX0_clothsThere_10 ?_
  refine v_iload_n hC dX0_clothsThere_13 rfl ?_
  have hin_14 : vp_in 1 4 := by unfold vp_in; decide
  obtain ⟨j_10, hj_11, ej_12⟩ := vp_in_of hin_14 (by decide)
  obtain ⟨q_13, s_18, eg_15, m_16, e_17⟩ := pcl j_10 hj_11
  refine v_aald hC m_cl e_cl (t := 5) (Cn := "StitchSays$Cloth") rfl hin_14 (v := .ref q_13) (by rw [ej_12, nI_clamp (by omega), eg_15]; rfl) dX0_clothsThere_14 ?_
  refine v_getN hC fn_X0_72 m_16 e_17 rfl dX0_clothsThere_15 ?_
  refine v_if_eq_t hC dX0_clothsThere_18 (tgt := 24) (by decide) (by decide) ?_
  refine v_iinc hC dX0_clothsThere_24 (k := 0) rfl (v := 2) (by decide) (by decide) (lv' := [(2, .int 2), (1, .int 0), (0, .ref now)]) rfl ?_
  refine v_goto hC dX0_clothsThere_27 (tgt := 4) (by decide) ?_
  refine v_iload_n hC dX0_clothsThere_4 rfl ?_
  refine v_iconst hC dX0_clothsThere_5 (v := 4) (by decide) ?_
  refine v_icmp_ge_f hC dX0_clothsThere_6 (tgt := 30) (by decide) (by decide) ?_
  refine v_aload_n hC dX0_clothsThere_9 rfl ?_
  refine v_get hC fl_X0_44 m_now e_now rfl dX0_clothsThere_10 ?_
  refine v_iload_n hC dX0_clothsThere_13 rfl ?_
  have hin_23 : vp_in 2 4 := by unfold vp_in; decide
  obtain ⟨j_19, hj_20, ej_21⟩ := vp_in_of hin_23 (by decide)
  obtain ⟨q_22, s_27, eg_24, m_25, e_26⟩ := pcl j_19 hj_20
  refine v_aald hC m_cl e_cl (t := 5) (Cn := "StitchSays$Cloth") rfl hin_23 (v := .ref q_22) (by rw [ej_21, nI_clamp (by omega), eg_24]; rfl) dX0_clothsThere_14 ?_
  refine v_getN hC fn_X0_72 m_25 e_26 rfl dX0_clothsThere_15 ?_
  refine v_if_eq_t hC dX0_clothsThere_18 (tgt := 24) (by decide) (by decide) ?_
  refine v_iinc hC dX0_clothsThere_24 (k := 0) rfl (v := 3) (by decide) (by decide) (lv' := [(2, .int 3), (1, .int 0), (0, .ref now)]) rfl ?_
  refine v_goto hC dX0_clothsThere_27 (tgt := 4) (by decide) ?_
  refine v_iload_n hC dX0_clothsThere_4 rfl ?_
  refine v_iconst hC dX0_clothsThere_5 (v := 4) (by decide) ?_
  refine v_icmp_ge_f hC dX0_clothsThere_6 (tgt := 30) (by decide) (by decide) ?_
  refine v_aload_n hC dX0_clothsThere_9 rfl ?_
  refine v_get hC fl_X0_44 m_now e_now rfl dX0_clothsThere_10 ?_
  refine v_iload_n hC dX0_clothsThere_13 rfl ?_
  have hin_32 : vp_in 3 4 := by unfold vp_in; decide
  obtain ⟨j_28, hj_29, ej_30⟩ := vp_in_of hin_32 (by decide)
  obtain ⟨q_31, s_36, eg_33, m_34, e_35⟩ := pcl j_28 hj_29
  refine v_aald hC m_cl e_cl (t := 5) (Cn := "StitchSays$Cloth") rfl hin_32 (v := .ref q_31) (by rw [ej_30, nI_clamp (by omega), eg_33]; rfl) dX0_clothsThere_14 ?_
  refine v_getN hC fn_X0_72 m_34 e_35 rfl dX0_clothsThere_15 ?_
  refine v_if_eq_t hC dX0_clothsThere_18 (tgt := 24) (by decide) (by decide) ?_
  refine v_iinc hC dX0_clothsThere_24 (k := 0) rfl (v := 4) (by decide) (by decide) (lv' := [(2, .int 4), (1, .int 0), (0, .ref now)]) rfl ?_
  refine v_goto hC dX0_clothsThere_27 (tgt := 4) (by decide) ?_
  refine v_iload_n hC dX0_clothsThere_4 rfl ?_
  refine v_iconst hC dX0_clothsThere_5 (v := 4) (by decide) ?_
  refine v_icmp_ge_t hC dX0_clothsThere_6 (tgt := 30) (by decide) (by decide) ?_
  refine v_iload_n hC dX0_clothsThere_30 rfl ?_
  exact hR _ _ _ _ _ _ _ dX0_clothsThere_31 rfl (Nat.le_of_ble_eq_true rfl) (Nat.le_of_ble_eq_true rfl) ⟨rfl, rfl, rfl⟩
set_option maxRecDepth 100000 in
set_option maxHeartbeats 4000000 in
theorem c_slotsThere {l : Launch} {E : Ez} {L : List Nat} {f : Nat → va_E} {he im la nl now np ns nw nwa sl t ta tr wa x : Nat} {gsl : Nat → Option Nat} (m_x : x ∈ L) (e_x : f x = ob 11 [.ref t, .ref now, .ref im, .ref la, .ref sl, .ref np, .ref ns, .ref nw, .ref nwa, .ref nl, .ref he, .ref wa, .ref tr, .ref ta]) (m_sl : sl ∈ L) (e_sl : f sl = aR E 6 4 gsl) (psl : ∀ i : Nat, i < 4 → ∃ q s : Nat, gsl i = some q ∧ q ∈ L ∧ f q = ob 5 [.ref s, .int (-1), .int 0] ∧ s ∈ L ∧ f s = aJ E 60 (fun _ => 0)) : CI l yX11_slotsThere cX11_slotsThere 3 .int 1 0 0 E [.ref x] L f (fun r L1 f1 => (0 : Int32) = r ∧ L = L1 ∧ f = f1) := by
  refine ci_of (by decide) (Nat.le_of_ble_eq_true rfl) (fun z hz hnm hC hR => ?_)
  have hC : Cx z E cX11_slotsThere RX11 3 1 0 0 := hC
  subst hz
  show V z E 3 0 0 L f 0 [(0, .ref x)] []
  refine v_iconst hC dX11_slotsThere_0 (v := 0) (by decide) ?_
  refine v_istore_n hC dX11_slotsThere_1 (by decide) (lv' := [(1, .int 0), (0, .ref x)]) rfl ?_
  refine v_iconst hC dX11_slotsThere_2 (v := 0) (by decide) ?_
  refine v_istore_n hC dX11_slotsThere_3 (by decide) (lv' := [(2, .int 0), (1, .int 0), (0, .ref x)]) rfl ?_
  refine v_iload_n hC dX11_slotsThere_4 rfl ?_
  refine v_iconst hC dX11_slotsThere_5 (v := 4) (by decide) ?_
  refine v_icmp_ge_f hC dX11_slotsThere_6 (tgt := 30) (by decide) (by decide) ?_
  refine v_aload_n hC dX11_slotsThere_9 rfl ?_
  refine v_get hC fl_X11_36 m_x e_x rfl dX11_slotsThere_10 ?_
  refine v_iload_n hC dX11_slotsThere_13 rfl ?_
  have hin_5 : vp_in 0 4 := by unfold vp_in; decide
  obtain ⟨j_1, hj_2, ej_3⟩ := vp_in_of hin_5 (by decide)
  obtain ⟨q_4, s_9, eg_6, m_7, e_8, m_10, e_11⟩ := psl j_1 hj_2
  refine v_aald hC m_sl e_sl (t := 6) (Cn := "StitchSays$Slot") rfl hin_5 (v := .ref q_4) (by rw [ej_3, nI_clamp (by omega), eg_6]; rfl) dX11_slotsThere_14 ?_
  refine v_vi hC (rest := []) m_7 e_8 rfl mi_X5_isThere ms_X5_isThere (a34_X5_isThere m_7 e_8) mx_X5_isThere ml_X11_359 (by decide) rfl (cells1 := 0) (slots1 := 0) (by decide) (by decide) (Nat.le_of_ble_eq_true rfl) (Nat.le_of_ble_eq_true rfl) rfl (Nat.le_of_ble_eq_true rfl) dX11_slotsThere_15 (fun r_12 L_13 f_14 h_15 => ?_)
  obtain ⟨rfl, rfl, rfl⟩ := h_15
  refine v_if_eq_t hC dX11_slotsThere_18 (tgt := 24) (by decide) (by decide) ?_
  refine v_iinc hC dX11_slotsThere_24 (k := 0) rfl (v := 1) (by decide) (by decide) (lv' := [(2, .int 1), (1, .int 0), (0, .ref x)]) rfl ?_
  refine v_goto hC dX11_slotsThere_27 (tgt := 4) (by decide) ?_
  refine v_iload_n hC dX11_slotsThere_4 rfl ?_
  refine v_iconst hC dX11_slotsThere_5 (v := 4) (by decide) ?_
  refine v_icmp_ge_f hC dX11_slotsThere_6 (tgt := 30) (by decide) (by decide) ?_
  refine v_aload_n hC dX11_slotsThere_9 rfl ?_
  refine v_get hC fl_X11_36 m_x e_x rfl dX11_slotsThere_10 ?_
  refine v_iload_n hC dX11_slotsThere_13 rfl ?_
  have hin_20 : vp_in 1 4 := by unfold vp_in; decide
  obtain ⟨j_16, hj_17, ej_18⟩ := vp_in_of hin_20 (by decide)
  obtain ⟨q_19, s_24, eg_21, m_22, e_23, m_25, e_26⟩ := psl j_16 hj_17
  refine v_aald hC m_sl e_sl (t := 6) (Cn := "StitchSays$Slot") rfl hin_20 (v := .ref q_19) (by rw [ej_18, nI_clamp (by omega), eg_21]; rfl) dX11_slotsThere_14 ?_
  refine v_vi hC (rest := []) m_22 e_23 rfl mi_X5_isThere ms_X5_isThere (a34_X5_isThere m_22 e_23) mx_X5_isThere ml_X11_359 (by decide) rfl (cells1 := 0) (slots1 := 0) (by decide) (by decide) (Nat.le_of_ble_eq_true rfl) (Nat.le_of_ble_eq_true rfl) rfl (Nat.le_of_ble_eq_true rfl) dX11_slotsThere_15 (fun r_27 L_28 f_29 h_30 => ?_)
  obtain ⟨rfl, rfl, rfl⟩ := h_30
  refine v_if_eq_t hC dX11_slotsThere_18 (tgt := 24) (by decide) (by decide) ?_
  refine v_iinc hC dX11_slotsThere_24 (k := 0) rfl (v := 2) (by decide) (by decide) (lv' := [(2, .int 2), (1, .int 0), (0, .ref x)]) rfl ?_
  refine v_goto hC dX11_slotsThere_27 (tgt := 4) (by decide) ?_
  refine v_iload_n hC dX11_slotsThere_4 rfl ?_
  refine v_iconst hC dX11_slotsThere_5 (v := 4) (by decide) ?_
  refine v_icmp_ge_f hC dX11_slotsThere_6 (tgt := 30) (by decide) (by decide) ?_
  refine v_aload_n hC dX11_slotsThere_9 rfl ?_
  refine v_get hC fl_X11_36 m_x e_x rfl dX11_slotsThere_10 ?_
  refine v_iload_n hC dX11_slotsThere_13 rfl ?_
  have hin_35 : vp_in 2 4 := by unfold vp_in; decide
  obtain ⟨j_31, hj_32, ej_33⟩ := vp_in_of hin_35 (by decide)
  obtain ⟨q_34, s_39, eg_36, m_37, e_38, m_40, e_41⟩ := psl j_31 hj_32
  refine v_aald hC m_sl e_sl (t := 6) (Cn := "StitchSays$Slot") rfl hin_35 (v := .ref q_34) (by rw [ej_33, nI_clamp (by omega), eg_36]; rfl) dX11_slotsThere_14 ?_
  refine v_vi hC (rest := []) m_37 e_38 rfl mi_X5_isThere ms_X5_isThere (a34_X5_isThere m_37 e_38) mx_X5_isThere ml_X11_359 (by decide) rfl (cells1 := 0) (slots1 := 0) (by decide) (by decide) (Nat.le_of_ble_eq_true rfl) (Nat.le_of_ble_eq_true rfl) rfl (Nat.le_of_ble_eq_true rfl) dX11_slotsThere_15 (fun r_42 L_43 f_44 h_45 => ?_)
  obtain ⟨rfl, rfl, rfl⟩ := h_45
  refine v_if_eq_t hC dX11_slotsThere_18 (tgt := 24) (by decide) (by decide) ?_
  refine v_iinc hC dX11_slotsThere_24 (k := 0) rfl (v := 3) (by decide) (by decide) (lv' := [(2, .int 3), (1, .int 0), (0, .ref x)]) rfl ?_
  refine v_goto hC dX11_slotsThere_27 (tgt := 4) (by decide) ?_
  refine v_iload_n hC dX11_slotsThere_4 rfl ?_
  refine v_iconst hC dX11_slotsThere_5 (v := 4) (by decide) ?_
  refine v_icmp_ge_f hC dX11_slotsThere_6 (tgt := 30) (by decide) (by decide) ?_
  refine v_aload_n hC dX11_slotsThere_9 rfl ?_
  refine v_get hC fl_X11_36 m_x e_x rfl dX11_slotsThere_10 ?_
  refine v_iload_n hC dX11_slotsThere_13 rfl ?_
  have hin_50 : vp_in 3 4 := by unfold vp_in; decide
  obtain ⟨j_46, hj_47, ej_48⟩ := vp_in_of hin_50 (by decide)
  obtain ⟨q_49, s_54, eg_51, m_52, e_53, m_55, e_56⟩ := psl j_46 hj_47
  refine v_aald hC m_sl e_sl (t := 6) (Cn := "StitchSays$Slot") rfl hin_50 (v := .ref q_49) (by rw [ej_48, nI_clamp (by omega), eg_51]; rfl) dX11_slotsThere_14 ?_
  refine v_vi hC (rest := []) m_52 e_53 rfl mi_X5_isThere ms_X5_isThere (a34_X5_isThere m_52 e_53) mx_X5_isThere ml_X11_359 (by decide) rfl (cells1 := 0) (slots1 := 0) (by decide) (by decide) (Nat.le_of_ble_eq_true rfl) (Nat.le_of_ble_eq_true rfl) rfl (Nat.le_of_ble_eq_true rfl) dX11_slotsThere_15 (fun r_57 L_58 f_59 h_60 => ?_)
  obtain ⟨rfl, rfl, rfl⟩ := h_60
  refine v_if_eq_t hC dX11_slotsThere_18 (tgt := 24) (by decide) (by decide) ?_
  refine v_iinc hC dX11_slotsThere_24 (k := 0) rfl (v := 4) (by decide) (by decide) (lv' := [(2, .int 4), (1, .int 0), (0, .ref x)]) rfl ?_
  refine v_goto hC dX11_slotsThere_27 (tgt := 4) (by decide) ?_
  refine v_iload_n hC dX11_slotsThere_4 rfl ?_
  refine v_iconst hC dX11_slotsThere_5 (v := 4) (by decide) ?_
  refine v_icmp_ge_t hC dX11_slotsThere_6 (tgt := 30) (by decide) (by decide) ?_
  refine v_iload_n hC dX11_slotsThere_30 rfl ?_
  exact hR _ _ _ _ _ _ _ dX11_slotsThere_31 rfl (Nat.le_of_ble_eq_true rfl) (Nat.le_of_ble_eq_true rfl) ⟨rfl, rfl, rfl⟩
set_option maxRecDepth 100000 in
set_option maxHeartbeats 4000000 in
theorem x_count {l : Launch} {E : Ez} {L : List Nat} {f : Nat → va_E} {cl he im la lax lo lof lok los nl now np ns nw nwa pa paf pas sh sl t ta tb tr wa wt wtc wy x : Nat} {gwy : Nat → Option Nat} {gcl : Nat → Option Nat} {gsl : Nat → Option Nat} {w : Int32} (m_x : x ∈ L) (e_x : f x = ob 11 [.ref t, .ref now, .ref im, .ref la, .ref sl, .ref np, .ref ns, .ref nw, .ref nwa, .ref nl, .ref he, .ref wa, .ref tr, .ref ta]) (m_now : now ∈ L) (e_now : f now = ob 0 [.ref pa, .ref sh, .ref wy, .ref wt, .ref lo, .ref cl]) (m_t : t ∈ L) (e_t : f t = ob 7 [.ref tb, .int 0, .int 0, .int 0, .int 0, .int 0, .int (-1)]) (m_pa : pa ∈ L) (e_pa : f pa = ob 4 [.ref pas, .ref paf, .int 0, .int 0, .int 0]) (m_wt : wt ∈ L) (e_wt : f wt = ob 9 [.ref wtc, .int 0, .int 0]) (m_lo : lo ∈ L) (e_lo : f lo = ob 3 [.ref lok, .ref lof, .ref los, .int 0]) (m_la : la ∈ L) (e_la : f la = ob 2 [.ref lax, .int 0]) (m_wy : wy ∈ L) (e_wy : f wy = aR E 7 6 gwy) (pwy : ∀ i : Nat, i < 6 → ∃ q : Nat, gwy i = some q ∧ q ∈ L ∧ f q = ob 10 [.int 0, .int 0, .int 1, .int 1, .int 1, .int 0, .int 0]) (m_cl : cl ∈ L) (e_cl : f cl = aR E 5 4 gcl) (pcl : ∀ i : Nat, i < 4 → ∃ q s : Nat, gcl i = some q ∧ q ∈ L ∧ f q = ob 1 [.ref s, .int 0]) (m_sl : sl ∈ L) (e_sl : f sl = aR E 6 4 gsl) (psl : ∀ i : Nat, i < 4 → ∃ q s : Nat, gsl i = some q ∧ q ∈ L ∧ f q = ob 5 [.ref s, .int (-1), .int 0] ∧ s ∈ L ∧ f s = aJ E 60 (fun _ => 0)) : CI l yX11_count cX11_count 2 .int 2 0 0 E [.ref x, .int w] L f (fun r L1 f1 => sp_count w = r) := by
  refine ci_of (by decide) (Nat.le_of_ble_eq_true rfl) (fun z hz hnm hC hR => ?_)
  have hC : Cx z E cX11_count RX11 2 2 0 0 := hC
  subst hz
  show V z E 2 0 0 L f 0 [(0, .ref x), (1, .int w)] []
  refine v_iload_n hC dX11_count_0 rfl ?_
  by_cases h_1 : w = 0
  · refine v_tableIn hC dX11_count_1 (off := 55) (tgt := 56) (by rw [h_1]; decide) (by rw [h_1]; decide) (by rw [h_1]; rfl) (by decide) ?_
    refine v_aload_n hC dX11_count_56 rfl ?_
    refine v_get hC fl_X11_19 m_x e_x rfl dX11_count_57 ?_
    refine v_getN hC fn_X11_116 m_now e_now rfl dX11_count_60 ?_
    refine v_getN hC fn_X11_335 m_pa e_pa rfl dX11_count_63 ?_
    exact hR _ _ _ _ _ _ _ dX11_count_66 rfl (Nat.le_of_ble_eq_true rfl) (Nat.le_of_ble_eq_true rfl) (by unfold sp_count; simp only [Int32.lt_iff_toInt_lt, Int32.le_iff_toInt_le, Int32.reduceToInt, ← Int32.toInt_inj] at h_1 ⊢; first | omega | (split <;> first | rfl | (exfalso; omega)))
  by_cases h_2 : w = 1
  · refine v_tableIn hC dX11_count_1 (off := 66) (tgt := 67) (by rw [h_2]; decide) (by rw [h_2]; decide) (by rw [h_2]; rfl) (by decide) ?_
    refine v_aload_n hC dX11_count_67 rfl ?_
    refine v_get hC fl_X11_19 m_x e_x rfl dX11_count_68 ?_
    refine v_getN hC fn_X11_116 m_now e_now rfl dX11_count_71 ?_
    refine v_getN hC fn_X11_338 m_pa e_pa rfl dX11_count_74 ?_
    exact hR _ _ _ _ _ _ _ dX11_count_77 rfl (Nat.le_of_ble_eq_true rfl) (Nat.le_of_ble_eq_true rfl) (by unfold sp_count; simp only [Int32.lt_iff_toInt_lt, Int32.le_iff_toInt_le, Int32.reduceToInt, ← Int32.toInt_inj] at h_1 h_2 ⊢; first | omega | (split <;> first | rfl | (exfalso; omega)))
  by_cases h_3 : w = 2
  · refine v_tableIn hC dX11_count_1 (off := 77) (tgt := 78) (by rw [h_3]; decide) (by rw [h_3]; decide) (by rw [h_3]; rfl) (by decide) ?_
    refine v_aload_n hC dX11_count_78 rfl ?_
    refine v_get hC fl_X11_19 m_x e_x rfl dX11_count_79 ?_
    refine v_getN hC fn_X11_116 m_now e_now rfl dX11_count_82 ?_
    refine v_getN hC fn_X11_126 m_pa e_pa rfl dX11_count_85 ?_
    exact hR _ _ _ _ _ _ _ dX11_count_88 rfl (Nat.le_of_ble_eq_true rfl) (Nat.le_of_ble_eq_true rfl) (by unfold sp_count; simp only [Int32.lt_iff_toInt_lt, Int32.le_iff_toInt_le, Int32.reduceToInt, ← Int32.toInt_inj] at h_1 h_2 h_3 ⊢; first | omega | (split <;> first | rfl | (exfalso; omega)))
  by_cases h_4 : w = 3
  · refine v_tableIn hC dX11_count_1 (off := 88) (tgt := 89) (by rw [h_4]; decide) (by rw [h_4]; decide) (by rw [h_4]; rfl) (by decide) ?_
    refine v_aload_n hC dX11_count_89 rfl ?_
    refine v_get hC fl_X11_19 m_x e_x rfl dX11_count_90 ?_
    refine v_vi hC (rest := []) m_now e_now rfl mi_X0_waysThere ms_X0_waysThere (c_waysThere m_now e_now m_wy e_wy pwy) mx_X0_waysThere ml_X11_341 (by decide) rfl (cells1 := 0) (slots1 := 0) (by decide) (by decide) (Nat.le_of_ble_eq_true rfl) (Nat.le_of_ble_eq_true rfl) rfl (Nat.le_of_ble_eq_true rfl) dX11_count_93 (fun r_5 L_6 f_7 h_8 => ?_)
    obtain ⟨rfl, rfl, rfl⟩ := h_8
    exact hR _ _ _ _ _ _ _ dX11_count_96 rfl (Nat.le_of_ble_eq_true rfl) (Nat.le_of_ble_eq_true rfl) (by unfold sp_count; simp only [Int32.lt_iff_toInt_lt, Int32.le_iff_toInt_le, Int32.reduceToInt, ← Int32.toInt_inj] at h_1 h_2 h_3 h_4 ⊢; first | omega | (split <;> first | rfl | (exfalso; omega)))
  by_cases h_9 : w = 4
  · refine v_tableIn hC dX11_count_1 (off := 96) (tgt := 97) (by rw [h_9]; decide) (by rw [h_9]; decide) (by rw [h_9]; rfl) (by decide) ?_
    refine v_aload_n hC dX11_count_97 rfl ?_
    refine v_get hC fl_X11_19 m_x e_x rfl dX11_count_98 ?_
    refine v_getN hC fn_X11_158 m_now e_now rfl dX11_count_101 ?_
    refine v_getN hC fn_X11_164 m_wt e_wt rfl dX11_count_104 ?_
    exact hR _ _ _ _ _ _ _ dX11_count_107 rfl (Nat.le_of_ble_eq_true rfl) (Nat.le_of_ble_eq_true rfl) (by unfold sp_count; simp only [Int32.lt_iff_toInt_lt, Int32.le_iff_toInt_le, Int32.reduceToInt, ← Int32.toInt_inj] at h_1 h_2 h_3 h_4 h_9 ⊢; first | omega | (split <;> first | rfl | (exfalso; omega)))
  by_cases h_10 : w = 5
  · refine v_tableIn hC dX11_count_1 (off := 107) (tgt := 108) (by rw [h_10]; decide) (by rw [h_10]; decide) (by rw [h_10]; rfl) (by decide) ?_
    refine v_aload_n hC dX11_count_108 rfl ?_
    refine v_get hC fl_X11_19 m_x e_x rfl dX11_count_109 ?_
    refine v_getN hC fn_X11_168 m_now e_now rfl dX11_count_112 ?_
    refine v_getN hC fn_X11_174 m_lo e_lo rfl dX11_count_115 ?_
    exact hR _ _ _ _ _ _ _ dX11_count_118 rfl (Nat.le_of_ble_eq_true rfl) (Nat.le_of_ble_eq_true rfl) (by unfold sp_count; simp only [Int32.lt_iff_toInt_lt, Int32.le_iff_toInt_le, Int32.reduceToInt, ← Int32.toInt_inj] at h_1 h_2 h_3 h_4 h_9 h_10 ⊢; first | omega | (split <;> first | rfl | (exfalso; omega)))
  by_cases h_11 : w = 6
  · refine v_tableIn hC dX11_count_1 (off := 118) (tgt := 119) (by rw [h_11]; decide) (by rw [h_11]; decide) (by rw [h_11]; rfl) (by decide) ?_
    refine v_aload_n hC dX11_count_119 rfl ?_
    refine v_get hC fl_X11_19 m_x e_x rfl dX11_count_120 ?_
    refine v_vi hC (rest := []) m_now e_now rfl mi_X0_clothsThere ms_X0_clothsThere (c_clothsThere m_now e_now m_cl e_cl pcl) mx_X0_clothsThere ml_X11_344 (by decide) rfl (cells1 := 0) (slots1 := 0) (by decide) (by decide) (Nat.le_of_ble_eq_true rfl) (Nat.le_of_ble_eq_true rfl) rfl (Nat.le_of_ble_eq_true rfl) dX11_count_123 (fun r_12 L_13 f_14 h_15 => ?_)
    obtain ⟨rfl, rfl, rfl⟩ := h_15
    exact hR _ _ _ _ _ _ _ dX11_count_126 rfl (Nat.le_of_ble_eq_true rfl) (Nat.le_of_ble_eq_true rfl) (by unfold sp_count; simp only [Int32.lt_iff_toInt_lt, Int32.le_iff_toInt_le, Int32.reduceToInt, ← Int32.toInt_inj] at h_1 h_2 h_3 h_4 h_9 h_10 h_11 ⊢; first | omega | (split <;> first | rfl | (exfalso; omega)))
  by_cases h_16 : w = 7
  · refine v_tableIn hC dX11_count_1 (off := 126) (tgt := 127) (by rw [h_16]; decide) (by rw [h_16]; decide) (by rw [h_16]; rfl) (by decide) ?_
    refine v_aload_n hC dX11_count_127 rfl ?_
    refine v_get hC fl_X11_12 m_x e_x rfl dX11_count_128 ?_
    refine v_getN hC fn_X11_105 m_t e_t rfl dX11_count_131 ?_
    exact hR _ _ _ _ _ _ _ dX11_count_134 rfl (Nat.le_of_ble_eq_true rfl) (Nat.le_of_ble_eq_true rfl) (by unfold sp_count; simp only [Int32.lt_iff_toInt_lt, Int32.le_iff_toInt_le, Int32.reduceToInt, ← Int32.toInt_inj] at h_1 h_2 h_3 h_4 h_9 h_10 h_11 h_16 ⊢; first | omega | (split <;> first | rfl | (exfalso; omega)))
  by_cases h_17 : w = 8
  · refine v_tableIn hC dX11_count_1 (off := 134) (tgt := 135) (by rw [h_17]; decide) (by rw [h_17]; decide) (by rw [h_17]; rfl) (by decide) ?_
    refine v_aload_n hC dX11_count_135 rfl ?_
    refine v_get hC fl_X11_30 m_x e_x rfl dX11_count_136 ?_
    refine v_getN hC fn_X11_213 m_la e_la rfl dX11_count_139 ?_
    exact hR _ _ _ _ _ _ _ dX11_count_142 rfl (Nat.le_of_ble_eq_true rfl) (Nat.le_of_ble_eq_true rfl) (by unfold sp_count; simp only [Int32.lt_iff_toInt_lt, Int32.le_iff_toInt_le, Int32.reduceToInt, ← Int32.toInt_inj] at h_1 h_2 h_3 h_4 h_9 h_10 h_11 h_16 h_17 ⊢; first | omega | (split <;> first | rfl | (exfalso; omega)))
  by_cases h_18 : w = 9
  · refine v_tableIn hC dX11_count_1 (off := 142) (tgt := 143) (by rw [h_18]; decide) (by rw [h_18]; decide) (by rw [h_18]; rfl) (by decide) ?_
    refine v_aload_n hC dX11_count_143 rfl ?_
    refine v_vi hC (rest := []) m_x e_x rfl mi_X11_slotsThere ms_X11_slotsThere (c_slotsThere m_x e_x m_sl e_sl psl) mx_X11_slotsThere ml_X11_347 (by decide) rfl (cells1 := 0) (slots1 := 0) (by decide) (by decide) (Nat.le_of_ble_eq_true rfl) (Nat.le_of_ble_eq_true rfl) rfl (Nat.le_of_ble_eq_true rfl) dX11_count_144 (fun r_19 L_20 f_21 h_22 => ?_)
    obtain ⟨rfl, rfl, rfl⟩ := h_22
    exact hR _ _ _ _ _ _ _ dX11_count_147 rfl (Nat.le_of_ble_eq_true rfl) (Nat.le_of_ble_eq_true rfl) (by unfold sp_count; simp only [Int32.lt_iff_toInt_lt, Int32.le_iff_toInt_le, Int32.reduceToInt, ← Int32.toInt_inj] at h_1 h_2 h_3 h_4 h_9 h_10 h_11 h_16 h_17 h_18 ⊢; first | omega | (split <;> first | rfl | (exfalso; omega)))
  refine v_tableOut hC dX11_count_1 (tgt := 148) (by simp only [Int32.lt_iff_toInt_lt, Int32.le_iff_toInt_le, Int32.reduceToInt, ← Int32.toInt_inj] at h_1 h_2 h_3 h_4 h_9 h_10 h_11 h_16 h_17 h_18 ⊢; omega) (by decide) ?_
  refine v_iconst hC dX11_count_148 (v := (-1)) (by decide) ?_
  exact hR _ _ _ _ _ _ _ dX11_count_149 rfl (Nat.le_of_ble_eq_true rfl) (Nat.le_of_ble_eq_true rfl) (by unfold sp_count; simp only [Int32.lt_iff_toInt_lt, Int32.le_iff_toInt_le, Int32.reduceToInt, ← Int32.toInt_inj] at h_1 h_2 h_3 h_4 h_9 h_10 h_11 h_16 h_17 h_18 ⊢; first | omega | (split <;> first | rfl | (exfalso; omega)))
set_option maxRecDepth 100000 in
set_option maxHeartbeats 4000000 in
theorem k_X10 {l : Launch} {E : Ez} {L : List Nat} {f : Nat → va_E} {h : Nat} (m_h : h ∈ L) (e_h : f h = ob 10 [.int 0, .int 0, .int 0, .int 0, .int 0, .int 0, .int 0]) : CV l yX10_init cX10_init 1 1 0 0 E [.ref h] L f (fun L1 f1 => (∀ b ∈ L, b ≠ h → b ∈ L1 ∧ f1 b = f b) ∧ h ∈ L1 ∧ f1 h = ob 10 [.int 0, .int 0, .int 1, .int 1, .int 1, .int 0, .int 0]) := by
  refine cv_of (by decide) (Nat.le_of_ble_eq_true rfl) (fun z hz hnm hC hR => ?_)
  have hC : Cx z E cX10_init RX10 1 1 0 0 := hC
  subst hz
  show V z E 1 0 0 L f 0 [(0, .ref h)] []
  refine v_aload_n hC dX10_init_0 rfl ?_
  refine v_objinit hC mo_X10_3 mo_i mo_c (by decide) dX10_init_1 ?_
  refine v_aload_n hC dX10_init_4 rfl ?_
  refine v_iconst hC dX10_init_5 (v := 1) (by decide) ?_
  refine v_put hC fl_X10_9 m_h e_h rfl rfl (Nat.le_of_ble_eq_true rfl) (fs' := [.int 0, .int 0, .int 1, .int 0, .int 0, .int 0, .int 0]) rfl dX10_init_6 (fun f_1 hf_2 hk_3 => ?_)
  refine v_aload_n hC dX10_init_9 rfl ?_
  refine v_iconst hC dX10_init_10 (v := 1) (by decide) ?_
  refine v_put hC fl_X10_15 m_h hf_2 rfl rfl (Nat.le_of_ble_eq_true rfl) (fs' := [.int 0, .int 0, .int 1, .int 1, .int 0, .int 0, .int 0]) rfl dX10_init_11 (fun f_4 hf_5 hk_6 => ?_)
  refine v_aload_n hC dX10_init_14 rfl ?_
  refine v_iconst hC dX10_init_15 (v := 1) (by decide) ?_
  refine v_put hC fl_X10_18 m_h hf_5 rfl rfl (Nat.le_of_ble_eq_true rfl) (fs' := [.int 0, .int 0, .int 1, .int 1, .int 1, .int 0, .int 0]) rfl dX10_init_16 (fun f_7 hf_8 hk_9 => ?_)
  have hkp_10 : ∀ b ∈ L, b ≠ h → b ∈ L ∧ f_7 b = f b := by
    intro b hb0 hn0
    have e1 := hk_3 b hn0
    have e2 := hk_6 b hn0
    have e3 := hk_9 b hn0
    exact ⟨hb0, (e3.trans (e2.trans e1))⟩
  exact hR _ _ _ _ _ _ dX10_init_19 (Nat.le_of_ble_eq_true rfl) (Nat.le_of_ble_eq_true rfl) ⟨hkp_10, m_h, hf_8⟩
