set_option maxRecDepth 100000 in
set_option maxHeartbeats 4000000 in
theorem a78_X7_complain {l : Launch} {E : Ez} {L : List Nat} {f : Nat → va_E} {a0 a1 : Nat} (m_a0 : a0 ∈ L) (e_a0 : f a0 = ob 7 [.ref a1, .int 0, .int 0, .int 0, .int 0, .int 0, .int (-1)]) : CV l yX7_complain cX7_complain 2 1 0 0 E [.ref a0, .int 1] L f (fun L1 f1 => L = L1 ∧ f1 a0 = ob 7 [.ref a1, .int 0, .int 4, .int 0, .int 0, .int 1, .int 0] ∧ ∀ b, b ≠ a0 → f1 b = f b) := by
  refine cv_of (by decide) (Nat.le_of_ble_eq_true rfl) (fun z hz hnm hC hR => ?_)
  have hC : Cx z E cX7_complain RX7 2 1 0 0 := hC
  subst hz
  show V z E 2 0 0 L f 0 [(0, .ref a0), (1, .int 1)] []
  refine v_aload_n hC dX7_complain_0 rfl ?_
  refine v_vi hC (rest := []) m_a0 e_a0 rfl mi_X7_isFine ms_X7_isFine (a66_X7_isFine m_a0 e_a0) mx_X7_isFine ml_X7_31 (by decide) rfl (cells1 := 0) (slots1 := 0) (by decide) (by decide) (Nat.le_of_ble_eq_true rfl) (Nat.le_of_ble_eq_true rfl) rfl (Nat.le_of_ble_eq_true rfl) dX7_complain_1 (fun r1 L2 f3 h4 => ?_)
  obtain ⟨rfl, rfl, rfl⟩ := h4
  refine v_if_eq_f hC dX7_complain_4 (tgt := 25) (by decide) (by decide) ?_
  refine v_aload_n hC dX7_complain_7 rfl ?_
  refine v_iload_n hC dX7_complain_8 rfl ?_
  refine v_put hC fl_X7_22 m_a0 e_a0 rfl rfl (Nat.le_of_ble_eq_true rfl) (fs' := [.ref a1, .int 0, .int 0, .int 0, .int 0, .int 1, .int (-1)]) rfl dX7_complain_9 (fun f5 hf6 hk7 => ?_)
  refine v_aload_n hC dX7_complain_12 rfl ?_
  refine v_aload_n hC dX7_complain_13 rfl ?_
  refine v_get hC fl_X7_38 m_a0 hf6 rfl dX7_complain_14 ?_
  refine v_put hC fl_X7_15 m_a0 hf6 rfl rfl (Nat.le_of_ble_eq_true rfl) (fs' := [.ref a1, .int 0, .int 0, .int 0, .int 0, .int 1, .int 0]) rfl dX7_complain_17 (fun f8 hf9 hk10 => ?_)
  refine v_aload_n hC dX7_complain_20 rfl ?_
  refine v_iconst hC dX7_complain_21 (v := 4) (by decide) ?_
  refine v_put hC fl_X7_35 m_a0 hf9 rfl rfl (Nat.le_of_ble_eq_true rfl) (fs' := [.ref a1, .int 0, .int 4, .int 0, .int 0, .int 1, .int 0]) rfl dX7_complain_22 (fun f11 hf12 hk13 => ?_)
  exact hR _ _ _ _ _ _ dX7_complain_25 (Nat.le_of_ble_eq_true rfl) (Nat.le_of_ble_eq_true rfl) ⟨rfl, hf12, fun b n0 => ((hk13 b n0).trans ((hk10 b n0).trans (hk7 b n0)))⟩
set_option maxRecDepth 100000 in
set_option maxHeartbeats 4000000 in
theorem a76_X7_takeWord {l : Launch} {E : Ez} {L : List Nat} {f : Nat → va_E} {a0 a1 a2 : Nat} (m_a0 : a0 ∈ L) (e_a0 : f a0 = ob 7 [.ref a2, .int 0, .int 0, .int 0, .int 0, .int 0, .int (-1)]) : CV l yX7_takeWord cX7_takeWord 2 2 0 0 E [.ref a0, .ref a1] L f (fun L1 f1 => L = L1 ∧ f1 a0 = ob 7 [.ref a2, .int 0, .int 4, .int 0, .int 0, .int 1, .int 0] ∧ ∀ b, b ≠ a0 → f1 b = f b) := by
  refine cv_of (by decide) (Nat.le_of_ble_eq_true rfl) (fun z hz hnm hC hR => ?_)
  have hC : Cx z E cX7_takeWord RX7 2 2 0 0 := hC
  subst hz
  show V z E 2 0 0 L f 0 [(0, .ref a0), (1, .ref a1)] []
  refine v_aload_n hC dX7_takeWord_0 rfl ?_
  refine v_aload_n hC dX7_takeWord_1 rfl ?_
  refine v_vi hC (rest := []) m_a0 e_a0 rfl mi_X7_isWord ms_X7_isWord (a76_X7_isWord m_a0 e_a0) mx_X7_isWord ml_X7_77 (by decide) rfl (cells1 := 0) (slots1 := 0) (by decide) (by decide) (Nat.le_of_ble_eq_true rfl) (Nat.le_of_ble_eq_true rfl) rfl (Nat.le_of_ble_eq_true rfl) dX7_takeWord_2 (fun r1 L2 f3 h4 => ?_)
  obtain ⟨rfl, rfl, rfl⟩ := h4
  refine v_if_eq_t hC dX7_takeWord_5 (tgt := 15) (by decide) (by decide) ?_
  refine v_aload_n hC dX7_takeWord_15 rfl ?_
  refine v_iconst hC dX7_takeWord_16 (v := 1) (by decide) ?_
  refine v_vv hC (rest := []) m_a0 e_a0 rfl mi_X7_complain ms_X7_complain (a78_X7_complain m_a0 e_a0) mx_X7_complain ml_X7_81 (by decide) rfl (cells1 := 0) (slots1 := 0) (by decide) (by decide) (Nat.le_of_ble_eq_true rfl) (Nat.le_of_ble_eq_true rfl) rfl (Nat.le_of_ble_eq_true rfl) dX7_takeWord_17 (fun L6 f7 h8 => ?_)
  obtain ⟨rfl, hf9, hk10⟩ := h8
  exact hR _ _ _ _ _ _ dX7_takeWord_20 (Nat.le_of_ble_eq_true rfl) (Nat.le_of_ble_eq_true rfl) ⟨rfl, hf9, fun b n0 => (hk10 b n0)⟩
set_option maxRecDepth 100000 in
set_option maxHeartbeats 4000000 in
theorem a82_X7_isNumber {l : Launch} {E : Ez} {L : List Nat} {f : Nat → va_E} {a0 a1 : Nat} (m_a0 : a0 ∈ L) (e_a0 : f a0 = ob 7 [.ref a1, .int 0, .int 4, .int 0, .int 0, .int 1, .int 0]) : CI l yX7_isNumber cX7_isNumber 1 .boolean 0 0 0 E [.ref a0] L f (fun r L1 f1 => 0 = r ∧ L = L1 ∧ f = f1) := by
  refine ci_of (by decide) (Nat.le_of_ble_eq_true rfl) (fun z hz hnm hC hR => ?_)
  have hC : Cx z E cX7_isNumber RX7 1 0 0 0 := hC
  subst hz
  show V z E 1 0 0 L f 0 [(0, .ref a0)] []
  refine v_aload_n hC dX7_isNumber_0 rfl ?_
  refine v_get hC fl_X7_35 m_a0 e_a0 rfl dX7_isNumber_1 ?_
  refine v_iconst hC dX7_isNumber_4 (v := 2) (by decide) ?_
  refine v_icmp_ne_t hC dX7_isNumber_5 (tgt := 12) (by decide) (by decide) ?_
  refine v_iconst hC dX7_isNumber_12 (v := 0) (by decide) ?_
  exact hR _ _ _ _ _ _ _ dX7_isNumber_13 rfl (Nat.le_of_ble_eq_true rfl) (Nat.le_of_ble_eq_true rfl) ⟨rfl, rfl, rfl⟩
set_option maxRecDepth 100000 in
set_option maxHeartbeats 4000000 in
theorem a84_X7_isFine {l : Launch} {E : Ez} {L : List Nat} {f : Nat → va_E} {a0 a1 : Nat} (m_a0 : a0 ∈ L) (e_a0 : f a0 = ob 7 [.ref a1, .int 0, .int 4, .int 0, .int 0, .int 1, .int 0]) : CI l yX7_isFine cX7_isFine 1 .boolean 0 0 0 E [.ref a0] L f (fun r L1 f1 => 0 = r ∧ L = L1 ∧ f = f1) := by
  refine ci_of (by decide) (Nat.le_of_ble_eq_true rfl) (fun z hz hnm hC hR => ?_)
  have hC : Cx z E cX7_isFine RX7 1 0 0 0 := hC
  subst hz
  show V z E 1 0 0 L f 0 [(0, .ref a0)] []
  refine v_aload_n hC dX7_isFine_0 rfl ?_
  refine v_get hC fl_X7_22 m_a0 e_a0 rfl dX7_isFine_1 ?_
  refine v_if_ne_t hC dX7_isFine_4 (tgt := 11) (by decide) (by decide) ?_
  refine v_iconst hC dX7_isFine_11 (v := 0) (by decide) ?_
  exact hR _ _ _ _ _ _ _ dX7_isFine_12 rfl (Nat.le_of_ble_eq_true rfl) (Nat.le_of_ble_eq_true rfl) ⟨rfl, rfl, rfl⟩
set_option maxRecDepth 100000 in
set_option maxHeartbeats 4000000 in
theorem a84_X7_complain {l : Launch} {E : Ez} {L : List Nat} {f : Nat → va_E} {a0 a1 : Nat} (m_a0 : a0 ∈ L) (e_a0 : f a0 = ob 7 [.ref a1, .int 0, .int 4, .int 0, .int 0, .int 1, .int 0]) : CV l yX7_complain cX7_complain 2 1 0 0 E [.ref a0, .int 1] L f (fun L1 f1 => L = L1 ∧ f = f1) := by
  refine cv_of (by decide) (Nat.le_of_ble_eq_true rfl) (fun z hz hnm hC hR => ?_)
  have hC : Cx z E cX7_complain RX7 2 1 0 0 := hC
  subst hz
  show V z E 2 0 0 L f 0 [(0, .ref a0), (1, .int 1)] []
  refine v_aload_n hC dX7_complain_0 rfl ?_
  refine v_vi hC (rest := []) m_a0 e_a0 rfl mi_X7_isFine ms_X7_isFine (a84_X7_isFine m_a0 e_a0) mx_X7_isFine ml_X7_31 (by decide) rfl (cells1 := 0) (slots1 := 0) (by decide) (by decide) (Nat.le_of_ble_eq_true rfl) (Nat.le_of_ble_eq_true rfl) rfl (Nat.le_of_ble_eq_true rfl) dX7_complain_1 (fun r1 L2 f3 h4 => ?_)
  obtain ⟨rfl, rfl, rfl⟩ := h4
  refine v_if_eq_t hC dX7_complain_4 (tgt := 25) (by decide) (by decide) ?_
  exact hR _ _ _ _ _ _ dX7_complain_25 (Nat.le_of_ble_eq_true rfl) (Nat.le_of_ble_eq_true rfl) ⟨rfl, rfl⟩
set_option maxRecDepth 100000 in
set_option maxHeartbeats 4000000 in
theorem a82_X7_takeNumber {l : Launch} {E : Ez} {L : List Nat} {f : Nat → va_E} {a0 a1 : Nat} (m_a0 : a0 ∈ L) (e_a0 : f a0 = ob 7 [.ref a1, .int 0, .int 4, .int 0, .int 0, .int 1, .int 0]) : CI l yX7_takeNumber cX7_takeNumber 4 .int 2 0 0 E [.ref a0, .int 1, .int 16] L f (fun r L1 f1 => 1 = r ∧ L = L1 ∧ f = f1) := by
  refine ci_of (by decide) (Nat.le_of_ble_eq_true rfl) (fun z hz hnm hC hR => ?_)
  have hC : Cx z E cX7_takeNumber RX7 4 2 0 0 := hC
  subst hz
  show V z E 4 0 0 L f 0 [(0, .ref a0), (1, .int 1), (2, .int 16)] []
  refine v_aload_n hC dX7_takeNumber_0 rfl ?_
  refine v_vi hC (rest := []) m_a0 e_a0 rfl mi_X7_isNumber ms_X7_isNumber (a82_X7_isNumber m_a0 e_a0) mx_X7_isNumber ml_X7_58 (by decide) rfl (cells1 := 0) (slots1 := 0) (by decide) (by decide) (Nat.le_of_ble_eq_true rfl) (Nat.le_of_ble_eq_true rfl) rfl (Nat.le_of_ble_eq_true rfl) dX7_takeNumber_1 (fun r1 L2 f3 h4 => ?_)
  obtain ⟨rfl, rfl, rfl⟩ := h4
  refine v_if_ne_f hC dX7_takeNumber_4 (tgt := 14) (by decide) (by decide) ?_
  refine v_aload_n hC dX7_takeNumber_7 rfl ?_
  refine v_iconst hC dX7_takeNumber_8 (v := 1) (by decide) ?_
  refine v_vv hC (rest := []) m_a0 e_a0 rfl mi_X7_complain ms_X7_complain (a84_X7_complain m_a0 e_a0) mx_X7_complain ml_X7_81 (by decide) rfl (cells1 := 0) (slots1 := 0) (by decide) (by decide) (Nat.le_of_ble_eq_true rfl) (Nat.le_of_ble_eq_true rfl) rfl (Nat.le_of_ble_eq_true rfl) dX7_takeNumber_9 (fun L6 f7 h8 => ?_)
  obtain ⟨rfl, rfl⟩ := h8
  refine v_iload_n hC dX7_takeNumber_12 rfl ?_
  exact hR _ _ _ _ _ _ _ dX7_takeNumber_13 rfl (Nat.le_of_ble_eq_true rfl) (Nat.le_of_ble_eq_true rfl) ⟨rfl, rfl, rfl⟩
set_option maxRecDepth 100000 in
set_option maxHeartbeats 4000000 in
theorem a90_X7_isWord {l : Launch} {E : Ez} {L : List Nat} {f : Nat → va_E} {a0 a1 a2 : Nat} (m_a0 : a0 ∈ L) (e_a0 : f a0 = ob 7 [.ref a2, .int 0, .int 4, .int 0, .int 0, .int 1, .int 0]) : CI l yX7_isWord cX7_isWord 3 .boolean 0 0 0 E [.ref a0, .ref a1] L f (fun r L1 f1 => 0 = r ∧ L = L1 ∧ f = f1) := by
  refine ci_of (by decide) (Nat.le_of_ble_eq_true rfl) (fun z hz hnm hC hR => ?_)
  have hC : Cx z E cX7_isWord RX7 3 0 0 0 := hC
  subst hz
  show V z E 3 0 0 L f 0 [(0, .ref a0), (1, .ref a1)] []
  refine v_aload_n hC dX7_isWord_0 rfl ?_
  refine v_get hC fl_X7_35 m_a0 e_a0 rfl dX7_isWord_1 ?_
  refine v_iconst hC dX7_isWord_4 (v := 1) (by decide) ?_
  refine v_icmp_ne_t hC dX7_isWord_5 (tgt := 24) (by decide) (by decide) ?_
  refine v_iconst hC dX7_isWord_24 (v := 0) (by decide) ?_
  exact hR _ _ _ _ _ _ _ dX7_isWord_25 rfl (Nat.le_of_ble_eq_true rfl) (Nat.le_of_ble_eq_true rfl) ⟨rfl, rfl, rfl⟩
set_option maxRecDepth 100000 in
set_option maxHeartbeats 4000000 in
theorem a90_X7_takeWord {l : Launch} {E : Ez} {L : List Nat} {f : Nat → va_E} {a0 a1 a2 : Nat} (m_a0 : a0 ∈ L) (e_a0 : f a0 = ob 7 [.ref a2, .int 0, .int 4, .int 0, .int 0, .int 1, .int 0]) : CV l yX7_takeWord cX7_takeWord 2 2 0 0 E [.ref a0, .ref a1] L f (fun L1 f1 => L = L1 ∧ f = f1) := by
  refine cv_of (by decide) (Nat.le_of_ble_eq_true rfl) (fun z hz hnm hC hR => ?_)
  have hC : Cx z E cX7_takeWord RX7 2 2 0 0 := hC
  subst hz
  show V z E 2 0 0 L f 0 [(0, .ref a0), (1, .ref a1)] []
  refine v_aload_n hC dX7_takeWord_0 rfl ?_
  refine v_aload_n hC dX7_takeWord_1 rfl ?_
  refine v_vi hC (rest := []) m_a0 e_a0 rfl mi_X7_isWord ms_X7_isWord (a90_X7_isWord m_a0 e_a0) mx_X7_isWord ml_X7_77 (by decide) rfl (cells1 := 0) (slots1 := 0) (by decide) (by decide) (Nat.le_of_ble_eq_true rfl) (Nat.le_of_ble_eq_true rfl) rfl (Nat.le_of_ble_eq_true rfl) dX7_takeWord_2 (fun r1 L2 f3 h4 => ?_)
  obtain ⟨rfl, rfl, rfl⟩ := h4
  refine v_if_eq_t hC dX7_takeWord_5 (tgt := 15) (by decide) (by decide) ?_
  refine v_aload_n hC dX7_takeWord_15 rfl ?_
  refine v_iconst hC dX7_takeWord_16 (v := 1) (by decide) ?_
  refine v_vv hC (rest := []) m_a0 e_a0 rfl mi_X7_complain ms_X7_complain (a84_X7_complain m_a0 e_a0) mx_X7_complain ml_X7_81 (by decide) rfl (cells1 := 0) (slots1 := 0) (by decide) (by decide) (Nat.le_of_ble_eq_true rfl) (Nat.le_of_ble_eq_true rfl) rfl (Nat.le_of_ble_eq_true rfl) dX7_takeWord_17 (fun L6 f7 h8 => ?_)
  obtain ⟨rfl, rfl⟩ := h8
  exact hR _ _ _ _ _ _ dX7_takeWord_20 (Nat.le_of_ble_eq_true rfl) (Nat.le_of_ble_eq_true rfl) ⟨rfl, rfl⟩
set_option maxRecDepth 100000 in
set_option maxHeartbeats 4000000 in
theorem a94_X7_isSemicolon {l : Launch} {E : Ez} {L : List Nat} {f : Nat → va_E} {a0 a1 : Nat} (m_a0 : a0 ∈ L) (e_a0 : f a0 = ob 7 [.ref a1, .int 0, .int 4, .int 0, .int 0, .int 1, .int 0]) : CI l yX7_isSemicolon cX7_isSemicolon 1 .boolean 0 0 0 E [.ref a0] L f (fun r L1 f1 => 0 = r ∧ L = L1 ∧ f = f1) := by
  refine ci_of (by decide) (Nat.le_of_ble_eq_true rfl) (fun z hz hnm hC hR => ?_)
  have hC : Cx z E cX7_isSemicolon RX7 1 0 0 0 := hC
  subst hz
  show V z E 1 0 0 L f 0 [(0, .ref a0)] []
  refine v_aload_n hC dX7_isSemicolon_0 rfl ?_
  refine v_get hC fl_X7_35 m_a0 e_a0 rfl dX7_isSemicolon_1 ?_
  refine v_iconst hC dX7_isSemicolon_4 (v := 3) (by decide) ?_
  refine v_icmp_ne_t hC dX7_isSemicolon_5 (tgt := 12) (by decide) (by decide) ?_
  refine v_iconst hC dX7_isSemicolon_12 (v := 0) (by decide) ?_
  exact hR _ _ _ _ _ _ _ dX7_isSemicolon_13 rfl (Nat.le_of_ble_eq_true rfl) (Nat.le_of_ble_eq_true rfl) ⟨rfl, rfl, rfl⟩
set_option maxRecDepth 100000 in
set_option maxHeartbeats 4000000 in
theorem a94_X7_takeSemicolon {l : Launch} {E : Ez} {L : List Nat} {f : Nat → va_E} {a0 a1 : Nat} (m_a0 : a0 ∈ L) (e_a0 : f a0 = ob 7 [.ref a1, .int 0, .int 4, .int 0, .int 0, .int 1, .int 0]) : CV l yX7_takeSemicolon cX7_takeSemicolon 1 2 0 0 E [.ref a0] L f (fun L1 f1 => L = L1 ∧ f = f1) := by
  refine cv_of (by decide) (Nat.le_of_ble_eq_true rfl) (fun z hz hnm hC hR => ?_)
  have hC : Cx z E cX7_takeSemicolon RX7 1 2 0 0 := hC
  subst hz
  show V z E 1 0 0 L f 0 [(0, .ref a0)] []
  refine v_aload_n hC dX7_takeSemicolon_0 rfl ?_
  refine v_vi hC (rest := []) m_a0 e_a0 rfl mi_X7_isSemicolon ms_X7_isSemicolon (a94_X7_isSemicolon m_a0 e_a0) mx_X7_isSemicolon ml_X7_85 (by decide) rfl (cells1 := 0) (slots1 := 0) (by decide) (by decide) (Nat.le_of_ble_eq_true rfl) (Nat.le_of_ble_eq_true rfl) rfl (Nat.le_of_ble_eq_true rfl) dX7_takeSemicolon_1 (fun r1 L2 f3 h4 => ?_)
  obtain ⟨rfl, rfl, rfl⟩ := h4
  refine v_if_eq_t hC dX7_takeSemicolon_4 (tgt := 14) (by decide) (by decide) ?_
  refine v_aload_n hC dX7_takeSemicolon_14 rfl ?_
  refine v_iconst hC dX7_takeSemicolon_15 (v := 1) (by decide) ?_
  refine v_vv hC (rest := []) m_a0 e_a0 rfl mi_X7_complain ms_X7_complain (a84_X7_complain m_a0 e_a0) mx_X7_complain ml_X7_81 (by decide) rfl (cells1 := 0) (slots1 := 0) (by decide) (by decide) (Nat.le_of_ble_eq_true rfl) (Nat.le_of_ble_eq_true rfl) rfl (Nat.le_of_ble_eq_true rfl) dX7_takeSemicolon_16 (fun L6 f7 h8 => ?_)
  obtain ⟨rfl, rfl⟩ := h8
  exact hR _ _ _ _ _ _ dX7_takeSemicolon_19 (Nat.le_of_ble_eq_true rfl) (Nat.le_of_ble_eq_true rfl) ⟨rfl, rfl⟩
set_option maxRecDepth 100000 in
set_option maxHeartbeats 4000000 in
theorem a98_X7_isWordOf {l : Launch} {E : Ez} {L : List Nat} {f : Nat → va_E} {a0 a1 a2 : Nat} (m_a0 : a0 ∈ L) (e_a0 : f a0 = ob 7 [.ref a2, .int 0, .int 4, .int 0, .int 0, .int 1, .int 0]) : CI l yX7_isWordOf cX7_isWordOf 3 .boolean 0 0 0 E [.ref a0, .ref a1] L f (fun r L1 f1 => 0 = r ∧ L = L1 ∧ f = f1) := by
  refine ci_of (by decide) (Nat.le_of_ble_eq_true rfl) (fun z hz hnm hC hR => ?_)
  have hC : Cx z E cX7_isWordOf RX7 3 0 0 0 := hC
  subst hz
  show V z E 3 0 0 L f 0 [(0, .ref a0), (1, .ref a1)] []
  refine v_aload_n hC dX7_isWordOf_0 rfl ?_
  refine v_get hC fl_X7_38 m_a0 e_a0 rfl dX7_isWordOf_1 ?_
  refine v_istore_n hC dX7_isWordOf_4 (by decide) (lv' := [(2, .int 0), (0, .ref a0), (1, .ref a1)]) rfl ?_
  refine v_iload_n hC dX7_isWordOf_5 rfl ?_
  refine v_aload_n hC dX7_isWordOf_6 rfl ?_
  refine v_get hC fl_X7_25 m_a0 e_a0 rfl dX7_isWordOf_7 ?_
  refine v_icmp_ge_t hC dX7_isWordOf_10 (tgt := 34) (by decide) (by decide) ?_
  refine v_aload_n hC dX7_isWordOf_34 rfl ?_
  refine v_get hC fl_X7_35 m_a0 e_a0 rfl dX7_isWordOf_35 ?_
  refine v_iconst hC dX7_isWordOf_38 (v := 1) (by decide) ?_
  refine v_icmp_ne_t hC dX7_isWordOf_39 (tgt := 46) (by decide) (by decide) ?_
  refine v_iconst hC dX7_isWordOf_46 (v := 0) (by decide) ?_
  exact hR _ _ _ _ _ _ _ dX7_isWordOf_47 rfl (Nat.le_of_ble_eq_true rfl) (Nat.le_of_ble_eq_true rfl) ⟨rfl, rfl, rfl⟩
set_option maxRecDepth 100000 in
set_option maxHeartbeats 4000000 in
theorem a98_X4_tellRow {l : Launch} {E : Ez} {L : List Nat} {f : Nat → va_E} {a0 a1 a4 : Nat} (m_a1 : a1 ∈ L) (e_a1 : f a1 = ob 7 [.ref a4, .int 0, .int 4, .int 0, .int 0, .int 1, .int 0]) : CV l yX4_tellRow cX4_tellRow 3 3 0 0 E [.ref a0, .ref a1, .int 0] L f (fun L1 f1 => L = L1 ∧ f = f1) := by
  refine cv_of (by decide) (Nat.le_of_ble_eq_true rfl) (fun z hz hnm hC hR => ?_)
  have hC : Cx z E cX4_tellRow RX4 3 3 0 0 := hC
  subst hz
  show V z E 3 0 0 L f 0 [(0, .ref a0), (1, .ref a1), (2, .int 0)] []
  refine v_iload_n hC dX4_tellRow_0 rfl ?_
  refine v_bipush hC dX4_tellRow_1 (v := 8) (by decide) ?_
  refine v_icmp_ne_t hC dX4_tellRow_3 (tgt := 20) (by decide) (by decide) ?_
  refine v_aload_n hC dX4_tellRow_20 rfl ?_
  refine v_ldcS hC sr_X4_87 dX4_tellRow_21 ?_
  refine v_vv hC (rest := []) m_a1 e_a1 rfl mi_X7_takeWord ms_X7_takeWord (a90_X7_takeWord m_a1 e_a1) mx_X7_takeWord ml_X4_57 (by decide) rfl (cells1 := 0) (slots1 := 0) (by decide) (by decide) (Nat.le_of_ble_eq_true rfl) (Nat.le_of_ble_eq_true rfl) rfl (Nat.le_of_ble_eq_true rfl) dX4_tellRow_23 (fun L2 f3 h4 => ?_)
  obtain ⟨rfl, rfl⟩ := h4
  refine v_aload_n hC dX4_tellRow_26 rfl ?_
  refine v_ldcS hC sr_X4_96 dX4_tellRow_27 ?_
  refine v_vi hC (rest := []) m_a1 e_a1 rfl mi_X7_isWordOf ms_X7_isWordOf (a98_X7_isWordOf m_a1 e_a1) mx_X7_isWordOf ml_X4_98 (by decide) rfl (cells1 := 0) (slots1 := 0) (by decide) (by decide) (Nat.le_of_ble_eq_true rfl) (Nat.le_of_ble_eq_true rfl) rfl (Nat.le_of_ble_eq_true rfl) dX4_tellRow_29 (fun r5 L6 f7 h8 => ?_)
  obtain ⟨rfl, rfl, rfl⟩ := h8
  refine v_if_eq_t hC dX4_tellRow_32 (tgt := 57) (by decide) (by decide) ?_
  refine v_aload_n hC dX4_tellRow_57 rfl ?_
  refine v_iconst hC dX4_tellRow_58 (v := 1) (by decide) ?_
  refine v_vv hC (rest := []) m_a1 e_a1 rfl mi_X7_complain ms_X7_complain (a84_X7_complain m_a1 e_a1) mx_X7_complain ml_X4_93 (by decide) rfl (cells1 := 0) (slots1 := 0) (by decide) (by decide) (Nat.le_of_ble_eq_true rfl) (Nat.le_of_ble_eq_true rfl) rfl (Nat.le_of_ble_eq_true rfl) dX4_tellRow_59 (fun L10 f11 h12 => ?_)
  obtain ⟨rfl, rfl⟩ := h12
  refine v_aload_n hC dX4_tellRow_62 rfl ?_
  refine v_vv hC (rest := []) m_a1 e_a1 rfl mi_X7_takeSemicolon ms_X7_takeSemicolon (a94_X7_takeSemicolon m_a1 e_a1) mx_X7_takeSemicolon ml_X4_66 (by decide) rfl (cells1 := 0) (slots1 := 0) (by decide) (by decide) (Nat.le_of_ble_eq_true rfl) (Nat.le_of_ble_eq_true rfl) rfl (Nat.le_of_ble_eq_true rfl) dX4_tellRow_63 (fun L14 f15 h16 => ?_)
  obtain ⟨rfl, rfl⟩ := h16
  exact hR _ _ _ _ _ _ dX4_tellRow_66 (Nat.le_of_ble_eq_true rfl) (Nat.le_of_ble_eq_true rfl) ⟨rfl, rfl⟩
set_option maxRecDepth 100000 in
set_option maxHeartbeats 4000000 in
theorem a102_X7_goesOn {l : Launch} {E : Ez} {L : List Nat} {f : Nat → va_E} {a0 a1 : Nat} (m_a0 : a0 ∈ L) (e_a0 : f a0 = ob 7 [.ref a1, .int 0, .int 4, .int 0, .int 0, .int 1, .int 0]) : CI l yX7_goesOn cX7_goesOn 1 .boolean 1 0 0 E [.ref a0] L f (fun r L1 f1 => 0 = r ∧ L = L1 ∧ f = f1) := by
  refine ci_of (by decide) (Nat.le_of_ble_eq_true rfl) (fun z hz hnm hC hR => ?_)
  have hC : Cx z E cX7_goesOn RX7 1 1 0 0 := hC
  subst hz
  show V z E 1 0 0 L f 0 [(0, .ref a0)] []
  refine v_aload_n hC dX7_goesOn_0 rfl ?_
  refine v_vi hC (rest := []) m_a0 e_a0 rfl mi_X7_isFine ms_X7_isFine (a84_X7_isFine m_a0 e_a0) mx_X7_isFine ml_X7_31 (by decide) rfl (cells1 := 0) (slots1 := 0) (by decide) (by decide) (Nat.le_of_ble_eq_true rfl) (Nat.le_of_ble_eq_true rfl) rfl (Nat.le_of_ble_eq_true rfl) dX7_goesOn_1 (fun r1 L2 f3 h4 => ?_)
  obtain ⟨rfl, rfl, rfl⟩ := h4
  refine v_if_eq_t hC dX7_goesOn_4 (tgt := 18) (by decide) (by decide) ?_
  refine v_iconst hC dX7_goesOn_18 (v := 0) (by decide) ?_
  exact hR _ _ _ _ _ _ _ dX7_goesOn_19 rfl (Nat.le_of_ble_eq_true rfl) (Nat.le_of_ble_eq_true rfl) ⟨rfl, rfl, rfl⟩
set_option maxRecDepth 100000 in
set_option maxHeartbeats 4000000 in
theorem a66_X4_tell {l : Launch} {E : Ez} {L : List Nat} {f : Nat → va_E} {a0 a1 a2 a3 a4 : Nat} (m_a1 : a1 ∈ L) (e_a1 : f a1 = ob 7 [.ref a4, .int 0, .int 0, .int 0, .int 0, .int 0, .int (-1)]) (m_a0 : a0 ∈ L) (e_a0 : f a0 = ob 4 [.ref a2, .ref a3, .int 0, .int 0, .int 0]) : CI l yX4_tell cX4_tell 3 .boolean 4 0 0 E [.ref a0, .ref a1] L f (fun r L1 f1 => 0 = r ∧ L = L1 ∧ f1 a1 = ob 7 [.ref a4, .int 0, .int 4, .int 0, .int 0, .int 1, .int 0] ∧ f1 a0 = ob 4 [.ref a2, .ref a3, .int 1, .int 1, .int 0] ∧ ∀ b, b ≠ a1 → b ≠ a0 → f1 b = f b) := by
  refine ci_of (by decide) (Nat.le_of_ble_eq_true rfl) (fun z hz hnm hC hR => ?_)
  have hC : Cx z E cX4_tell RX4 3 4 0 0 := hC
  subst hz
  show V z E 3 0 0 L f 0 [(0, .ref a0), (1, .ref a1)] []
  refine v_aload_n hC dX4_tell_0 rfl ?_
  refine v_vv hC (rest := []) m_a1 e_a1 rfl mi_X7_start ms_X7_start (a66_X7_start m_a1 e_a1) mx_X7_start ml_X4_51 (by decide) rfl (cells1 := 0) (slots1 := 0) (by decide) (by decide) (Nat.le_of_ble_eq_true rfl) (Nat.le_of_ble_eq_true rfl) rfl (Nat.le_of_ble_eq_true rfl) dX4_tell_1 (fun L2 f3 h4 => ?_)
  obtain ⟨rfl, hf5, hk6⟩ := h4
  have hf7 := (hk6 a0 (ne_kd e_a0 e_a1 rfl)).trans e_a0
  refine v_aload_n hC dX4_tell_4 rfl ?_
  refine v_ldcS hC sr_X4_56 dX4_tell_5 ?_
  refine v_vv hC (rest := []) m_a1 hf5 rfl mi_X7_takeWord ms_X7_takeWord (a76_X7_takeWord m_a1 hf5) mx_X7_takeWord ml_X4_57 (by decide) rfl (cells1 := 0) (slots1 := 0) (by decide) (by decide) (Nat.le_of_ble_eq_true rfl) (Nat.le_of_ble_eq_true rfl) rfl (Nat.le_of_ble_eq_true rfl) dX4_tell_7 (fun L9 f10 h11 => ?_)
  obtain ⟨rfl, hf12, hk13⟩ := h11
  have hf14 := (hk13 a0 (ne_kd hf7 hf5 rfl)).trans hf7
  refine v_aload_n hC dX4_tell_10 rfl ?_
  refine v_aload_n hC dX4_tell_11 rfl ?_
  refine v_iconst hC dX4_tell_12 (v := 1) (by decide) ?_
  refine v_bipush hC dX4_tell_13 (v := 16) (by decide) ?_
  refine v_vi hC (rest := [.ref a0]) m_a1 hf12 rfl mi_X7_takeNumber ms_X7_takeNumber (a82_X7_takeNumber m_a1 hf12) mx_X7_takeNumber ml_X4_61 (by decide) rfl (cells1 := 0) (slots1 := 0) (by decide) (by decide) (Nat.le_of_ble_eq_true rfl) (Nat.le_of_ble_eq_true rfl) rfl (Nat.le_of_ble_eq_true rfl) dX4_tell_15 (fun r15 L16 f17 h18 => ?_)
  obtain ⟨rfl, rfl, rfl⟩ := h18
  refine v_put hC fl_X4_22 m_a0 hf14 rfl rfl (Nat.le_of_ble_eq_true rfl) (fs' := [.ref a2, .ref a3, .int 1, .int 0, .int 0]) rfl dX4_tell_18 (fun f19 hf20 hk21 => ?_)
  have hf22 := (hk21 a1 (ne_kd hf12 hf14 rfl)).trans hf12
  refine v_aload_n hC dX4_tell_21 rfl ?_
  refine v_ldcS hC sr_X4_64 dX4_tell_22 ?_
  refine v_vv hC (rest := []) m_a1 hf22 rfl mi_X7_takeWord ms_X7_takeWord (a90_X7_takeWord m_a1 hf22) mx_X7_takeWord ml_X4_57 (by decide) rfl (cells1 := 0) (slots1 := 0) (by decide) (by decide) (Nat.le_of_ble_eq_true rfl) (Nat.le_of_ble_eq_true rfl) rfl (Nat.le_of_ble_eq_true rfl) dX4_tell_24 (fun L24 f25 h26 => ?_)
  obtain ⟨rfl, rfl⟩ := h26
  refine v_aload_n hC dX4_tell_27 rfl ?_
  refine v_aload_n hC dX4_tell_28 rfl ?_
  refine v_iconst hC dX4_tell_29 (v := 1) (by decide) ?_
  refine v_bipush hC dX4_tell_30 (v := 16) (by decide) ?_
  refine v_vi hC (rest := [.ref a0]) m_a1 hf22 rfl mi_X7_takeNumber ms_X7_takeNumber (a82_X7_takeNumber m_a1 hf22) mx_X7_takeNumber ml_X4_61 (by decide) rfl (cells1 := 0) (slots1 := 0) (by decide) (by decide) (Nat.le_of_ble_eq_true rfl) (Nat.le_of_ble_eq_true rfl) rfl (Nat.le_of_ble_eq_true rfl) dX4_tell_32 (fun r27 L28 f29 h30 => ?_)
  obtain ⟨rfl, rfl, rfl⟩ := h30
  refine v_put hC fl_X4_18 m_a0 hf20 rfl rfl (Nat.le_of_ble_eq_true rfl) (fs' := [.ref a2, .ref a3, .int 1, .int 1, .int 0]) rfl dX4_tell_35 (fun f31 hf32 hk33 => ?_)
  have hf34 := (hk33 a1 (ne_kd hf22 hf20 rfl)).trans hf22
  refine v_aload_n hC dX4_tell_38 rfl ?_
  refine v_vv hC (rest := []) m_a1 hf34 rfl mi_X7_takeSemicolon ms_X7_takeSemicolon (a94_X7_takeSemicolon m_a1 hf34) mx_X7_takeSemicolon ml_X4_66 (by decide) rfl (cells1 := 0) (slots1 := 0) (by decide) (by decide) (Nat.le_of_ble_eq_true rfl) (Nat.le_of_ble_eq_true rfl) rfl (Nat.le_of_ble_eq_true rfl) dX4_tell_39 (fun L36 f37 h38 => ?_)
  obtain ⟨rfl, rfl⟩ := h38
  refine v_aload_n hC dX4_tell_42 rfl ?_
  refine v_aload_n hC dX4_tell_43 rfl ?_
  refine v_iconst hC dX4_tell_44 (v := 0) (by decide) ?_
  refine v_vv hC (rest := []) m_a0 hf32 rfl mi_X4_tellRow ms_X4_tellRow (a98_X4_tellRow m_a1 hf34) mx_X4_tellRow ml_X4_69 (by decide) rfl (cells1 := 0) (slots1 := 0) (by decide) (by decide) (Nat.le_of_ble_eq_true rfl) (Nat.le_of_ble_eq_true rfl) rfl (Nat.le_of_ble_eq_true rfl) dX4_tell_45 (fun L40 f41 h42 => ?_)
  obtain ⟨rfl, rfl⟩ := h42
  refine v_iconst hC dX4_tell_48 (v := 1) (by decide) ?_
  refine v_istore_n hC dX4_tell_49 (by decide) (lv' := [(2, .int 1), (0, .ref a0), (1, .ref a1)]) rfl ?_
  refine v_iload_n hC dX4_tell_50 rfl ?_
  refine v_bipush hC dX4_tell_51 (v := 8) (by decide) ?_
  refine v_icmp_gt_f hC dX4_tell_53 (tgt := 75) (by decide) (by decide) ?_
  refine v_aload_n hC dX4_tell_56 rfl ?_
  refine v_vi hC (rest := []) m_a1 hf34 rfl mi_X7_goesOn ms_X7_goesOn (a102_X7_goesOn m_a1 hf34) mx_X7_goesOn ml_X4_73 (by decide) rfl (cells1 := 0) (slots1 := 0) (by decide) (by decide) (Nat.le_of_ble_eq_true rfl) (Nat.le_of_ble_eq_true rfl) rfl (Nat.le_of_ble_eq_true rfl) dX4_tell_57 (fun r43 L44 f45 h46 => ?_)
  obtain ⟨rfl, rfl, rfl⟩ := h46
  refine v_if_eq_t hC dX4_tell_60 (tgt := 75) (by decide) (by decide) ?_
  refine v_aload_n hC dX4_tell_75 rfl ?_
  refine v_vi hC (rest := []) m_a1 hf34 rfl mi_X7_isFine ms_X7_isFine (a84_X7_isFine m_a1 hf34) mx_X7_isFine ml_X4_77 (by decide) rfl (cells1 := 0) (slots1 := 0) (by decide) (by decide) (Nat.le_of_ble_eq_true rfl) (Nat.le_of_ble_eq_true rfl) rfl (Nat.le_of_ble_eq_true rfl) dX4_tell_76 (fun r47 L48 f49 h50 => ?_)
  obtain ⟨rfl, rfl, rfl⟩ := h50
  refine v_if_eq_t hC dX4_tell_79 (tgt := 91) (by decide) (by decide) ?_
  refine v_aload_n hC dX4_tell_91 rfl ?_
  refine v_vi hC (rest := []) m_a1 hf34 rfl mi_X7_isFine ms_X7_isFine (a84_X7_isFine m_a1 hf34) mx_X7_isFine ml_X4_77 (by decide) rfl (cells1 := 0) (slots1 := 0) (by decide) (by decide) (Nat.le_of_ble_eq_true rfl) (Nat.le_of_ble_eq_true rfl) rfl (Nat.le_of_ble_eq_true rfl) dX4_tell_92 (fun r51 L52 f53 h54 => ?_)
  obtain ⟨rfl, rfl, rfl⟩ := h54
  exact hR _ _ _ _ _ _ _ dX4_tell_95 rfl (Nat.le_of_ble_eq_true rfl) (Nat.le_of_ble_eq_true rfl) ⟨rfl, rfl, hf34, hf32, fun b n0 n1 => ((hk33 b n1).trans ((hk21 b n1).trans ((hk13 b n0).trans (hk6 b n0))))⟩
set_option maxRecDepth 100000 in
set_option maxHeartbeats 4000000 in
theorem a106_X7_empty {l : Launch} {E : Ez} {L : List Nat} {f : Nat → va_E} {a0 a1 : Nat} (m_a0 : a0 ∈ L) (e_a0 : f a0 = ob 7 [.ref a1, .int 0, .int 4, .int 0, .int 0, .int 1, .int 0]) : CV l yX7_empty cX7_empty 1 0 0 0 E [.ref a0] L f (fun L1 f1 => L = L1 ∧ f1 a0 = ob 7 [.ref a1, .int 0, .int 4, .int 0, .int 0, .int 1, .int 0] ∧ ∀ b, b ≠ a0 → f1 b = f b) := by
  refine cv_of (by decide) (Nat.le_of_ble_eq_true rfl) (fun z hz hnm hC hR => ?_)
  have hC : Cx z E cX7_empty RX7 1 0 0 0 := hC
  subst hz
  show V z E 1 0 0 L f 0 [(0, .ref a0)] []
  refine v_aload_n hC dX7_empty_0 rfl ?_
  refine v_iconst hC dX7_empty_1 (v := 0) (by decide) ?_
  refine v_put hC fl_X7_19 m_a0 e_a0 rfl rfl (Nat.le_of_ble_eq_true rfl) (fs' := [.ref a1, .int 0, .int 4, .int 0, .int 0, .int 1, .int 0]) rfl dX7_empty_2 (fun f1 hf2 hk3 => ?_)
  exact hR _ _ _ _ _ _ dX7_empty_5 (Nat.le_of_ble_eq_true rfl) (Nat.le_of_ble_eq_true rfl) ⟨rfl, hf2, fun b n0 => (hk3 b n0)⟩
set_option maxRecDepth 100000 in
set_option maxHeartbeats 4000000 in
theorem x_pattern {l : Launch} {E : Ez} {L : List Nat} {f : Nat → va_E} {he im la nl now np npf nps ns nw nwa sl t ta tb tr wa x : Nat} (m_x : x ∈ L) (e_x : f x = ob 11 [.ref t, .ref now, .ref im, .ref la, .ref sl, .ref np, .ref ns, .ref nw, .ref nwa, .ref nl, .ref he, .ref wa, .ref tr, .ref ta]) (m_t : t ∈ L) (e_t : f t = ob 7 [.ref tb, .int 0, .int 0, .int 0, .int 0, .int 0, .int (-1)]) (m_np : np ∈ L) (e_np : f np = ob 4 [.ref nps, .ref npf, .int 0, .int 0, .int 0]) : CI l yX11_pattern cX11_pattern 2 .int 5 0 0 E [.ref x] L f (fun r L1 f1 => (-4 : Int32) = r) := by
  refine ci_of (by decide) (Nat.le_of_ble_eq_true rfl) (fun z hz hnm hC hR => ?_)
  have hC : Cx z E cX11_pattern RX11 2 5 0 0 := hC
  subst hz
  show V z E 2 0 0 L f 0 [(0, .ref x)] []
  refine v_aload_n hC dX11_pattern_0 rfl ?_
  refine v_get hC fl_X11_43 m_x e_x rfl dX11_pattern_1 ?_
  refine v_aload_n hC dX11_pattern_4 rfl ?_
  refine v_get hC fl_X11_12 m_x e_x rfl dX11_pattern_5 ?_
  refine v_vi hC (rest := []) m_np e_np rfl mi_X4_tell ms_X4_tell (a66_X4_tell m_t e_t m_np e_np) mx_X4_tell ml_X11_109 (by decide) rfl (cells1 := 0) (slots1 := 0) (by decide) (by decide) (Nat.le_of_ble_eq_true rfl) (Nat.le_of_ble_eq_true rfl) rfl (Nat.le_of_ble_eq_true rfl) dX11_pattern_8 (fun r1 L2 f3 h4 => ?_)
  obtain ⟨rfl, rfl, hf5, hf6, hk7⟩ := h4
  have hf8 := (hk7 x (ne_kd e_x e_t rfl) (ne_kd e_x e_np rfl)).trans e_x
  refine v_istore_n hC dX11_pattern_11 (by decide) (lv' := [(1, .int 0), (0, .ref x)]) rfl ?_
  refine v_aload_n hC dX11_pattern_12 rfl ?_
  refine v_get hC fl_X11_12 m_x hf8 rfl dX11_pattern_13 ?_
  refine v_vv hC (rest := []) m_t hf5 rfl mi_X7_empty ms_X7_empty (a106_X7_empty m_t hf5) mx_X7_empty ml_X11_113 (by decide) rfl (cells1 := 0) (slots1 := 0) (by decide) (by decide) (Nat.le_of_ble_eq_true rfl) (Nat.le_of_ble_eq_true rfl) rfl (Nat.le_of_ble_eq_true rfl) dX11_pattern_16 (fun L10 f11 h12 => ?_)
  obtain ⟨rfl, hf13, hk14⟩ := h12
  have hf15 := (hk14 x (ne_kd hf8 hf5 rfl)).trans hf8
  have hf16 := (hk14 np (ne_kd hf6 hf5 rfl)).trans hf6
  refine v_iload_n hC dX11_pattern_19 rfl ?_
  refine v_if_ne_f hC dX11_pattern_20 (tgt := 26) (by decide) (by decide) ?_
  refine v_bipush hC dX11_pattern_23 (v := (-4)) (by decide) ?_
  exact hR _ _ _ _ _ _ _ dX11_pattern_25 rfl (Nat.le_of_ble_eq_true rfl) (Nat.le_of_ble_eq_true rfl) rfl
set_option maxRecDepth 100000 in
set_option maxHeartbeats 4000000 in
theorem a109_X7_takeNumber {l : Launch} {E : Ez} {L : List Nat} {f : Nat → va_E} {a0 a1 : Nat} (m_a0 : a0 ∈ L) (e_a0 : f a0 = ob 7 [.ref a1, .int 0, .int 4, .int 0, .int 0, .int 1, .int 0]) : CI l yX7_takeNumber cX7_takeNumber 4 .int 2 0 0 E [.ref a0, .int 0, .int 100] L f (fun r L1 f1 => 0 = r ∧ L = L1 ∧ f = f1) := by
  refine ci_of (by decide) (Nat.le_of_ble_eq_true rfl) (fun z hz hnm hC hR => ?_)
  have hC : Cx z E cX7_takeNumber RX7 4 2 0 0 := hC
  subst hz
  show V z E 4 0 0 L f 0 [(0, .ref a0), (1, .int 0), (2, .int 100)] []
  refine v_aload_n hC dX7_takeNumber_0 rfl ?_
  refine v_vi hC (rest := []) m_a0 e_a0 rfl mi_X7_isNumber ms_X7_isNumber (a82_X7_isNumber m_a0 e_a0) mx_X7_isNumber ml_X7_58 (by decide) rfl (cells1 := 0) (slots1 := 0) (by decide) (by decide) (Nat.le_of_ble_eq_true rfl) (Nat.le_of_ble_eq_true rfl) rfl (Nat.le_of_ble_eq_true rfl) dX7_takeNumber_1 (fun r1 L2 f3 h4 => ?_)
  obtain ⟨rfl, rfl, rfl⟩ := h4
  refine v_if_ne_f hC dX7_takeNumber_4 (tgt := 14) (by decide) (by decide) ?_
  refine v_aload_n hC dX7_takeNumber_7 rfl ?_
  refine v_iconst hC dX7_takeNumber_8 (v := 1) (by decide) ?_
  refine v_vv hC (rest := []) m_a0 e_a0 rfl mi_X7_complain ms_X7_complain (a84_X7_complain m_a0 e_a0) mx_X7_complain ml_X7_81 (by decide) rfl (cells1 := 0) (slots1 := 0) (by decide) (by decide) (Nat.le_of_ble_eq_true rfl) (Nat.le_of_ble_eq_true rfl) rfl (Nat.le_of_ble_eq_true rfl) dX7_takeNumber_9 (fun L6 f7 h8 => ?_)
  obtain ⟨rfl, rfl⟩ := h8
  refine v_iload_n hC dX7_takeNumber_12 rfl ?_
  exact hR _ _ _ _ _ _ _ dX7_takeNumber_13 rfl (Nat.le_of_ble_eq_true rfl) (Nat.le_of_ble_eq_true rfl) ⟨rfl, rfl, rfl⟩
set_option maxRecDepth 100000 in
set_option maxHeartbeats 4000000 in
theorem a111_X7_takeEnd {l : Launch} {E : Ez} {L : List Nat} {f : Nat → va_E} {a0 a1 : Nat} (m_a0 : a0 ∈ L) (e_a0 : f a0 = ob 7 [.ref a1, .int 0, .int 4, .int 0, .int 0, .int 1, .int 0]) : CV l yX7_takeEnd cX7_takeEnd 1 2 0 0 E [.ref a0] L f (fun L1 f1 => L = L1 ∧ f = f1) := by
  refine cv_of (by decide) (Nat.le_of_ble_eq_true rfl) (fun z hz hnm hC hR => ?_)
  have hC : Cx z E cX7_takeEnd RX7 1 2 0 0 := hC
  subst hz
  show V z E 1 0 0 L f 0 [(0, .ref a0)] []
  refine v_aload_n hC dX7_takeEnd_0 rfl ?_
  refine v_get hC fl_X7_35 m_a0 e_a0 rfl dX7_takeEnd_1 ?_
  refine v_if_eq_f hC dX7_takeEnd_4 (tgt := 12) (by decide) (by decide) ?_
  refine v_aload_n hC dX7_takeEnd_7 rfl ?_
  refine v_iconst hC dX7_takeEnd_8 (v := 1) (by decide) ?_
  refine v_vv hC (rest := []) m_a0 e_a0 rfl mi_X7_complain ms_X7_complain (a84_X7_complain m_a0 e_a0) mx_X7_complain ml_X7_81 (by decide) rfl (cells1 := 0) (slots1 := 0) (by decide) (by decide) (Nat.le_of_ble_eq_true rfl) (Nat.le_of_ble_eq_true rfl) rfl (Nat.le_of_ble_eq_true rfl) dX7_takeEnd_9 (fun L2 f3 h4 => ?_)
  obtain ⟨rfl, rfl⟩ := h4
  exact hR _ _ _ _ _ _ dX7_takeEnd_12 (Nat.le_of_ble_eq_true rfl) (Nat.le_of_ble_eq_true rfl) ⟨rfl, rfl⟩
set_option maxRecDepth 100000 in
set_option maxHeartbeats 4000000 in
theorem a109_X11_tellHand {l : Launch} {E : Ez} {L : List Nat} {f : Nat → va_E} {a0 a1 a2 a3 a4 a5 a6 a7 a8 a9 a10 a11 a12 a13 a14 a15 : Nat} {g0 : Nat → Int32} (m_a0 : a0 ∈ L) (e_a0 : f a0 = ob 11 [.ref a1, .ref a2, .ref a3, .ref a4, .ref a5, .ref a6, .ref a7, .ref a8, .ref a9, .ref a10, .ref a11, .ref a12, .ref a13, .ref a14]) (m_a1 : a1 ∈ L) (e_a1 : f a1 = ob 7 [.ref a15, .int 0, .int 0, .int 0, .int 0, .int 0, .int (-1)]) (m_a7 : a7 ∈ L) (e_a7 : f a7 = aI E 3 g0) : CI l yX11_tellHand cX11_tellHand 2 .boolean 3 0 0 E [.ref a0] L f (fun r L1 f1 => 0 = r ∧ L = L1 ∧ f1 a1 = ob 7 [.ref a15, .int 0, .int 4, .int 0, .int 0, .int 1, .int 0] ∧ (∃ g9, f1 a7 = aI E 3 g9) ∧ ∀ b, b ≠ a1 → b ≠ a7 → f1 b = f b) := by
  refine ci_of (by decide) (Nat.le_of_ble_eq_true rfl) (fun z hz hnm hC hR => ?_)
  have hC : Cx z E cX11_tellHand RX11 2 3 0 0 := hC
  subst hz
  show V z E 2 0 0 L f 0 [(0, .ref a0)] []
  refine v_aload_n hC dX11_tellHand_0 rfl ?_
  refine v_get hC fl_X11_12 m_a0 e_a0 rfl dX11_tellHand_1 ?_
  refine v_vv hC (rest := []) m_a1 e_a1 rfl mi_X7_start ms_X7_start (a66_X7_start m_a1 e_a1) mx_X7_start ml_X11_387 (by decide) rfl (cells1 := 0) (slots1 := 0) (by decide) (by decide) (Nat.le_of_ble_eq_true rfl) (Nat.le_of_ble_eq_true rfl) rfl (Nat.le_of_ble_eq_true rfl) dX11_tellHand_4 (fun L2 f3 h4 => ?_)
  obtain ⟨rfl, hf5, hk6⟩ := h4
  have hf7 := (hk6 a0 (ne_kd e_a0 e_a1 rfl)).trans e_a0
  have hf8 := (hk6 a7 (ne_kd e_a7 e_a1 rfl)).trans e_a7
  refine v_aload_n hC dX11_tellHand_7 rfl ?_
  refine v_get hC fl_X11_12 m_a0 hf7 rfl dX11_tellHand_8 ?_
  refine v_ldcwS hC sr_X11_390 dX11_tellHand_11 ?_
  refine v_vv hC (rest := []) m_a1 hf5 rfl mi_X7_takeWord ms_X7_takeWord (a76_X7_takeWord m_a1 hf5) mx_X7_takeWord ml_X11_392 (by decide) rfl (cells1 := 0) (slots1 := 0) (by decide) (by decide) (Nat.le_of_ble_eq_true rfl) (Nat.le_of_ble_eq_true rfl) rfl (Nat.le_of_ble_eq_true rfl) dX11_tellHand_14 (fun L10 f11 h12 => ?_)
  obtain ⟨rfl, hf13, hk14⟩ := h12
  have hf15 := (hk14 a0 (ne_kd hf7 hf5 rfl)).trans hf7
  have hf16 := (hk14 a7 (ne_kd hf8 hf5 rfl)).trans hf8
  refine v_iconst hC dX11_tellHand_17 (v := 0) (by decide) ?_
  refine v_istore_n hC dX11_tellHand_18 (by decide) (lv' := [(1, .int 0), (0, .ref a0)]) rfl ?_
  refine v_iload_n hC dX11_tellHand_19 rfl ?_
  refine v_iconst hC dX11_tellHand_20 (v := 3) (by decide) ?_
  refine v_icmp_ge_f hC dX11_tellHand_21 (tgt := 77) (by decide) (by decide) ?_
  refine v_aload_n hC dX11_tellHand_24 rfl ?_
  refine v_get hC fl_X11_12 m_a0 hf15 rfl dX11_tellHand_25 ?_
  refine v_iload_n hC dX11_tellHand_28 rfl ?_
  refine v_if_ne_f hC dX11_tellHand_29 (tgt := 38) (by decide) (by decide) ?_
  refine v_ldcwS hC sr_X11_396 dX11_tellHand_32 ?_
  refine v_goto hC dX11_tellHand_35 (tgt := 52) (by decide) ?_
  refine v_vv hC (rest := []) m_a1 hf13 rfl mi_X7_takeWord ms_X7_takeWord (a90_X7_takeWord m_a1 hf13) mx_X7_takeWord ml_X11_392 (by decide) rfl (cells1 := 0) (slots1 := 0) (by decide) (by decide) (Nat.le_of_ble_eq_true rfl) (Nat.le_of_ble_eq_true rfl) rfl (Nat.le_of_ble_eq_true rfl) dX11_tellHand_52 (fun L18 f19 h20 => ?_)
  obtain ⟨rfl, rfl⟩ := h20
  refine v_aload_n hC dX11_tellHand_55 rfl ?_
  refine v_get hC fl_X11_47 m_a0 hf15 rfl dX11_tellHand_56 ?_
  refine v_iload_n hC dX11_tellHand_59 rfl ?_
  refine v_aload_n hC dX11_tellHand_60 rfl ?_
  refine v_get hC fl_X11_12 m_a0 hf15 rfl dX11_tellHand_61 ?_
  refine v_iconst hC dX11_tellHand_64 (v := 0) (by decide) ?_
  refine v_bipush hC dX11_tellHand_65 (v := 100) (by decide) ?_
  refine v_vi hC (rest := [.int 0, .ref a7]) m_a1 hf13 rfl mi_X7_takeNumber ms_X7_takeNumber (a109_X7_takeNumber m_a1 hf13) mx_X7_takeNumber ml_X11_402 (by decide) rfl (cells1 := 0) (slots1 := 0) (by decide) (by decide) (Nat.le_of_ble_eq_true rfl) (Nat.le_of_ble_eq_true rfl) rfl (Nat.le_of_ble_eq_true rfl) dX11_tellHand_67 (fun r21 L22 f23 h24 => ?_)
  obtain ⟨rfl, rfl, rfl⟩ := h24
  refine v_iast hC m_a7 hf16 (by unfold vp_in; decide) dX11_tellHand_70 (fun f25 hf26 hk27 => ?_)
  obtain ⟨g28, hf26⟩ : ∃ g9, f25 a7 = aI E 3 g9 := ⟨_, hf26⟩
  have hf29 := (hk27 a0 (ne_kd hf15 hf16 rfl)).trans hf15
  have hf30 := (hk27 a1 (ne_kd hf13 hf16 rfl)).trans hf13
  refine v_iinc hC dX11_tellHand_71 (k := 0) rfl (v := 1) (by decide) (by decide) (lv' := [(1, .int 1), (0, .ref a0)]) rfl ?_
  refine v_goto hC dX11_tellHand_74 (tgt := 19) (by decide) ?_
  refine v_iload_n hC dX11_tellHand_19 rfl ?_
  refine v_iconst hC dX11_tellHand_20 (v := 3) (by decide) ?_
  refine v_icmp_ge_f hC dX11_tellHand_21 (tgt := 77) (by decide) (by decide) ?_
  refine v_aload_n hC dX11_tellHand_24 rfl ?_
  refine v_get hC fl_X11_12 m_a0 hf29 rfl dX11_tellHand_25 ?_
  refine v_iload_n hC dX11_tellHand_28 rfl ?_
  refine v_if_ne_t hC dX11_tellHand_29 (tgt := 38) (by decide) (by decide) ?_
  refine v_iload_n hC dX11_tellHand_38 rfl ?_
  refine v_iconst hC dX11_tellHand_39 (v := 1) (by decide) ?_
  refine v_icmp_ne_f hC dX11_tellHand_40 (tgt := 49) (by decide) (by decide) ?_
  refine v_ldcwS hC sr_X11_398 dX11_tellHand_43 ?_
  refine v_goto hC dX11_tellHand_46 (tgt := 52) (by decide) ?_
  refine v_vv hC (rest := []) m_a1 hf30 rfl mi_X7_takeWord ms_X7_takeWord (a90_X7_takeWord m_a1 hf30) mx_X7_takeWord ml_X11_392 (by decide) rfl (cells1 := 0) (slots1 := 0) (by decide) (by decide) (Nat.le_of_ble_eq_true rfl) (Nat.le_of_ble_eq_true rfl) rfl (Nat.le_of_ble_eq_true rfl) dX11_tellHand_52 (fun L32 f33 h34 => ?_)
  obtain ⟨rfl, rfl⟩ := h34
  refine v_aload_n hC dX11_tellHand_55 rfl ?_
  refine v_get hC fl_X11_47 m_a0 hf29 rfl dX11_tellHand_56 ?_
  refine v_iload_n hC dX11_tellHand_59 rfl ?_
  refine v_aload_n hC dX11_tellHand_60 rfl ?_
  refine v_get hC fl_X11_12 m_a0 hf29 rfl dX11_tellHand_61 ?_
  refine v_iconst hC dX11_tellHand_64 (v := 0) (by decide) ?_
  refine v_bipush hC dX11_tellHand_65 (v := 100) (by decide) ?_
  refine v_vi hC (rest := [.int 1, .ref a7]) m_a1 hf30 rfl mi_X7_takeNumber ms_X7_takeNumber (a109_X7_takeNumber m_a1 hf30) mx_X7_takeNumber ml_X11_402 (by decide) rfl (cells1 := 0) (slots1 := 0) (by decide) (by decide) (Nat.le_of_ble_eq_true rfl) (Nat.le_of_ble_eq_true rfl) rfl (Nat.le_of_ble_eq_true rfl) dX11_tellHand_67 (fun r35 L36 f37 h38 => ?_)
  obtain ⟨rfl, rfl, rfl⟩ := h38
  refine v_iast hC m_a7 hf26 (by unfold vp_in; decide) dX11_tellHand_70 (fun f39 hf40 hk41 => ?_)
  obtain ⟨g42, hf40⟩ : ∃ g9, f39 a7 = aI E 3 g9 := ⟨_, hf40⟩
  have hf43 := (hk41 a0 (ne_kd hf29 hf26 rfl)).trans hf29
  have hf44 := (hk41 a1 (ne_kd hf30 hf26 rfl)).trans hf30
  refine v_iinc hC dX11_tellHand_71 (k := 0) rfl (v := 2) (by decide) (by decide) (lv' := [(1, .int 2), (0, .ref a0)]) rfl ?_
  refine v_goto hC dX11_tellHand_74 (tgt := 19) (by decide) ?_
  refine v_iload_n hC dX11_tellHand_19 rfl ?_
  refine v_iconst hC dX11_tellHand_20 (v := 3) (by decide) ?_
  refine v_icmp_ge_f hC dX11_tellHand_21 (tgt := 77) (by decide) (by decide) ?_
  refine v_aload_n hC dX11_tellHand_24 rfl ?_
  refine v_get hC fl_X11_12 m_a0 hf43 rfl dX11_tellHand_25 ?_
  refine v_iload_n hC dX11_tellHand_28 rfl ?_
  refine v_if_ne_t hC dX11_tellHand_29 (tgt := 38) (by decide) (by decide) ?_
  refine v_iload_n hC dX11_tellHand_38 rfl ?_
  refine v_iconst hC dX11_tellHand_39 (v := 1) (by decide) ?_
  refine v_icmp_ne_t hC dX11_tellHand_40 (tgt := 49) (by decide) (by decide) ?_
  refine v_ldcwS hC sr_X11_400 dX11_tellHand_49 ?_
  refine v_vv hC (rest := []) m_a1 hf44 rfl mi_X7_takeWord ms_X7_takeWord (a90_X7_takeWord m_a1 hf44) mx_X7_takeWord ml_X11_392 (by decide) rfl (cells1 := 0) (slots1 := 0) (by decide) (by decide) (Nat.le_of_ble_eq_true rfl) (Nat.le_of_ble_eq_true rfl) rfl (Nat.le_of_ble_eq_true rfl) dX11_tellHand_52 (fun L46 f47 h48 => ?_)
  obtain ⟨rfl, rfl⟩ := h48
  refine v_aload_n hC dX11_tellHand_55 rfl ?_
  refine v_get hC fl_X11_47 m_a0 hf43 rfl dX11_tellHand_56 ?_
  refine v_iload_n hC dX11_tellHand_59 rfl ?_
  refine v_aload_n hC dX11_tellHand_60 rfl ?_
  refine v_get hC fl_X11_12 m_a0 hf43 rfl dX11_tellHand_61 ?_
  refine v_iconst hC dX11_tellHand_64 (v := 0) (by decide) ?_
  refine v_bipush hC dX11_tellHand_65 (v := 100) (by decide) ?_
  refine v_vi hC (rest := [.int 2, .ref a7]) m_a1 hf44 rfl mi_X7_takeNumber ms_X7_takeNumber (a109_X7_takeNumber m_a1 hf44) mx_X7_takeNumber ml_X11_402 (by decide) rfl (cells1 := 0) (slots1 := 0) (by decide) (by decide) (Nat.le_of_ble_eq_true rfl) (Nat.le_of_ble_eq_true rfl) rfl (Nat.le_of_ble_eq_true rfl) dX11_tellHand_67 (fun r49 L50 f51 h52 => ?_)
  obtain ⟨rfl, rfl, rfl⟩ := h52
  refine v_iast hC m_a7 hf40 (by unfold vp_in; decide) dX11_tellHand_70 (fun f53 hf54 hk55 => ?_)
  obtain ⟨g56, hf54⟩ : ∃ g9, f53 a7 = aI E 3 g9 := ⟨_, hf54⟩
  have hf57 := (hk55 a0 (ne_kd hf43 hf40 rfl)).trans hf43
  have hf58 := (hk55 a1 (ne_kd hf44 hf40 rfl)).trans hf44
  refine v_iinc hC dX11_tellHand_71 (k := 0) rfl (v := 3) (by decide) (by decide) (lv' := [(1, .int 3), (0, .ref a0)]) rfl ?_
  refine v_goto hC dX11_tellHand_74 (tgt := 19) (by decide) ?_
  refine v_iload_n hC dX11_tellHand_19 rfl ?_
  refine v_iconst hC dX11_tellHand_20 (v := 3) (by decide) ?_
  refine v_icmp_ge_t hC dX11_tellHand_21 (tgt := 77) (by decide) (by decide) ?_
  refine v_aload_n hC dX11_tellHand_77 rfl ?_
  refine v_get hC fl_X11_12 m_a0 hf57 rfl dX11_tellHand_78 ?_
  refine v_vv hC (rest := []) m_a1 hf58 rfl mi_X7_takeSemicolon ms_X7_takeSemicolon (a94_X7_takeSemicolon m_a1 hf58) mx_X7_takeSemicolon ml_X11_405 (by decide) rfl (cells1 := 0) (slots1 := 0) (by decide) (by decide) (Nat.le_of_ble_eq_true rfl) (Nat.le_of_ble_eq_true rfl) rfl (Nat.le_of_ble_eq_true rfl) dX11_tellHand_81 (fun L60 f61 h62 => ?_)
  obtain ⟨rfl, rfl⟩ := h62
  refine v_aload_n hC dX11_tellHand_84 rfl ?_
  refine v_get hC fl_X11_12 m_a0 hf57 rfl dX11_tellHand_85 ?_
  refine v_vv hC (rest := []) m_a1 hf58 rfl mi_X7_takeEnd ms_X7_takeEnd (a111_X7_takeEnd m_a1 hf58) mx_X7_takeEnd ml_X11_408 (by decide) rfl (cells1 := 0) (slots1 := 0) (by decide) (by decide) (Nat.le_of_ble_eq_true rfl) (Nat.le_of_ble_eq_true rfl) rfl (Nat.le_of_ble_eq_true rfl) dX11_tellHand_88 (fun L64 f65 h66 => ?_)
  obtain ⟨rfl, rfl⟩ := h66
  refine v_aload_n hC dX11_tellHand_91 rfl ?_
  refine v_get hC fl_X11_12 m_a0 hf57 rfl dX11_tellHand_92 ?_
  refine v_vi hC (rest := []) m_a1 hf58 rfl mi_X7_isFine ms_X7_isFine (a84_X7_isFine m_a1 hf58) mx_X7_isFine ml_X11_411 (by decide) rfl (cells1 := 0) (slots1 := 0) (by decide) (by decide) (Nat.le_of_ble_eq_true rfl) (Nat.le_of_ble_eq_true rfl) rfl (Nat.le_of_ble_eq_true rfl) dX11_tellHand_95 (fun r67 L68 f69 h70 => ?_)
  obtain ⟨rfl, rfl, rfl⟩ := h70
  exact hR _ _ _ _ _ _ _ dX11_tellHand_98 rfl (Nat.le_of_ble_eq_true rfl) (Nat.le_of_ble_eq_true rfl) ⟨rfl, rfl, hf58, ⟨_, hf54⟩, fun b n0 n1 => ((hk55 b n1).trans ((hk41 b n1).trans ((hk27 b n1).trans ((hk14 b n0).trans (hk6 b n0)))))⟩
set_option maxRecDepth 100000 in
set_option maxHeartbeats 4000000 in
theorem x_hand {l : Launch} {E : Ez} {L : List Nat} {f : Nat → va_E} {he im la nl now np ns nw nwa sl t ta tb tr wa x : Nat} (m_x : x ∈ L) (e_x : f x = ob 11 [.ref t, .ref now, .ref im, .ref la, .ref sl, .ref np, .ref ns, .ref nw, .ref nwa, .ref nl, .ref he, .ref wa, .ref tr, .ref ta]) (m_t : t ∈ L) (e_t : f t = ob 7 [.ref tb, .int 0, .int 0, .int 0, .int 0, .int 0, .int (-1)]) (m_ns : ns ∈ L) (e_ns : f ns = aI E 3 (fun _ => 0)) : CI l yX11_hand cX11_hand 2 .int 4 0 0 E [.ref x] L f (fun r L1 f1 => (-4 : Int32) = r) := by
  refine ci_of (by decide) (Nat.le_of_ble_eq_true rfl) (fun z hz hnm hC hR => ?_)
  have hC : Cx z E cX11_hand RX11 2 4 0 0 := hC
  subst hz
  show V z E 2 0 0 L f 0 [(0, .ref x)] []
  refine v_aload_n hC dX11_hand_0 rfl ?_
  refine v_vi hC (rest := []) m_x e_x rfl mi_X11_tellHand ms_X11_tellHand (a109_X11_tellHand m_x e_x m_t e_t m_ns e_ns) mx_X11_tellHand ml_X11_129 (by decide) rfl (cells1 := 0) (slots1 := 0) (by decide) (by decide) (Nat.le_of_ble_eq_true rfl) (Nat.le_of_ble_eq_true rfl) rfl (Nat.le_of_ble_eq_true rfl) dX11_hand_1 (fun r1 L2 f3 h4 => ?_)
  obtain ⟨rfl, rfl, hf5, ⟨g8, hf6⟩, hk7⟩ := h4
  have hf9 := (hk7 x (ne_kd e_x e_t rfl) (ne_kd e_x e_ns rfl)).trans e_x
  refine v_istore_n hC dX11_hand_4 (by decide) (lv' := [(1, .int 0), (0, .ref x)]) rfl ?_
  refine v_aload_n hC dX11_hand_5 rfl ?_
  refine v_get hC fl_X11_12 m_x hf9 rfl dX11_hand_6 ?_
  refine v_vv hC (rest := []) m_t hf5 rfl mi_X7_empty ms_X7_empty (a106_X7_empty m_t hf5) mx_X7_empty ml_X11_113 (by decide) rfl (cells1 := 0) (slots1 := 0) (by decide) (by decide) (Nat.le_of_ble_eq_true rfl) (Nat.le_of_ble_eq_true rfl) rfl (Nat.le_of_ble_eq_true rfl) dX11_hand_9 (fun L11 f12 h13 => ?_)
  obtain ⟨rfl, hf14, hk15⟩ := h13
  have hf16 := (hk15 x (ne_kd hf9 hf5 rfl)).trans hf9
  have hf17 := (hk15 ns (ne_kd hf6 hf5 rfl)).trans hf6
  refine v_iload_n hC dX11_hand_12 rfl ?_
  refine v_if_ne_f hC dX11_hand_13 (tgt := 19) (by decide) (by decide) ?_
  refine v_bipush hC dX11_hand_16 (v := (-4)) (by decide) ?_
  exact hR _ _ _ _ _ _ _ dX11_hand_18 rfl (Nat.le_of_ble_eq_true rfl) (Nat.le_of_ble_eq_true rfl) rfl
set_option maxRecDepth 100000 in
set_option maxHeartbeats 4000000 in
theorem a116_X7_wordLength {l : Launch} {E : Ez} {L : List Nat} {f : Nat → va_E} {a0 a1 : Nat} (m_a0 : a0 ∈ L) (e_a0 : f a0 = ob 7 [.ref a1, .int 0, .int 4, .int 0, .int 0, .int 1, .int 0]) : CI l yX7_wordLength cX7_wordLength 1 .int 0 0 0 E [.ref a0] L f (fun r L1 f1 => 0 = r ∧ L = L1 ∧ f = f1) := by
  refine ci_of (by decide) (Nat.le_of_ble_eq_true rfl) (fun z hz hnm hC hR => ?_)
  have hC : Cx z E cX7_wordLength RX7 1 0 0 0 := hC
  subst hz
  show V z E 1 0 0 L f 0 [(0, .ref a0)] []
  refine v_aload_n hC dX7_wordLength_0 rfl ?_
  refine v_get hC fl_X7_35 m_a0 e_a0 rfl dX7_wordLength_1 ?_
  refine v_iconst hC dX7_wordLength_4 (v := 1) (by decide) ?_
  refine v_icmp_ne_t hC dX7_wordLength_5 (tgt := 20) (by decide) (by decide) ?_
  refine v_iconst hC dX7_wordLength_20 (v := 0) (by decide) ?_
  exact hR _ _ _ _ _ _ _ dX7_wordLength_21 rfl (Nat.le_of_ble_eq_true rfl) (Nat.le_of_ble_eq_true rfl) ⟨rfl, rfl, rfl⟩
set_option maxRecDepth 100000 in
set_option maxHeartbeats 4000000 in
theorem a116_X10_tellSorts {l : Launch} {E : Ez} {L : List Nat} {f : Nat → va_E} {a0 a1 a2 : Nat} (m_a0 : a0 ∈ L) (e_a0 : f a0 = ob 10 [.int 1, .int 0, .int 1, .int 1, .int 1, .int 0, .int 0]) (m_a1 : a1 ∈ L) (e_a1 : f a1 = ob 7 [.ref a2, .int 0, .int 4, .int 0, .int 0, .int 1, .int 0]) : CV l yX10_tellSorts cX10_tellSorts 5 2 0 0 E [.ref a0, .ref a1] L f (fun L1 f1 => L = L1 ∧ f1 a0 = ob 10 [.int 1, .int 0, .int 1, .int 1, .int 1, .int 0, .int 0] ∧ ∀ b, b ≠ a0 → f1 b = f b) := by
  refine cv_of (by decide) (Nat.le_of_ble_eq_true rfl) (fun z hz hnm hC hR => ?_)
  have hC : Cx z E cX10_tellSorts RX10 5 2 0 0 := hC
  subst hz
  show V z E 5 0 0 L f 0 [(0, .ref a0), (1, .ref a1)] []
  refine v_aload_n hC dX10_tellSorts_0 rfl ?_
  refine v_iconst hC dX10_tellSorts_1 (v := 0) (by decide) ?_
  refine v_put hC fl_X10_25 m_a0 e_a0 rfl rfl (Nat.le_of_ble_eq_true rfl) (fs' := [.int 1, .int 0, .int 1, .int 1, .int 1, .int 0, .int 0]) rfl dX10_tellSorts_2 (fun f1 hf2 hk3 => ?_)
  have hf4 := (hk3 a1 (ne_kd e_a1 e_a0 rfl)).trans e_a1
  refine v_aload_n hC dX10_tellSorts_5 rfl ?_
  refine v_ldcS hC sr_X10_80 dX10_tellSorts_6 ?_
  refine v_vi hC (rest := []) m_a1 hf4 rfl mi_X7_isWordOf ms_X7_isWordOf (a98_X7_isWordOf m_a1 hf4) mx_X7_isWordOf ml_X10_82 (by decide) rfl (cells1 := 0) (slots1 := 0) (by decide) (by decide) (Nat.le_of_ble_eq_true rfl) (Nat.le_of_ble_eq_true rfl) rfl (Nat.le_of_ble_eq_true rfl) dX10_tellSorts_8 (fun r5 L6 f7 h8 => ?_)
  obtain ⟨rfl, rfl, rfl⟩ := h8
  refine v_istore_n hC dX10_tellSorts_11 (by decide) (lv' := [(2, .int 0), (0, .ref a0), (1, .ref a1)]) rfl ?_
  refine v_iconst hC dX10_tellSorts_12 (v := 0) (by decide) ?_
  refine v_istore_n hC dX10_tellSorts_13 (by decide) (lv' := [(3, .int 0), (2, .int 0), (0, .ref a0), (1, .ref a1)]) rfl ?_
  refine v_iload_n hC dX10_tellSorts_14 rfl ?_
  refine v_aload_n hC dX10_tellSorts_15 rfl ?_
  refine v_vi hC (rest := [.int 0]) m_a1 hf4 rfl mi_X7_wordLength ms_X7_wordLength (a116_X7_wordLength m_a1 hf4) mx_X7_wordLength ml_X10_85 (by decide) rfl (cells1 := 0) (slots1 := 0) (by decide) (by decide) (Nat.le_of_ble_eq_true rfl) (Nat.le_of_ble_eq_true rfl) rfl (Nat.le_of_ble_eq_true rfl) dX10_tellSorts_16 (fun r9 L10 f11 h12 => ?_)
  obtain ⟨rfl, rfl, rfl⟩ := h12
  refine v_icmp_ge_t hC dX10_tellSorts_19 (tgt := 70) (by decide) (by decide) ?_
  refine v_iload_n hC dX10_tellSorts_70 rfl ?_
  refine v_if_eq_t hC dX10_tellSorts_71 (tgt := 81) (by decide) (by decide) ?_
  refine v_aload_n hC dX10_tellSorts_81 rfl ?_
  refine v_iconst hC dX10_tellSorts_82 (v := 1) (by decide) ?_
  refine v_vv hC (rest := []) m_a1 hf4 rfl mi_X7_complain ms_X7_complain (a84_X7_complain m_a1 hf4) mx_X7_complain ml_X10_96 (by decide) rfl (cells1 := 0) (slots1 := 0) (by decide) (by decide) (Nat.le_of_ble_eq_true rfl) (Nat.le_of_ble_eq_true rfl) rfl (Nat.le_of_ble_eq_true rfl) dX10_tellSorts_83 (fun L14 f15 h16 => ?_)
  obtain ⟨rfl, rfl⟩ := h16
  exact hR _ _ _ _ _ _ dX10_tellSorts_86 (Nat.le_of_ble_eq_true rfl) (Nat.le_of_ble_eq_true rfl) ⟨rfl, hf2, fun b n0 => (hk3 b n0)⟩
set_option maxRecDepth 100000 in
set_option maxHeartbeats 4000000 in
theorem a120_X7_mayTakeWord {l : Launch} {E : Ez} {L : List Nat} {f : Nat → va_E} {a0 a1 a2 : Nat} (m_a0 : a0 ∈ L) (e_a0 : f a0 = ob 7 [.ref a2, .int 0, .int 4, .int 0, .int 0, .int 1, .int 0]) : CI l yX7_mayTakeWord cX7_mayTakeWord 2 .boolean 1 0 0 E [.ref a0, .ref a1] L f (fun r L1 f1 => 0 = r ∧ L = L1 ∧ f = f1) := by
  refine ci_of (by decide) (Nat.le_of_ble_eq_true rfl) (fun z hz hnm hC hR => ?_)
  have hC : Cx z E cX7_mayTakeWord RX7 2 1 0 0 := hC
  subst hz
  show V z E 2 0 0 L f 0 [(0, .ref a0), (1, .ref a1)] []
  refine v_aload_n hC dX7_mayTakeWord_0 rfl ?_
  refine v_aload_n hC dX7_mayTakeWord_1 rfl ?_
  refine v_vi hC (rest := []) m_a0 e_a0 rfl mi_X7_isWord ms_X7_isWord (a90_X7_isWord m_a0 e_a0) mx_X7_isWord ml_X7_77 (by decide) rfl (cells1 := 0) (slots1 := 0) (by decide) (by decide) (Nat.le_of_ble_eq_true rfl) (Nat.le_of_ble_eq_true rfl) rfl (Nat.le_of_ble_eq_true rfl) dX7_mayTakeWord_2 (fun r1 L2 f3 h4 => ?_)
  obtain ⟨rfl, rfl, rfl⟩ := h4
  refine v_if_ne_f hC dX7_mayTakeWord_5 (tgt := 10) (by decide) (by decide) ?_
  refine v_iconst hC dX7_mayTakeWord_8 (v := 0) (by decide) ?_
  exact hR _ _ _ _ _ _ _ dX7_mayTakeWord_9 rfl (Nat.le_of_ble_eq_true rfl) (Nat.le_of_ble_eq_true rfl) ⟨rfl, rfl, rfl⟩
set_option maxRecDepth 100000 in
set_option maxHeartbeats 4000000 in
theorem a116_X10_tell {l : Launch} {E : Ez} {L : List Nat} {f : Nat → va_E} {a0 a1 a2 : Nat} (m_a0 : a0 ∈ L) (e_a0 : f a0 = ob 10 [.int 0, .int 0, .int 1, .int 1, .int 1, .int 0, .int 0]) (m_a1 : a1 ∈ L) (e_a1 : f a1 = ob 7 [.ref a2, .int 0, .int 0, .int 0, .int 0, .int 0, .int (-1)]) : CI l yX10_tell cX10_tell 2 .boolean 3 0 0 E [.ref a0, .ref a1] L f (fun r L1 f1 => 0 = r ∧ L = L1 ∧ f1 a0 = ob 10 [.int 1, .int 0, .int 1, .int 1, .int 1, .int 0, .int 0] ∧ f1 a1 = ob 7 [.ref a2, .int 0, .int 4, .int 0, .int 0, .int 1, .int 0] ∧ ∀ b, b ≠ a0 → b ≠ a1 → f1 b = f b) := by
  refine ci_of (by decide) (Nat.le_of_ble_eq_true rfl) (fun z hz hnm hC hR => ?_)
  have hC : Cx z E cX10_tell RX10 2 3 0 0 := hC
  subst hz
  show V z E 2 0 0 L f 0 [(0, .ref a0), (1, .ref a1)] []
  refine v_aload_n hC dX10_tell_0 rfl ?_
  refine v_iconst hC dX10_tell_1 (v := 1) (by decide) ?_
  refine v_put hC fl_X10_21 m_a0 e_a0 rfl rfl (Nat.le_of_ble_eq_true rfl) (fs' := [.int 1, .int 0, .int 1, .int 1, .int 1, .int 0, .int 0]) rfl dX10_tell_2 (fun f1 hf2 hk3 => ?_)
  have hf4 := (hk3 a1 (ne_kd e_a1 e_a0 rfl)).trans e_a1
  refine v_aload_n hC dX10_tell_5 rfl ?_
  refine v_vv hC (rest := []) m_a1 hf4 rfl mi_X7_start ms_X7_start (a66_X7_start m_a1 hf4) mx_X7_start ml_X10_34 (by decide) rfl (cells1 := 0) (slots1 := 0) (by decide) (by decide) (Nat.le_of_ble_eq_true rfl) (Nat.le_of_ble_eq_true rfl) rfl (Nat.le_of_ble_eq_true rfl) dX10_tell_6 (fun L6 f7 h8 => ?_)
  obtain ⟨rfl, hf9, hk10⟩ := h8
  have hf11 := (hk10 a0 (ne_kd hf2 hf4 rfl)).trans hf2
  refine v_aload_n hC dX10_tell_9 rfl ?_
  refine v_ldcS hC sr_X10_39 dX10_tell_10 ?_
  refine v_vv hC (rest := []) m_a1 hf9 rfl mi_X7_takeWord ms_X7_takeWord (a76_X7_takeWord m_a1 hf9) mx_X7_takeWord ml_X10_41 (by decide) rfl (cells1 := 0) (slots1 := 0) (by decide) (by decide) (Nat.le_of_ble_eq_true rfl) (Nat.le_of_ble_eq_true rfl) rfl (Nat.le_of_ble_eq_true rfl) dX10_tell_12 (fun L13 f14 h15 => ?_)
  obtain ⟨rfl, hf16, hk17⟩ := h15
  have hf18 := (hk17 a0 (ne_kd hf11 hf9 rfl)).trans hf11
  refine v_aload_n hC dX10_tell_15 rfl ?_
  refine v_ldcS hC sr_X10_45 dX10_tell_16 ?_
  refine v_vv hC (rest := []) m_a1 hf16 rfl mi_X7_takeWord ms_X7_takeWord (a90_X7_takeWord m_a1 hf16) mx_X7_takeWord ml_X10_41 (by decide) rfl (cells1 := 0) (slots1 := 0) (by decide) (by decide) (Nat.le_of_ble_eq_true rfl) (Nat.le_of_ble_eq_true rfl) rfl (Nat.le_of_ble_eq_true rfl) dX10_tell_18 (fun L20 f21 h22 => ?_)
  obtain ⟨rfl, rfl⟩ := h22
  refine v_aload_n hC dX10_tell_21 rfl ?_
  refine v_aload_n hC dX10_tell_22 rfl ?_
  refine v_vv hC (rest := []) m_a0 hf18 rfl mi_X10_tellSorts ms_X10_tellSorts (a116_X10_tellSorts m_a0 hf18 m_a1 hf16) mx_X10_tellSorts ml_X10_47 (by decide) rfl (cells1 := 0) (slots1 := 0) (by decide) (by decide) (Nat.le_of_ble_eq_true rfl) (Nat.le_of_ble_eq_true rfl) rfl (Nat.le_of_ble_eq_true rfl) dX10_tell_23 (fun L24 f25 h26 => ?_)
  obtain ⟨rfl, hf27, hk28⟩ := h26
  have hf29 := (hk28 a1 (ne_kd hf16 hf18 rfl)).trans hf16
  refine v_aload_n hC dX10_tell_26 rfl ?_
  refine v_aload_n hC dX10_tell_27 rfl ?_
  refine v_ldcS hC sr_X10_51 dX10_tell_28 ?_
  refine v_vi hC (rest := [.ref a0]) m_a1 hf29 rfl mi_X7_mayTakeWord ms_X7_mayTakeWord (a120_X7_mayTakeWord m_a1 hf29) mx_X7_mayTakeWord ml_X10_52 (by decide) rfl (cells1 := 0) (slots1 := 0) (by decide) (by decide) (Nat.le_of_ble_eq_true rfl) (Nat.le_of_ble_eq_true rfl) rfl (Nat.le_of_ble_eq_true rfl) dX10_tell_30 (fun r30 L31 f32 h33 => ?_)
  obtain ⟨rfl, rfl, rfl⟩ := h33
  refine v_if_eq_t hC dX10_tell_33 (tgt := 46) (by decide) (by decide) ?_
  refine v_iconst hC dX10_tell_46 (v := 1) (by decide) ?_
  refine v_put hC fl_X10_9 m_a0 hf27 rfl rfl (Nat.le_of_ble_eq_true rfl) (fs' := [.int 1, .int 0, .int 1, .int 1, .int 1, .int 0, .int 0]) rfl dX10_tell_47 (fun f34 hf35 hk36 => ?_)
  have hf37 := (hk36 a1 (ne_kd hf29 hf27 rfl)).trans hf29
  refine v_aload_n hC dX10_tell_50 rfl ?_
  refine v_aload_n hC dX10_tell_51 rfl ?_
  refine v_ldcS hC sr_X10_60 dX10_tell_52 ?_
  refine v_vi hC (rest := [.ref a0]) m_a1 hf37 rfl mi_X7_mayTakeWord ms_X7_mayTakeWord (a120_X7_mayTakeWord m_a1 hf37) mx_X7_mayTakeWord ml_X10_52 (by decide) rfl (cells1 := 0) (slots1 := 0) (by decide) (by decide) (Nat.le_of_ble_eq_true rfl) (Nat.le_of_ble_eq_true rfl) rfl (Nat.le_of_ble_eq_true rfl) dX10_tell_54 (fun r38 L39 f40 h41 => ?_)
  obtain ⟨rfl, rfl, rfl⟩ := h41
  refine v_if_eq_t hC dX10_tell_57 (tgt := 69) (by decide) (by decide) ?_
  refine v_iconst hC dX10_tell_69 (v := 1) (by decide) ?_
  refine v_put hC fl_X10_15 m_a0 hf35 rfl rfl (Nat.le_of_ble_eq_true rfl) (fs' := [.int 1, .int 0, .int 1, .int 1, .int 1, .int 0, .int 0]) rfl dX10_tell_70 (fun f42 hf43 hk44 => ?_)
  have hf45 := (hk44 a1 (ne_kd hf37 hf35 rfl)).trans hf37
  refine v_aload_n hC dX10_tell_73 rfl ?_
  refine v_aload_n hC dX10_tell_74 rfl ?_
  refine v_ldcS hC sr_X10_61 dX10_tell_75 ?_
  refine v_vi hC (rest := [.ref a0]) m_a1 hf45 rfl mi_X7_mayTakeWord ms_X7_mayTakeWord (a120_X7_mayTakeWord m_a1 hf45) mx_X7_mayTakeWord ml_X10_52 (by decide) rfl (cells1 := 0) (slots1 := 0) (by decide) (by decide) (Nat.le_of_ble_eq_true rfl) (Nat.le_of_ble_eq_true rfl) rfl (Nat.le_of_ble_eq_true rfl) dX10_tell_77 (fun r46 L47 f48 h49 => ?_)
  obtain ⟨rfl, rfl, rfl⟩ := h49
  refine v_if_eq_t hC dX10_tell_80 (tgt := 90) (by decide) (by decide) ?_
  refine v_iconst hC dX10_tell_90 (v := 1) (by decide) ?_
  refine v_put hC fl_X10_18 m_a0 hf43 rfl rfl (Nat.le_of_ble_eq_true rfl) (fs' := [.int 1, .int 0, .int 1, .int 1, .int 1, .int 0, .int 0]) rfl dX10_tell_91 (fun f50 hf51 hk52 => ?_)
  have hf53 := (hk52 a1 (ne_kd hf45 hf43 rfl)).trans hf45
  refine v_aload_n hC dX10_tell_94 rfl ?_
  refine v_aload_n hC dX10_tell_95 rfl ?_
  refine v_ldcS hC sr_X10_66 dX10_tell_96 ?_
  refine v_vi hC (rest := [.ref a0]) m_a1 hf53 rfl mi_X7_mayTakeWord ms_X7_mayTakeWord (a120_X7_mayTakeWord m_a1 hf53) mx_X7_mayTakeWord ml_X10_52 (by decide) rfl (cells1 := 0) (slots1 := 0) (by decide) (by decide) (Nat.le_of_ble_eq_true rfl) (Nat.le_of_ble_eq_true rfl) rfl (Nat.le_of_ble_eq_true rfl) dX10_tell_98 (fun r54 L55 f56 h57 => ?_)
  obtain ⟨rfl, rfl, rfl⟩ := h57
  refine v_put hC fl_X10_28 m_a0 hf51 rfl rfl (Nat.le_of_ble_eq_true rfl) (fs' := [.int 1, .int 0, .int 1, .int 1, .int 1, .int 0, .int 0]) rfl dX10_tell_101 (fun f58 hf59 hk60 => ?_)
  have hf61 := (hk60 a1 (ne_kd hf53 hf51 rfl)).trans hf53
  refine v_aload_n hC dX10_tell_104 rfl ?_
  refine v_aload_n hC dX10_tell_105 rfl ?_
  refine v_ldcS hC sr_X10_68 dX10_tell_106 ?_
  refine v_vi hC (rest := [.ref a0]) m_a1 hf61 rfl mi_X7_mayTakeWord ms_X7_mayTakeWord (a120_X7_mayTakeWord m_a1 hf61) mx_X7_mayTakeWord ml_X10_52 (by decide) rfl (cells1 := 0) (slots1 := 0) (by decide) (by decide) (Nat.le_of_ble_eq_true rfl) (Nat.le_of_ble_eq_true rfl) rfl (Nat.le_of_ble_eq_true rfl) dX10_tell_108 (fun r62 L63 f64 h65 => ?_)
  obtain ⟨rfl, rfl, rfl⟩ := h65
  refine v_put hC fl_X10_31 m_a0 hf59 rfl rfl (Nat.le_of_ble_eq_true rfl) (fs' := [.int 1, .int 0, .int 1, .int 1, .int 1, .int 0, .int 0]) rfl dX10_tell_111 (fun f66 hf67 hk68 => ?_)
  have hf69 := (hk68 a1 (ne_kd hf61 hf59 rfl)).trans hf61
  refine v_aload_n hC dX10_tell_114 rfl ?_
  refine v_vv hC (rest := []) m_a1 hf69 rfl mi_X7_takeSemicolon ms_X7_takeSemicolon (a94_X7_takeSemicolon m_a1 hf69) mx_X7_takeSemicolon ml_X10_70 (by decide) rfl (cells1 := 0) (slots1 := 0) (by decide) (by decide) (Nat.le_of_ble_eq_true rfl) (Nat.le_of_ble_eq_true rfl) rfl (Nat.le_of_ble_eq_true rfl) dX10_tell_115 (fun L71 f72 h73 => ?_)
  obtain ⟨rfl, rfl⟩ := h73
  refine v_aload_n hC dX10_tell_118 rfl ?_
  refine v_vv hC (rest := []) m_a1 hf69 rfl mi_X7_takeEnd ms_X7_takeEnd (a111_X7_takeEnd m_a1 hf69) mx_X7_takeEnd ml_X10_73 (by decide) rfl (cells1 := 0) (slots1 := 0) (by decide) (by decide) (Nat.le_of_ble_eq_true rfl) (Nat.le_of_ble_eq_true rfl) rfl (Nat.le_of_ble_eq_true rfl) dX10_tell_119 (fun L75 f76 h77 => ?_)
  obtain ⟨rfl, rfl⟩ := h77
  refine v_aload_n hC dX10_tell_122 rfl ?_
  refine v_vi hC (rest := []) m_a1 hf69 rfl mi_X7_isFine ms_X7_isFine (a84_X7_isFine m_a1 hf69) mx_X7_isFine ml_X10_76 (by decide) rfl (cells1 := 0) (slots1 := 0) (by decide) (by decide) (Nat.le_of_ble_eq_true rfl) (Nat.le_of_ble_eq_true rfl) rfl (Nat.le_of_ble_eq_true rfl) dX10_tell_123 (fun r78 L79 f80 h81 => ?_)
  obtain ⟨rfl, rfl, rfl⟩ := h81
  exact hR _ _ _ _ _ _ _ dX10_tell_126 rfl (Nat.le_of_ble_eq_true rfl) (Nat.le_of_ble_eq_true rfl) ⟨rfl, rfl, hf67, hf69, fun b n0 n1 => ((hk68 b n0).trans ((hk60 b n0).trans ((hk52 b n0).trans ((hk44 b n0).trans ((hk36 b n0).trans ((hk28 b n0).trans ((hk17 b n1).trans ((hk10 b n1).trans (hk3 b n0)))))))))⟩
set_option maxRecDepth 100000 in
set_option maxHeartbeats 4000000 in
theorem x_way {l : Launch} {E : Ez} {L : List Nat} {f : Nat → va_E} {he im la nl now np ns nw nwa sl t ta tb tr wa x : Nat} {k : Int32} (m_x : x ∈ L) (e_x : f x = ob 11 [.ref t, .ref now, .ref im, .ref la, .ref sl, .ref np, .ref ns, .ref nw, .ref nwa, .ref nl, .ref he, .ref wa, .ref tr, .ref ta]) (m_t : t ∈ L) (e_t : f t = ob 7 [.ref tb, .int 0, .int 0, .int 0, .int 0, .int 0, .int (-1)]) (m_nw : nw ∈ L) (e_nw : f nw = ob 10 [.int 0, .int 0, .int 1, .int 1, .int 1, .int 0, .int 0]) : CI l yX11_way cX11_way 3 .int 4 0 0 E [.ref x, .int k] L f (fun r L1 f1 => sp_way k = r) := by
  refine ci_of (by decide) (Nat.le_of_ble_eq_true rfl) (fun z hz hnm hC hR => ?_)
  have hC : Cx z E cX11_way RX11 3 4 0 0 := hC
  subst hz
  show V z E 3 0 0 L f 0 [(0, .ref x), (1, .int k)] []
  refine v_iload_n hC dX11_way_0 rfl ?_
  refine v_si hC (rest := []) mt_X11_isWay (c_isWay) mx_X11_isWay ml_X11_142 (by decide) rfl (cells1 := 0) (slots1 := 0) (by decide) (by decide) (Nat.le_of_ble_eq_true rfl) (Nat.le_of_ble_eq_true rfl) rfl (Nat.le_of_ble_eq_true rfl) dX11_way_1 (fun r1 L2 f3 h4 => ?_)
  obtain ⟨rfl, rfl, rfl⟩ := h4
  refine v_if_ne hC dX11_way_4 (tgt := 10) (by decide) (fun h5 => ?_) (fun h5 => ?_)
  · have h6 := bI_1 h5
    refine v_aload_n hC dX11_way_10 rfl ?_
    refine v_get hC fl_X11_54 m_x e_x rfl dX11_way_11 ?_
    refine v_aload_n hC dX11_way_14 rfl ?_
    refine v_get hC fl_X11_12 m_x e_x rfl dX11_way_15 ?_
    refine v_vi hC (rest := []) m_nw e_nw rfl mi_X10_tell ms_X10_tell (a116_X10_tell m_nw e_nw m_t e_t) mx_X10_tell ml_X11_145 (by decide) rfl (cells1 := 0) (slots1 := 0) (by decide) (by decide) (Nat.le_of_ble_eq_true rfl) (Nat.le_of_ble_eq_true rfl) rfl (Nat.le_of_ble_eq_true rfl) dX11_way_18 (fun r7 L8 f9 h10 => ?_)
    obtain ⟨rfl, rfl, hf11, hf12, hk13⟩ := h10
    have hf14 := (hk13 x (ne_kd e_x e_nw rfl) (ne_kd e_x e_t rfl)).trans e_x
    refine v_istore_n hC dX11_way_21 (by decide) (lv' := [(2, .int 0), (0, .ref x), (1, .int k)]) rfl ?_
    refine v_aload_n hC dX11_way_22 rfl ?_
    refine v_get hC fl_X11_12 m_x hf14 rfl dX11_way_23 ?_
    refine v_vv hC (rest := []) m_t hf12 rfl mi_X7_empty ms_X7_empty (a106_X7_empty m_t hf12) mx_X7_empty ml_X11_113 (by decide) rfl (cells1 := 0) (slots1 := 0) (by decide) (by decide) (Nat.le_of_ble_eq_true rfl) (Nat.le_of_ble_eq_true rfl) rfl (Nat.le_of_ble_eq_true rfl) dX11_way_26 (fun L16 f17 h18 => ?_)
    obtain ⟨rfl, hf19, hk20⟩ := h18
    have hf21 := (hk20 x (ne_kd hf14 hf12 rfl)).trans hf14
    have hf22 := (hk20 nw (ne_kd hf11 hf12 rfl)).trans hf11
    refine v_iload_n hC dX11_way_29 rfl ?_
    refine v_if_ne_f hC dX11_way_30 (tgt := 36) (by decide) (by decide) ?_
    refine v_bipush hC dX11_way_33 (v := (-4)) (by decide) ?_
    exact hR _ _ _ _ _ _ _ dX11_way_35 rfl (Nat.le_of_ble_eq_true rfl) (Nat.le_of_ble_eq_true rfl) (by unfold sp_way; simp only [Int32.lt_iff_toInt_lt, Int32.le_iff_toInt_le, Int32.reduceToInt, ← Int32.toInt_inj] at h6 ⊢; first | omega | (split <;> first | rfl | (exfalso; omega)))
  · have h23 := bI_0 h5
    refine v_bipush hC dX11_way_7 (v := (-2)) (by decide) ?_
    exact hR _ _ _ _ _ _ _ dX11_way_9 rfl (Nat.le_of_ble_eq_true rfl) (Nat.le_of_ble_eq_true rfl) (by unfold sp_way; simp only [Int32.lt_iff_toInt_lt, Int32.le_iff_toInt_le, Int32.reduceToInt, ← Int32.toInt_inj] at h23 ⊢; first | omega | (split <;> first | rfl | (exfalso; omega)))
set_option maxRecDepth 100000 in
set_option maxHeartbeats 4000000 in
theorem c_waysThere {l : Launch} {E : Ez} {L : List Nat} {f : Nat → va_E} {cl lo now pa sh wt wy : Nat} {gwy : Nat → Option Nat} (m_now : now ∈ L) (e_now : f now = ob 0 [.ref pa, .ref sh, .ref wy, .ref wt, .ref lo, .ref cl]) (m_wy : wy ∈ L) (e_wy : f wy = aR E 7 6 gwy) (pwy : ∀ i : Nat, i < 6 → ∃ q : Nat, gwy i = some q ∧ q ∈ L ∧ f q = ob 10 [.int 0, .int 0, .int 1, .int 1, .int 1, .int 0, .int 0]) : CI l yX0_waysThere cX0_waysThere 3 .int 0 0 0 E [.ref now] L f (fun r L1 f1 => (0 : Int32) = r ∧ L = L1 ∧ f = f1) := by
  refine ci_of (by decide) (Nat.le_of_ble_eq_true rfl) (fun z hz hnm hC hR => ?_)
  have hC : Cx z E cX0_waysThere RX0 3 0 0 0 := hC
  subst hz
  show V z E 3 0 0 L f 0 [(0, .ref now)] []
  refine v_iconst hC dX0_waysThere_0 (v := 0) (by decide) ?_
  refine v_istore_n hC dX0_waysThere_1 (by decide) (lv' := [(1, .int 0), (0, .ref now)]) rfl ?_
  refine v_iconst hC dX0_waysThere_2 (v := 0) (by decide) ?_
  refine v_istore_n hC dX0_waysThere_3 (by decide) (lv' := [(2, .int 0), (1, .int 0), (0, .ref now)]) rfl ?_
  refine v_iload_n hC dX0_waysThere_4 rfl ?_
  refine v_bipush hC dX0_waysThere_5 (v := 6) (by decide) ?_
  refine v_icmp_ge_f hC dX0_waysThere_7 (tgt := 31) (by decide) (by decide) ?_
  refine v_aload_n hC dX0_waysThere_10 rfl ?_
  refine v_get hC fl_X0_24 m_now e_now rfl dX0_waysThere_11 ?_
  refine v_iload_n hC dX0_waysThere_14 rfl ?_
  have hin5 : vp_in 0 6 := by unfold vp_in; decide
  obtain ⟨j1, hj2, ej3⟩ := vp_in_of hin5 (by decide)
  obtain ⟨q4, eg6, m7, e8⟩ := pwy j1 hj2
  refine v_aald hC m_wy e_wy (t := 7) (Cn := "StitchSays$Way") rfl hin5 (v := .ref q4) (by rw [ej3, nI_clamp (by omega), eg6]; rfl) dX0_waysThere_15 ?_
  refine v_getN hC fn_X0_76 m7 e8 rfl dX0_waysThere_16 ?_
  refine v_if_eq_t hC dX0_waysThere_19 (tgt := 25) (by decide) (by decide) ?_
  refine v_iinc hC dX0_waysThere_25 (k := 0) rfl (v := 1) (by decide) (by decide) (lv' := [(2, .int 1), (1, .int 0), (0, .ref now)]) rfl ?_
  refine v_goto hC dX0_waysThere_28 (tgt := 4) (by decide) ?_
  refine v_iload_n hC dX0_waysThere_4 rfl ?_
  refine v_bipush hC dX0_waysThere_5 (v := 6) (by decide) ?_
  refine v_icmp_ge_f hC dX0_waysThere_7 (tgt := 31) (by decide) (by decide) ?_
  refine v_aload_n hC dX0_waysThere_10 rfl ?_
  refine v_get hC fl_X0_24 m_now e_now rfl dX0_waysThere_11 ?_
  refine v_iload_n hC dX0_waysThere_14 rfl ?_
  have hin14 : vp_in 1 6 := by unfold vp_in; decide
  obtain ⟨j10, hj11, ej12⟩ := vp_in_of hin14 (by decide)
  obtain ⟨q13, eg15, m16, e17⟩ := pwy j10 hj11
  refine v_aald hC m_wy e_wy (t := 7) (Cn := "StitchSays$Way") rfl hin14 (v := .ref q13) (by rw [ej12, nI_clamp (by omega), eg15]; rfl) dX0_waysThere_15 ?_
  refine v_getN hC fn_X0_76 m16 e17 rfl dX0_waysThere_16 ?_
  refine v_if_eq_t hC dX0_waysThere_19 (tgt := 25) (by decide) (by decide) ?_
  refine v_iinc hC dX0_waysThere_25 (k := 0) rfl (v := 2) (by decide) (by decide) (lv' := [(2, .int 2), (1, .int 0), (0, .ref now)]) rfl ?_
  refine v_goto hC dX0_waysThere_28 (tgt := 4) (by decide) ?_
  refine v_iload_n hC dX0_waysThere_4 rfl ?_
  refine v_bipush hC dX0_waysThere_5 (v := 6) (by decide) ?_
  refine v_icmp_ge_f hC dX0_waysThere_7 (tgt := 31) (by decide) (by decide) ?_
  refine v_aload_n hC dX0_waysThere_10 rfl ?_
  refine v_get hC fl_X0_24 m_now e_now rfl dX0_waysThere_11 ?_
  refine v_iload_n hC dX0_waysThere_14 rfl ?_
  have hin23 : vp_in 2 6 := by unfold vp_in; decide
  obtain ⟨j19, hj20, ej21⟩ := vp_in_of hin23 (by decide)
  obtain ⟨q22, eg24, m25, e26⟩ := pwy j19 hj20
  refine v_aald hC m_wy e_wy (t := 7) (Cn := "StitchSays$Way") rfl hin23 (v := .ref q22) (by rw [ej21, nI_clamp (by omega), eg24]; rfl) dX0_waysThere_15 ?_
  refine v_getN hC fn_X0_76 m25 e26 rfl dX0_waysThere_16 ?_
  refine v_if_eq_t hC dX0_waysThere_19 (tgt := 25) (by decide) (by decide) ?_
  refine v_iinc hC dX0_waysThere_25 (k := 0) rfl (v := 3) (by decide) (by decide) (lv' := [(2, .int 3), (1, .int 0), (0, .ref now)]) rfl ?_
  refine v_goto hC dX0_waysThere_28 (tgt := 4) (by decide) ?_
  refine v_iload_n hC dX0_waysThere_4 rfl ?_
  refine v_bipush hC dX0_waysThere_5 (v := 6) (by decide) ?_
  refine v_icmp_ge_f hC dX0_waysThere_7 (tgt := 31) (by decide) (by decide) ?_
  refine v_aload_n hC dX0_waysThere_10 rfl ?_
  refine v_get hC fl_X0_24 m_now e_now rfl dX0_waysThere_11 ?_
  refine v_iload_n hC dX0_waysThere_14 rfl ?_
  have hin32 : vp_in 3 6 := by unfold vp_in; decide
  obtain ⟨j28, hj29, ej30⟩ := vp_in_of hin32 (by decide)
  obtain ⟨q31, eg33, m34, e35⟩ := pwy j28 hj29
  refine v_aald hC m_wy e_wy (t := 7) (Cn := "StitchSays$Way") rfl hin32 (v := .ref q31) (by rw [ej30, nI_clamp (by omega), eg33]; rfl) dX0_waysThere_15 ?_
  refine v_getN hC fn_X0_76 m34 e35 rfl dX0_waysThere_16 ?_
  refine v_if_eq_t hC dX0_waysThere_19 (tgt := 25) (by decide) (by decide) ?_
  refine v_iinc hC dX0_waysThere_25 (k := 0) rfl (v := 4) (by decide) (by decide) (lv' := [(2, .int 4), (1, .int 0), (0, .ref now)]) rfl ?_
  refine v_goto hC dX0_waysThere_28 (tgt := 4) (by decide) ?_
  refine v_iload_n hC dX0_waysThere_4 rfl ?_
  refine v_bipush hC dX0_waysThere_5 (v := 6) (by decide) ?_
  refine v_icmp_ge_f hC dX0_waysThere_7 (tgt := 31) (by decide) (by decide) ?_
  refine v_aload_n hC dX0_waysThere_10 rfl ?_
  refine v_get hC fl_X0_24 m_now e_now rfl dX0_waysThere_11 ?_
  refine v_iload_n hC dX0_waysThere_14 rfl ?_
  have hin41 : vp_in 4 6 := by unfold vp_in; decide
  obtain ⟨j37, hj38, ej39⟩ := vp_in_of hin41 (by decide)
  obtain ⟨q40, eg42, m43, e44⟩ := pwy j37 hj38
  refine v_aald hC m_wy e_wy (t := 7) (Cn := "StitchSays$Way") rfl hin41 (v := .ref q40) (by rw [ej39, nI_clamp (by omega), eg42]; rfl) dX0_waysThere_15 ?_
  refine v_getN hC fn_X0_76 m43 e44 rfl dX0_waysThere_16 ?_
  refine v_if_eq_t hC dX0_waysThere_19 (tgt := 25) (by decide) (by decide) ?_
  refine v_iinc hC dX0_waysThere_25 (k := 0) rfl (v := 5) (by decide) (by decide) (lv' := [(2, .int 5), (1, .int 0), (0, .ref now)]) rfl ?_
  refine v_goto hC dX0_waysThere_28 (tgt := 4) (by decide) ?_
  refine v_iload_n hC dX0_waysThere_4 rfl ?_
  refine v_bipush hC dX0_waysThere_5 (v := 6) (by decide) ?_
  refine v_icmp_ge_f hC dX0_waysThere_7 (tgt := 31) (by decide) (by decide) ?_
  refine v_aload_n hC dX0_waysThere_10 rfl ?_
  refine v_get hC fl_X0_24 m_now e_now rfl dX0_waysThere_11 ?_
  refine v_iload_n hC dX0_waysThere_14 rfl ?_
  have hin50 : vp_in 5 6 := by unfold vp_in; decide
  obtain ⟨j46, hj47, ej48⟩ := vp_in_of hin50 (by decide)
  obtain ⟨q49, eg51, m52, e53⟩ := pwy j46 hj47
  refine v_aald hC m_wy e_wy (t := 7) (Cn := "StitchSays$Way") rfl hin50 (v := .ref q49) (by rw [ej48, nI_clamp (by omega), eg51]; rfl) dX0_waysThere_15 ?_
  refine v_getN hC fn_X0_76 m52 e53 rfl dX0_waysThere_16 ?_
  refine v_if_eq_t hC dX0_waysThere_19 (tgt := 25) (by decide) (by decide) ?_
  refine v_iinc hC dX0_waysThere_25 (k := 0) rfl (v := 6) (by decide) (by decide) (lv' := [(2, .int 6), (1, .int 0), (0, .ref now)]) rfl ?_
  refine v_goto hC dX0_waysThere_28 (tgt := 4) (by decide) ?_
  refine v_iload_n hC dX0_waysThere_4 rfl ?_
  refine v_bipush hC dX0_waysThere_5 (v := 6) (by decide) ?_
  refine v_icmp_ge_t hC dX0_waysThere_7 (tgt := 31) (by decide) (by decide) ?_
  refine v_iload_n hC dX0_waysThere_31 rfl ?_
  exact hR _ _ _ _ _ _ _ dX0_waysThere_32 rfl (Nat.le_of_ble_eq_true rfl) (Nat.le_of_ble_eq_true rfl) ⟨rfl, rfl, rfl⟩
set_option maxRecDepth 100000 in
set_option maxHeartbeats 4000000 in
theorem c_clothsThere {l : Launch} {E : Ez} {L : List Nat} {f : Nat → va_E} {cl lo now pa sh wt wy : Nat} {gcl : Nat → Option Nat} (m_now : now ∈ L) (e_now : f now = ob 0 [.ref pa, .ref sh, .ref wy, .ref wt, .ref lo, .ref cl]) (m_cl : cl ∈ L) (e_cl : f cl = aR E 5 4 gcl) (pcl : ∀ i : Nat, i < 4 → ∃ q s : Nat, gcl i = some q ∧ q ∈ L ∧ f q = ob 1 [.ref s, .int 0]) : CI l yX0_clothsThere cX0_clothsThere 3 .int 0 0 0 E [.ref now] L f (fun r L1 f1 => (0 : Int32) = r ∧ L = L1 ∧ f = f1) := by
  refine ci_of (by decide) (Nat.le_of_ble_eq_true rfl) (fun z hz hnm hC hR => ?_)
  have hC : Cx z E cX0_clothsThere RX0 3 0 0 0 := hC
  subst hz
  show V z E 3 0 0 L f 0 [(0, .ref now)] []
  refine v_iconst hC dX0_clothsThere_0 (v := 0) (by decide) ?_
  refine v_istore_n hC dX0_clothsThere_1 (by decide) (lv' := [(1, .int 0), (0, .ref now)]) rfl ?_
  refine v_iconst hC dX0_clothsThere_2 (v := 0) (by decide) ?_
  refine v_istore_n hC dX0_clothsThere_3 (by decide) (lv' := [(2, .int 0), (1, .int 0), (0, .ref now)]) rfl ?_
  refine v_iload_n hC dX0_clothsThere_4 rfl ?_
  refine v_iconst hC dX0_clothsThere_5 (v := 4) (by decide) ?_
  refine v_icmp_ge_f hC dX0_clothsThere_6 (tgt := 30) (by decide) (by decide) ?_
  refine v_aload_n hC dX0_clothsThere_9 rfl ?_
  refine v_get hC fl_X0_44 m_now e_now rfl dX0_clothsThere_10 ?_
  refine v_iload_n hC dX0_clothsThere_13 rfl ?_
  have hin5 : vp_in 0 4 := by unfold vp_in; decide
  obtain ⟨j1, hj2, ej3⟩ := vp_in_of hin5 (by decide)
  obtain ⟨q4, s9, eg6, m7, e8⟩ := pcl j1 hj2
  refine v_aald hC m_cl e_cl (t := 5) (Cn := "StitchSays$Cloth") rfl hin5 (v := .ref q4) (by rw [ej3, nI_clamp (by omega), eg6]; rfl) dX0_clothsThere_14 ?_
  refine v_getN hC fn_X0_72 m7 e8 rfl dX0_clothsThere_15 ?_
  refine v_if_eq_t hC dX0_clothsThere_18 (tgt := 24) (by decide) (by decide) ?_
  refine v_iinc hC dX0_clothsThere_24 (k := 0) rfl (v := 1) (by decide) (by decide) (lv' := [(2, .int 1), (1, .int 0), (0, .ref now)]) rfl ?_
  refine v_goto hC dX0_clothsThere_27 (tgt := 4) (by decide) ?_
  refine v_iload_n hC dX0_clothsThere_4 rfl ?_
  refine v_iconst hC dX0_clothsThere_5 (v := 4) (by decide) ?_
  refine v_icmp_ge_f hC dX0_clothsThere_6 (tgt := 30) (by decide) (by decide) ?_
  refine v_aload_n hC dX0_clothsThere_9 rfl ?_
  refine v_get hC fl_X0_44 m_now e_now rfl dX0_clothsThere_10 ?_
  refine v_iload_n hC dX0_clothsThere_13 rfl ?_
  have hin14 : vp_in 1 4 := by unfold vp_in; decide
  obtain ⟨j10, hj11, ej12⟩ := vp_in_of hin14 (by decide)
  obtain ⟨q13, s18, eg15, m16, e17⟩ := pcl j10 hj11
  refine v_aald hC m_cl e_cl (t := 5) (Cn := "StitchSays$Cloth") rfl hin14 (v := .ref q13) (by rw [ej12, nI_clamp (by omega), eg15]; rfl) dX0_clothsThere_14 ?_
  refine v_getN hC fn_X0_72 m16 e17 rfl dX0_clothsThere_15 ?_
  refine v_if_eq_t hC dX0_clothsThere_18 (tgt := 24) (by decide) (by decide) ?_
  refine v_iinc hC dX0_clothsThere_24 (k := 0) rfl (v := 2) (by decide) (by decide) (lv' := [(2, .int 2), (1, .int 0), (0, .ref now)]) rfl ?_
  refine v_goto hC dX0_clothsThere_27 (tgt := 4) (by decide) ?_
  refine v_iload_n hC dX0_clothsThere_4 rfl ?_
  refine v_iconst hC dX0_clothsThere_5 (v := 4) (by decide) ?_
  refine v_icmp_ge_f hC dX0_clothsThere_6 (tgt := 30) (by decide) (by decide) ?_
  refine v_aload_n hC dX0_clothsThere_9 rfl ?_
  refine v_get hC fl_X0_44 m_now e_now rfl dX0_clothsThere_10 ?_
  refine v_iload_n hC dX0_clothsThere_13 rfl ?_
  have hin23 : vp_in 2 4 := by unfold vp_in; decide
  obtain ⟨j19, hj20, ej21⟩ := vp_in_of hin23 (by decide)
  obtain ⟨q22, s27, eg24, m25, e26⟩ := pcl j19 hj20
  refine v_aald hC m_cl e_cl (t := 5) (Cn := "StitchSays$Cloth") rfl hin23 (v := .ref q22) (by rw [ej21, nI_clamp (by omega), eg24]; rfl) dX0_clothsThere_14 ?_
  refine v_getN hC fn_X0_72 m25 e26 rfl dX0_clothsThere_15 ?_
  refine v_if_eq_t hC dX0_clothsThere_18 (tgt := 24) (by decide) (by decide) ?_
  refine v_iinc hC dX0_clothsThere_24 (k := 0) rfl (v := 3) (by decide) (by decide) (lv' := [(2, .int 3), (1, .int 0), (0, .ref now)]) rfl ?_
  refine v_goto hC dX0_clothsThere_27 (tgt := 4) (by decide) ?_
  refine v_iload_n hC dX0_clothsThere_4 rfl ?_
  refine v_iconst hC dX0_clothsThere_5 (v := 4) (by decide) ?_
  refine v_icmp_ge_f hC dX0_clothsThere_6 (tgt := 30) (by decide) (by decide) ?_
  refine v_aload_n hC dX0_clothsThere_9 rfl ?_
  refine v_get hC fl_X0_44 m_now e_now rfl dX0_clothsThere_10 ?_
  refine v_iload_n hC dX0_clothsThere_13 rfl ?_
  have hin32 : vp_in 3 4 := by unfold vp_in; decide
  obtain ⟨j28, hj29, ej30⟩ := vp_in_of hin32 (by decide)
  obtain ⟨q31, s36, eg33, m34, e35⟩ := pcl j28 hj29
  refine v_aald hC m_cl e_cl (t := 5) (Cn := "StitchSays$Cloth") rfl hin32 (v := .ref q31) (by rw [ej30, nI_clamp (by omega), eg33]; rfl) dX0_clothsThere_14 ?_
  refine v_getN hC fn_X0_72 m34 e35 rfl dX0_clothsThere_15 ?_
  refine v_if_eq_t hC dX0_clothsThere_18 (tgt := 24) (by decide) (by decide) ?_
  refine v_iinc hC dX0_clothsThere_24 (k := 0) rfl (v := 4) (by decide) (by decide) (lv' := [(2, .int 4), (1, .int 0), (0, .ref now)]) rfl ?_
  refine v_goto hC dX0_clothsThere_27 (tgt := 4) (by decide) ?_
  refine v_iload_n hC dX0_clothsThere_4 rfl ?_
  refine v_iconst hC dX0_clothsThere_5 (v := 4) (by decide) ?_
  refine v_icmp_ge_t hC dX0_clothsThere_6 (tgt := 30) (by decide) (by decide) ?_
  refine v_iload_n hC dX0_clothsThere_30 rfl ?_
  exact hR _ _ _ _ _ _ _ dX0_clothsThere_31 rfl (Nat.le_of_ble_eq_true rfl) (Nat.le_of_ble_eq_true rfl) ⟨rfl, rfl, rfl⟩
set_option maxRecDepth 100000 in
set_option maxHeartbeats 4000000 in
theorem c_slotsThere {l : Launch} {E : Ez} {L : List Nat} {f : Nat → va_E} {he im la nl now np ns nw nwa sl t ta tr wa x : Nat} {gsl : Nat → Option Nat} (m_x : x ∈ L) (e_x : f x = ob 11 [.ref t, .ref now, .ref im, .ref la, .ref sl, .ref np, .ref ns, .ref nw, .ref nwa, .ref nl, .ref he, .ref wa, .ref tr, .ref ta]) (m_sl : sl ∈ L) (e_sl : f sl = aR E 6 4 gsl) (psl : ∀ i : Nat, i < 4 → ∃ q s : Nat, gsl i = some q ∧ q ∈ L ∧ f q = ob 5 [.ref s, .int (-1), .int 0] ∧ s ∈ L ∧ f s = aJ E 60 (fun _ => 0)) : CI l yX11_slotsThere cX11_slotsThere 3 .int 1 0 0 E [.ref x] L f (fun r L1 f1 => (0 : Int32) = r ∧ L = L1 ∧ f = f1) := by
  refine ci_of (by decide) (Nat.le_of_ble_eq_true rfl) (fun z hz hnm hC hR => ?_)
  have hC : Cx z E cX11_slotsThere RX11 3 1 0 0 := hC
  subst hz
  show V z E 3 0 0 L f 0 [(0, .ref x)] []
  refine v_iconst hC dX11_slotsThere_0 (v := 0) (by decide) ?_
  refine v_istore_n hC dX11_slotsThere_1 (by decide) (lv' := [(1, .int 0), (0, .ref x)]) rfl ?_
  refine v_iconst hC dX11_slotsThere_2 (v := 0) (by decide) ?_
  refine v_istore_n hC dX11_slotsThere_3 (by decide) (lv' := [(2, .int 0), (1, .int 0), (0, .ref x)]) rfl ?_
  refine v_iload_n hC dX11_slotsThere_4 rfl ?_
  refine v_iconst hC dX11_slotsThere_5 (v := 4) (by decide) ?_
  refine v_icmp_ge_f hC dX11_slotsThere_6 (tgt := 30) (by decide) (by decide) ?_
  refine v_aload_n hC dX11_slotsThere_9 rfl ?_
  refine v_get hC fl_X11_36 m_x e_x rfl dX11_slotsThere_10 ?_
  refine v_iload_n hC dX11_slotsThere_13 rfl ?_
  have hin5 : vp_in 0 4 := by unfold vp_in; decide
  obtain ⟨j1, hj2, ej3⟩ := vp_in_of hin5 (by decide)
  obtain ⟨q4, s9, eg6, m7, e8, m10, e11⟩ := psl j1 hj2
  refine v_aald hC m_sl e_sl (t := 6) (Cn := "StitchSays$Slot") rfl hin5 (v := .ref q4) (by rw [ej3, nI_clamp (by omega), eg6]; rfl) dX11_slotsThere_14 ?_
  refine v_vi hC (rest := []) m7 e8 rfl mi_X5_isThere ms_X5_isThere (a34_X5_isThere m7 e8) mx_X5_isThere ml_X11_359 (by decide) rfl (cells1 := 0) (slots1 := 0) (by decide) (by decide) (Nat.le_of_ble_eq_true rfl) (Nat.le_of_ble_eq_true rfl) rfl (Nat.le_of_ble_eq_true rfl) dX11_slotsThere_15 (fun r12 L13 f14 h15 => ?_)
  obtain ⟨rfl, rfl, rfl⟩ := h15
  refine v_if_eq_t hC dX11_slotsThere_18 (tgt := 24) (by decide) (by decide) ?_
  refine v_iinc hC dX11_slotsThere_24 (k := 0) rfl (v := 1) (by decide) (by decide) (lv' := [(2, .int 1), (1, .int 0), (0, .ref x)]) rfl ?_
  refine v_goto hC dX11_slotsThere_27 (tgt := 4) (by decide) ?_
  refine v_iload_n hC dX11_slotsThere_4 rfl ?_
  refine v_iconst hC dX11_slotsThere_5 (v := 4) (by decide) ?_
  refine v_icmp_ge_f hC dX11_slotsThere_6 (tgt := 30) (by decide) (by decide) ?_
  refine v_aload_n hC dX11_slotsThere_9 rfl ?_
  refine v_get hC fl_X11_36 m_x e_x rfl dX11_slotsThere_10 ?_
  refine v_iload_n hC dX11_slotsThere_13 rfl ?_
  have hin20 : vp_in 1 4 := by unfold vp_in; decide
  obtain ⟨j16, hj17, ej18⟩ := vp_in_of hin20 (by decide)
  obtain ⟨q19, s24, eg21, m22, e23, m25, e26⟩ := psl j16 hj17
  refine v_aald hC m_sl e_sl (t := 6) (Cn := "StitchSays$Slot") rfl hin20 (v := .ref q19) (by rw [ej18, nI_clamp (by omega), eg21]; rfl) dX11_slotsThere_14 ?_
  refine v_vi hC (rest := []) m22 e23 rfl mi_X5_isThere ms_X5_isThere (a34_X5_isThere m22 e23) mx_X5_isThere ml_X11_359 (by decide) rfl (cells1 := 0) (slots1 := 0) (by decide) (by decide) (Nat.le_of_ble_eq_true rfl) (Nat.le_of_ble_eq_true rfl) rfl (Nat.le_of_ble_eq_true rfl) dX11_slotsThere_15 (fun r27 L28 f29 h30 => ?_)
  obtain ⟨rfl, rfl, rfl⟩ := h30
  refine v_if_eq_t hC dX11_slotsThere_18 (tgt := 24) (by decide) (by decide) ?_
  refine v_iinc hC dX11_slotsThere_24 (k := 0) rfl (v := 2) (by decide) (by decide) (lv' := [(2, .int 2), (1, .int 0), (0, .ref x)]) rfl ?_
  refine v_goto hC dX11_slotsThere_27 (tgt := 4) (by decide) ?_
  refine v_iload_n hC dX11_slotsThere_4 rfl ?_
  refine v_iconst hC dX11_slotsThere_5 (v := 4) (by decide) ?_
  refine v_icmp_ge_f hC dX11_slotsThere_6 (tgt := 30) (by decide) (by decide) ?_
  refine v_aload_n hC dX11_slotsThere_9 rfl ?_
  refine v_get hC fl_X11_36 m_x e_x rfl dX11_slotsThere_10 ?_
  refine v_iload_n hC dX11_slotsThere_13 rfl ?_
  have hin35 : vp_in 2 4 := by unfold vp_in; decide
  obtain ⟨j31, hj32, ej33⟩ := vp_in_of hin35 (by decide)
  obtain ⟨q34, s39, eg36, m37, e38, m40, e41⟩ := psl j31 hj32
  refine v_aald hC m_sl e_sl (t := 6) (Cn := "StitchSays$Slot") rfl hin35 (v := .ref q34) (by rw [ej33, nI_clamp (by omega), eg36]; rfl) dX11_slotsThere_14 ?_
  refine v_vi hC (rest := []) m37 e38 rfl mi_X5_isThere ms_X5_isThere (a34_X5_isThere m37 e38) mx_X5_isThere ml_X11_359 (by decide) rfl (cells1 := 0) (slots1 := 0) (by decide) (by decide) (Nat.le_of_ble_eq_true rfl) (Nat.le_of_ble_eq_true rfl) rfl (Nat.le_of_ble_eq_true rfl) dX11_slotsThere_15 (fun r42 L43 f44 h45 => ?_)
  obtain ⟨rfl, rfl, rfl⟩ := h45
  refine v_if_eq_t hC dX11_slotsThere_18 (tgt := 24) (by decide) (by decide) ?_
  refine v_iinc hC dX11_slotsThere_24 (k := 0) rfl (v := 3) (by decide) (by decide) (lv' := [(2, .int 3), (1, .int 0), (0, .ref x)]) rfl ?_
  refine v_goto hC dX11_slotsThere_27 (tgt := 4) (by decide) ?_
  refine v_iload_n hC dX11_slotsThere_4 rfl ?_
  refine v_iconst hC dX11_slotsThere_5 (v := 4) (by decide) ?_
  refine v_icmp_ge_f hC dX11_slotsThere_6 (tgt := 30) (by decide) (by decide) ?_
  refine v_aload_n hC dX11_slotsThere_9 rfl ?_
  refine v_get hC fl_X11_36 m_x e_x rfl dX11_slotsThere_10 ?_
  refine v_iload_n hC dX11_slotsThere_13 rfl ?_
  have hin50 : vp_in 3 4 := by unfold vp_in; decide
  obtain ⟨j46, hj47, ej48⟩ := vp_in_of hin50 (by decide)
  obtain ⟨q49, s54, eg51, m52, e53, m55, e56⟩ := psl j46 hj47
  refine v_aald hC m_sl e_sl (t := 6) (Cn := "StitchSays$Slot") rfl hin50 (v := .ref q49) (by rw [ej48, nI_clamp (by omega), eg51]; rfl) dX11_slotsThere_14 ?_
  refine v_vi hC (rest := []) m52 e53 rfl mi_X5_isThere ms_X5_isThere (a34_X5_isThere m52 e53) mx_X5_isThere ml_X11_359 (by decide) rfl (cells1 := 0) (slots1 := 0) (by decide) (by decide) (Nat.le_of_ble_eq_true rfl) (Nat.le_of_ble_eq_true rfl) rfl (Nat.le_of_ble_eq_true rfl) dX11_slotsThere_15 (fun r57 L58 f59 h60 => ?_)
  obtain ⟨rfl, rfl, rfl⟩ := h60
  refine v_if_eq_t hC dX11_slotsThere_18 (tgt := 24) (by decide) (by decide) ?_
  refine v_iinc hC dX11_slotsThere_24 (k := 0) rfl (v := 4) (by decide) (by decide) (lv' := [(2, .int 4), (1, .int 0), (0, .ref x)]) rfl ?_
  refine v_goto hC dX11_slotsThere_27 (tgt := 4) (by decide) ?_
  refine v_iload_n hC dX11_slotsThere_4 rfl ?_
  refine v_iconst hC dX11_slotsThere_5 (v := 4) (by decide) ?_
  refine v_icmp_ge_t hC dX11_slotsThere_6 (tgt := 30) (by decide) (by decide) ?_
  refine v_iload_n hC dX11_slotsThere_30 rfl ?_
  exact hR _ _ _ _ _ _ _ dX11_slotsThere_31 rfl (Nat.le_of_ble_eq_true rfl) (Nat.le_of_ble_eq_true rfl) ⟨rfl, rfl, rfl⟩
set_option maxRecDepth 100000 in
set_option maxHeartbeats 4000000 in
theorem x_count {l : Launch} {E : Ez} {L : List Nat} {f : Nat → va_E} {cl he im la lax lo lof lok los nl now np ns nw nwa pa paf pas sh sl t ta tb tr wa wt wtc wy x : Nat} {gwy : Nat → Option Nat} {gcl : Nat → Option Nat} {gsl : Nat → Option Nat} {w : Int32} (m_x : x ∈ L) (e_x : f x = ob 11 [.ref t, .ref now, .ref im, .ref la, .ref sl, .ref np, .ref ns, .ref nw, .ref nwa, .ref nl, .ref he, .ref wa, .ref tr, .ref ta]) (m_now : now ∈ L) (e_now : f now = ob 0 [.ref pa, .ref sh, .ref wy, .ref wt, .ref lo, .ref cl]) (m_t : t ∈ L) (e_t : f t = ob 7 [.ref tb, .int 0, .int 0, .int 0, .int 0, .int 0, .int (-1)]) (m_pa : pa ∈ L) (e_pa : f pa = ob 4 [.ref pas, .ref paf, .int 0, .int 0, .int 0]) (m_wt : wt ∈ L) (e_wt : f wt = ob 9 [.ref wtc, .int 0, .int 0]) (m_lo : lo ∈ L) (e_lo : f lo = ob 3 [.ref lok, .ref lof, .ref los, .int 0]) (m_la : la ∈ L) (e_la : f la = ob 2 [.ref lax, .int 0]) (m_wy : wy ∈ L) (e_wy : f wy = aR E 7 6 gwy) (pwy : ∀ i : Nat, i < 6 → ∃ q : Nat, gwy i = some q ∧ q ∈ L ∧ f q = ob 10 [.int 0, .int 0, .int 1, .int 1, .int 1, .int 0, .int 0]) (m_cl : cl ∈ L) (e_cl : f cl = aR E 5 4 gcl) (pcl : ∀ i : Nat, i < 4 → ∃ q s : Nat, gcl i = some q ∧ q ∈ L ∧ f q = ob 1 [.ref s, .int 0]) (m_sl : sl ∈ L) (e_sl : f sl = aR E 6 4 gsl) (psl : ∀ i : Nat, i < 4 → ∃ q s : Nat, gsl i = some q ∧ q ∈ L ∧ f q = ob 5 [.ref s, .int (-1), .int 0] ∧ s ∈ L ∧ f s = aJ E 60 (fun _ => 0)) : CI l yX11_count cX11_count 2 .int 2 0 0 E [.ref x, .int w] L f (fun r L1 f1 => sp_count w = r) := by
  refine ci_of (by decide) (Nat.le_of_ble_eq_true rfl) (fun z hz hnm hC hR => ?_)
  have hC : Cx z E cX11_count RX11 2 2 0 0 := hC
  subst hz
  show V z E 2 0 0 L f 0 [(0, .ref x), (1, .int w)] []
  refine v_iload_n hC dX11_count_0 rfl ?_
  by_cases h1 : w = 0
  · refine v_tableIn hC dX11_count_1 (off := 55) (tgt := 56) (by rw [h1]; decide) (by rw [h1]; decide) (by rw [h1]; rfl) (by decide) ?_
    refine v_aload_n hC dX11_count_56 rfl ?_
    refine v_get hC fl_X11_19 m_x e_x rfl dX11_count_57 ?_
    refine v_getN hC fn_X11_116 m_now e_now rfl dX11_count_60 ?_
    refine v_getN hC fn_X11_335 m_pa e_pa rfl dX11_count_63 ?_
    exact hR _ _ _ _ _ _ _ dX11_count_66 rfl (Nat.le_of_ble_eq_true rfl) (Nat.le_of_ble_eq_true rfl) (by unfold sp_count; simp only [Int32.lt_iff_toInt_lt, Int32.le_iff_toInt_le, Int32.reduceToInt, ← Int32.toInt_inj] at h1 ⊢; first | omega | (split <;> first | rfl | (exfalso; omega)))
  by_cases h2 : w = 1
  · refine v_tableIn hC dX11_count_1 (off := 66) (tgt := 67) (by rw [h2]; decide) (by rw [h2]; decide) (by rw [h2]; rfl) (by decide) ?_
    refine v_aload_n hC dX11_count_67 rfl ?_
    refine v_get hC fl_X11_19 m_x e_x rfl dX11_count_68 ?_
    refine v_getN hC fn_X11_116 m_now e_now rfl dX11_count_71 ?_
    refine v_getN hC fn_X11_338 m_pa e_pa rfl dX11_count_74 ?_
    exact hR _ _ _ _ _ _ _ dX11_count_77 rfl (Nat.le_of_ble_eq_true rfl) (Nat.le_of_ble_eq_true rfl) (by unfold sp_count; simp only [Int32.lt_iff_toInt_lt, Int32.le_iff_toInt_le, Int32.reduceToInt, ← Int32.toInt_inj] at h1 h2 ⊢; first | omega | (split <;> first | rfl | (exfalso; omega)))
  by_cases h3 : w = 2
  · refine v_tableIn hC dX11_count_1 (off := 77) (tgt := 78) (by rw [h3]; decide) (by rw [h3]; decide) (by rw [h3]; rfl) (by decide) ?_
    refine v_aload_n hC dX11_count_78 rfl ?_
    refine v_get hC fl_X11_19 m_x e_x rfl dX11_count_79 ?_
    refine v_getN hC fn_X11_116 m_now e_now rfl dX11_count_82 ?_
    refine v_getN hC fn_X11_126 m_pa e_pa rfl dX11_count_85 ?_
    exact hR _ _ _ _ _ _ _ dX11_count_88 rfl (Nat.le_of_ble_eq_true rfl) (Nat.le_of_ble_eq_true rfl) (by unfold sp_count; simp only [Int32.lt_iff_toInt_lt, Int32.le_iff_toInt_le, Int32.reduceToInt, ← Int32.toInt_inj] at h1 h2 h3 ⊢; first | omega | (split <;> first | rfl | (exfalso; omega)))
  by_cases h4 : w = 3
  · refine v_tableIn hC dX11_count_1 (off := 88) (tgt := 89) (by rw [h4]; decide) (by rw [h4]; decide) (by rw [h4]; rfl) (by decide) ?_
    refine v_aload_n hC dX11_count_89 rfl ?_
    refine v_get hC fl_X11_19 m_x e_x rfl dX11_count_90 ?_
    refine v_vi hC (rest := []) m_now e_now rfl mi_X0_waysThere ms_X0_waysThere (c_waysThere m_now e_now m_wy e_wy pwy) mx_X0_waysThere ml_X11_341 (by decide) rfl (cells1 := 0) (slots1 := 0) (by decide) (by decide) (Nat.le_of_ble_eq_true rfl) (Nat.le_of_ble_eq_true rfl) rfl (Nat.le_of_ble_eq_true rfl) dX11_count_93 (fun r5 L6 f7 h8 => ?_)
    obtain ⟨rfl, rfl, rfl⟩ := h8
    exact hR _ _ _ _ _ _ _ dX11_count_96 rfl (Nat.le_of_ble_eq_true rfl) (Nat.le_of_ble_eq_true rfl) (by unfold sp_count; simp only [Int32.lt_iff_toInt_lt, Int32.le_iff_toInt_le, Int32.reduceToInt, ← Int32.toInt_inj] at h1 h2 h3 h4 ⊢; first | omega | (split <;> first | rfl | (exfalso; omega)))
  by_cases h9 : w = 4
  · refine v_tableIn hC dX11_count_1 (off := 96) (tgt := 97) (by rw [h9]; decide) (by rw [h9]; decide) (by rw [h9]; rfl) (by decide) ?_
    refine v_aload_n hC dX11_count_97 rfl ?_
    refine v_get hC fl_X11_19 m_x e_x rfl dX11_count_98 ?_
    refine v_getN hC fn_X11_158 m_now e_now rfl dX11_count_101 ?_
    refine v_getN hC fn_X11_164 m_wt e_wt rfl dX11_count_104 ?_
    exact hR _ _ _ _ _ _ _ dX11_count_107 rfl (Nat.le_of_ble_eq_true rfl) (Nat.le_of_ble_eq_true rfl) (by unfold sp_count; simp only [Int32.lt_iff_toInt_lt, Int32.le_iff_toInt_le, Int32.reduceToInt, ← Int32.toInt_inj] at h1 h2 h3 h4 h9 ⊢; first | omega | (split <;> first | rfl | (exfalso; omega)))
  by_cases h10 : w = 5
  · refine v_tableIn hC dX11_count_1 (off := 107) (tgt := 108) (by rw [h10]; decide) (by rw [h10]; decide) (by rw [h10]; rfl) (by decide) ?_
    refine v_aload_n hC dX11_count_108 rfl ?_
    refine v_get hC fl_X11_19 m_x e_x rfl dX11_count_109 ?_
    refine v_getN hC fn_X11_168 m_now e_now rfl dX11_count_112 ?_
    refine v_getN hC fn_X11_174 m_lo e_lo rfl dX11_count_115 ?_
    exact hR _ _ _ _ _ _ _ dX11_count_118 rfl (Nat.le_of_ble_eq_true rfl) (Nat.le_of_ble_eq_true rfl) (by unfold sp_count; simp only [Int32.lt_iff_toInt_lt, Int32.le_iff_toInt_le, Int32.reduceToInt, ← Int32.toInt_inj] at h1 h2 h3 h4 h9 h10 ⊢; first | omega | (split <;> first | rfl | (exfalso; omega)))
  by_cases h11 : w = 6
  · refine v_tableIn hC dX11_count_1 (off := 118) (tgt := 119) (by rw [h11]; decide) (by rw [h11]; decide) (by rw [h11]; rfl) (by decide) ?_
    refine v_aload_n hC dX11_count_119 rfl ?_
    refine v_get hC fl_X11_19 m_x e_x rfl dX11_count_120 ?_
    refine v_vi hC (rest := []) m_now e_now rfl mi_X0_clothsThere ms_X0_clothsThere (c_clothsThere m_now e_now m_cl e_cl pcl) mx_X0_clothsThere ml_X11_344 (by decide) rfl (cells1 := 0) (slots1 := 0) (by decide) (by decide) (Nat.le_of_ble_eq_true rfl) (Nat.le_of_ble_eq_true rfl) rfl (Nat.le_of_ble_eq_true rfl) dX11_count_123 (fun r12 L13 f14 h15 => ?_)
    obtain ⟨rfl, rfl, rfl⟩ := h15
    exact hR _ _ _ _ _ _ _ dX11_count_126 rfl (Nat.le_of_ble_eq_true rfl) (Nat.le_of_ble_eq_true rfl) (by unfold sp_count; simp only [Int32.lt_iff_toInt_lt, Int32.le_iff_toInt_le, Int32.reduceToInt, ← Int32.toInt_inj] at h1 h2 h3 h4 h9 h10 h11 ⊢; first | omega | (split <;> first | rfl | (exfalso; omega)))
  by_cases h16 : w = 7
  · refine v_tableIn hC dX11_count_1 (off := 126) (tgt := 127) (by rw [h16]; decide) (by rw [h16]; decide) (by rw [h16]; rfl) (by decide) ?_
    refine v_aload_n hC dX11_count_127 rfl ?_
    refine v_get hC fl_X11_12 m_x e_x rfl dX11_count_128 ?_
    refine v_getN hC fn_X11_105 m_t e_t rfl dX11_count_131 ?_
    exact hR _ _ _ _ _ _ _ dX11_count_134 rfl (Nat.le_of_ble_eq_true rfl) (Nat.le_of_ble_eq_true rfl) (by unfold sp_count; simp only [Int32.lt_iff_toInt_lt, Int32.le_iff_toInt_le, Int32.reduceToInt, ← Int32.toInt_inj] at h1 h2 h3 h4 h9 h10 h11 h16 ⊢; first | omega | (split <;> first | rfl | (exfalso; omega)))
  by_cases h17 : w = 8
  · refine v_tableIn hC dX11_count_1 (off := 134) (tgt := 135) (by rw [h17]; decide) (by rw [h17]; decide) (by rw [h17]; rfl) (by decide) ?_
    refine v_aload_n hC dX11_count_135 rfl ?_
    refine v_get hC fl_X11_30 m_x e_x rfl dX11_count_136 ?_
    refine v_getN hC fn_X11_213 m_la e_la rfl dX11_count_139 ?_
    exact hR _ _ _ _ _ _ _ dX11_count_142 rfl (Nat.le_of_ble_eq_true rfl) (Nat.le_of_ble_eq_true rfl) (by unfold sp_count; simp only [Int32.lt_iff_toInt_lt, Int32.le_iff_toInt_le, Int32.reduceToInt, ← Int32.toInt_inj] at h1 h2 h3 h4 h9 h10 h11 h16 h17 ⊢; first | omega | (split <;> first | rfl | (exfalso; omega)))
  by_cases h18 : w = 9
  · refine v_tableIn hC dX11_count_1 (off := 142) (tgt := 143) (by rw [h18]; decide) (by rw [h18]; decide) (by rw [h18]; rfl) (by decide) ?_
    refine v_aload_n hC dX11_count_143 rfl ?_
    refine v_vi hC (rest := []) m_x e_x rfl mi_X11_slotsThere ms_X11_slotsThere (c_slotsThere m_x e_x m_sl e_sl psl) mx_X11_slotsThere ml_X11_347 (by decide) rfl (cells1 := 0) (slots1 := 0) (by decide) (by decide) (Nat.le_of_ble_eq_true rfl) (Nat.le_of_ble_eq_true rfl) rfl (Nat.le_of_ble_eq_true rfl) dX11_count_144 (fun r19 L20 f21 h22 => ?_)
    obtain ⟨rfl, rfl, rfl⟩ := h22
    exact hR _ _ _ _ _ _ _ dX11_count_147 rfl (Nat.le_of_ble_eq_true rfl) (Nat.le_of_ble_eq_true rfl) (by unfold sp_count; simp only [Int32.lt_iff_toInt_lt, Int32.le_iff_toInt_le, Int32.reduceToInt, ← Int32.toInt_inj] at h1 h2 h3 h4 h9 h10 h11 h16 h17 h18 ⊢; first | omega | (split <;> first | rfl | (exfalso; omega)))
  refine v_tableOut hC dX11_count_1 (tgt := 148) (by simp only [Int32.lt_iff_toInt_lt, Int32.le_iff_toInt_le, Int32.reduceToInt, ← Int32.toInt_inj] at h1 h2 h3 h4 h9 h10 h11 h16 h17 h18 ⊢; omega) (by decide) ?_
  refine v_iconst hC dX11_count_148 (v := (-1)) (by decide) ?_
  exact hR _ _ _ _ _ _ _ dX11_count_149 rfl (Nat.le_of_ble_eq_true rfl) (Nat.le_of_ble_eq_true rfl) (by unfold sp_count; simp only [Int32.lt_iff_toInt_lt, Int32.le_iff_toInt_le, Int32.reduceToInt, ← Int32.toInt_inj] at h1 h2 h3 h4 h9 h10 h11 h16 h17 h18 ⊢; first | omega | (split <;> first | rfl | (exfalso; omega)))
