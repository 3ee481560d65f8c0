set_option maxRecDepth 100000 in
set_option maxHeartbeats 4000000 in
theorem k_X1 {l : Launch} {E : Ez} {L : List Nat} {f : Nat → va_E} {h : Nat} (m_h : h ∈ L) (e_h : f h = ob 1 [.null, .int 0]) : CV l yX1_init cX1_init 1 1 1 256 E [.ref h] L f (fun L1 f1 => (∀ b ∈ L, b ≠ h → b ∈ L1 ∧ f1 b = f b) ∧ ∃ y0 : Nat, h ∈ L1 ∧ f1 h = ob 1 [.ref y0, .int 0] ∧ y0 ∈ L1 ∧ f1 y0 = aB E 256 (fun _ => 0)) := by
  refine cv_of (by decide) (Nat.le_of_ble_eq_true rfl) (fun z hz hnm hC hR => ?_)
  have hC : Cx z E cX1_init RX1 1 1 1 256 := hC
  subst hz
  show V z E 1 0 0 L f 0 [(0, .ref h)] []
  refine v_aload_n hC dX1_init_0 rfl ?_
  refine v_objinit hC mo_X1_3 mo_i mo_c (by decide) dX1_init_1 ?_
  refine v_aload_n hC dX1_init_4 rfl ?_
  refine v_sipush hC dX1_init_5 (v := 256) (by decide) ?_
  refine v_newaG hC (t := 0) (ty := .byte) (N' := 256) (a0 := (256, .inl (fun _ => 0))) rfl ac_byte rfl (fun _ => rfl) (by decide) (by decide) (by decide) (Nat.le_of_ble_eq_true rfl) (Nat.le_of_ble_eq_true rfl) dX1_init_8 (fun q_1 f_2 hq_3 hf_4 hk_5 => ?_)
  obtain ⟨L_8, hs_7⟩ : ∃ L9, L9 = L ++ [q_1] := ⟨_, rfl⟩
  rw [← hs_7]
  have hm_6 : q_1 ∈ L_8 := by rw [hs_7]; exact List.mem_append_right _ List.mem_cons_self
  have hm_10 : h ∈ L_8 := by rw [hs_7]; exact List.mem_append_left _ m_h
  have hf_9 := (hk_5 h (ne_in m_h hq_3)).trans e_h
  refine v_widen (k := 1) (n := 256) (Nat.le_of_ble_eq_true rfl) (Nat.le_of_ble_eq_true rfl) ?_
  refine v_putF hC (by rw [hnm]; rfl) fl_X1_9 hm_10 hf_9 rfl rfl (Nat.le_of_ble_eq_true rfl) (fs' := [.ref q_1, .int 0]) rfl dX1_init_10 (fun f_11 hf_12 hk_13 => ?_)
  have hf_14 := (hk_13 q_1 (ne_kd hf_4 hf_9 rfl)).trans hf_4
  have hkp_15 : ∀ b ∈ L, b ≠ h → b ∈ L_8 ∧ f_11 b = f b := by
    intro b hb0 hn0
    have e1 := hk_5 b (ne_in hb0 hq_3)
    have b1 : b ∈ L_8 := by rw [hs_7]; exact List.mem_append_left _ hb0
    have e2 := hk_13 b hn0
    exact ⟨b1, (e2.trans e1)⟩
  exact hR _ _ _ _ _ _ dX1_init_13 (Nat.le_of_ble_eq_true rfl) (Nat.le_of_ble_eq_true rfl) ⟨hkp_15, q_1, hm_10, hf_12, hm_6, hf_14⟩
set_option maxRecDepth 100000 in
set_option maxHeartbeats 4000000 in
theorem k_X2 {l : Launch} {E : Ez} {L : List Nat} {f : Nat → va_E} {h : Nat} (m_h : h ∈ L) (e_h : f h = ob 2 [.null, .int 0]) : CV l yX2_init cX2_init 1 1 1 51 E [.ref h] L f (fun L1 f1 => (∀ b ∈ L, b ≠ h → b ∈ L1 ∧ f1 b = f b) ∧ ∃ y0 : Nat, h ∈ L1 ∧ f1 h = ob 2 [.ref y0, .int 0] ∧ y0 ∈ L1 ∧ f1 y0 = aI E 51 (fun _ => 0)) := by
  refine cv_of (by decide) (Nat.le_of_ble_eq_true rfl) (fun z hz hnm hC hR => ?_)
  have hC : Cx z E cX2_init RX2 1 1 1 51 := hC
  subst hz
  show V z E 1 0 0 L f 0 [(0, .ref h)] []
  refine v_aload_n hC dX2_init_0 rfl ?_
  refine v_objinit hC mo_X2_3 mo_i mo_c (by decide) dX2_init_1 ?_
  refine v_aload_n hC dX2_init_4 rfl ?_
  refine v_bipush hC dX2_init_5 (v := 51) (by decide) ?_
  refine v_newaG hC (t := 1) (ty := .int) (N' := 51) (a0 := (51, .inl (fun _ => 0))) rfl ac_int rfl (fun _ => rfl) (by decide) (by decide) (by decide) (Nat.le_of_ble_eq_true rfl) (Nat.le_of_ble_eq_true rfl) dX2_init_7 (fun q_1 f_2 hq_3 hf_4 hk_5 => ?_)
  obtain ⟨L_8, hs_7⟩ : ∃ L9, L9 = L ++ [q_1] := ⟨_, rfl⟩
  rw [← hs_7]
  have hm_6 : q_1 ∈ L_8 := by rw [hs_7]; exact List.mem_append_right _ List.mem_cons_self
  have hm_10 : h ∈ L_8 := by rw [hs_7]; exact List.mem_append_left _ m_h
  have hf_9 := (hk_5 h (ne_in m_h hq_3)).trans e_h
  refine v_widen (k := 1) (n := 51) (Nat.le_of_ble_eq_true rfl) (Nat.le_of_ble_eq_true rfl) ?_
  refine v_putF hC (by rw [hnm]; rfl) fl_X2_9 hm_10 hf_9 rfl rfl (Nat.le_of_ble_eq_true rfl) (fs' := [.ref q_1, .int 0]) rfl dX2_init_9 (fun f_11 hf_12 hk_13 => ?_)
  have hf_14 := (hk_13 q_1 (ne_kd hf_4 hf_9 rfl)).trans hf_4
  have hkp_15 : ∀ b ∈ L, b ≠ h → b ∈ L_8 ∧ f_11 b = f b := by
    intro b hb0 hn0
    have e1 := hk_5 b (ne_in hb0 hq_3)
    have b1 : b ∈ L_8 := by rw [hs_7]; exact List.mem_append_left _ hb0
    have e2 := hk_13 b hn0
    exact ⟨b1, (e2.trans e1)⟩
  exact hR _ _ _ _ _ _ dX2_init_12 (Nat.le_of_ble_eq_true rfl) (Nat.le_of_ble_eq_true rfl) ⟨hkp_15, q_1, hm_10, hf_12, hm_6, hf_14⟩
set_option maxRecDepth 100000 in
set_option maxHeartbeats 4000000 in
theorem k_X3 {l : Launch} {E : Ez} {L : List Nat} {f : Nat → va_E} {h : Nat} (m_h : h ∈ L) (e_h : f h = ob 3 [.null, .null, .null, .int 0]) : CV l yX3_init cX3_init 1 1 3 36 E [.ref h] L f (fun L1 f1 => (∀ b ∈ L, b ≠ h → b ∈ L1 ∧ f1 b = f b) ∧ ∃ y0 y1 y2 : Nat, h ∈ L1 ∧ f1 h = ob 3 [.ref y0, .ref y1, .ref y2, .int 0] ∧ y0 ∈ L1 ∧ f1 y0 = aI E 12 (fun _ => 0) ∧ y1 ∈ L1 ∧ f1 y1 = aI E 12 (fun _ => 0) ∧ y2 ∈ L1 ∧ f1 y2 = aI E 12 (fun _ => 0)) := by
  refine cv_of (by decide) (Nat.le_of_ble_eq_true rfl) (fun z hz hnm hC hR => ?_)
  have hC : Cx z E cX3_init RX3 1 1 3 36 := hC
  subst hz
  show V z E 1 0 0 L f 0 [(0, .ref h)] []
  refine v_aload_n hC dX3_init_0 rfl ?_
  refine v_objinit hC mo_X3_3 mo_i mo_c (by decide) dX3_init_1 ?_
  refine v_aload_n hC dX3_init_4 rfl ?_
  refine v_bipush hC dX3_init_5 (v := 12) (by decide) ?_
  refine v_newaG hC (t := 1) (ty := .int) (N' := 12) (a0 := (12, .inl (fun _ => 0))) rfl ac_int rfl (fun _ => rfl) (by decide) (by decide) (by decide) (Nat.le_of_ble_eq_true rfl) (Nat.le_of_ble_eq_true rfl) dX3_init_7 (fun q_1 f_2 hq_3 hf_4 hk_5 => ?_)
  obtain ⟨L_8, hs_7⟩ : ∃ L9, L9 = L ++ [q_1] := ⟨_, rfl⟩
  rw [← hs_7]
  have hm_6 : q_1 ∈ L_8 := by rw [hs_7]; exact List.mem_append_right _ List.mem_cons_self
  have hm_10 : h ∈ L_8 := by rw [hs_7]; exact List.mem_append_left _ m_h
  have hf_9 := (hk_5 h (ne_in m_h hq_3)).trans e_h
  refine v_widen (k := 1) (n := 12) (Nat.le_of_ble_eq_true rfl) (Nat.le_of_ble_eq_true rfl) ?_
  refine v_putF hC (by rw [hnm]; rfl) fl_X3_9 hm_10 hf_9 rfl rfl (Nat.le_of_ble_eq_true rfl) (fs' := [.ref q_1, .null, .null, .int 0]) rfl dX3_init_9 (fun f_11 hf_12 hk_13 => ?_)
  have hf_14 := (hk_13 q_1 (ne_kd hf_4 hf_9 rfl)).trans hf_4
  refine v_aload_n hC dX3_init_12 rfl ?_
  refine v_bipush hC dX3_init_13 (v := 12) (by decide) ?_
  refine v_newaG hC (t := 1) (ty := .int) (N' := 12) (a0 := (12, .inl (fun _ => 0))) rfl ac_int rfl (fun _ => rfl) (by decide) (by decide) (by decide) (Nat.le_of_ble_eq_true rfl) (Nat.le_of_ble_eq_true rfl) dX3_init_15 (fun q_15 f_16 hq_17 hf_18 hk_19 => ?_)
  obtain ⟨L_22, hs_21⟩ : ∃ L9, L9 = L_8 ++ [q_15] := ⟨_, rfl⟩
  rw [← hs_21]
  have hm_20 : q_15 ∈ L_22 := by rw [hs_21]; exact List.mem_append_right _ List.mem_cons_self
  have hm_24 : h ∈ L_22 := by rw [hs_21]; exact List.mem_append_left _ hm_10
  have hf_23 := (hk_19 h (ne_in hm_10 hq_17)).trans hf_12
  have hm_26 : q_1 ∈ L_22 := by rw [hs_21]; exact List.mem_append_left _ hm_6
  have hf_25 := (hk_19 q_1 (ne_in hm_6 hq_17)).trans hf_14
  refine v_widen (k := 2) (n := 24) (Nat.le_of_ble_eq_true rfl) (Nat.le_of_ble_eq_true rfl) ?_
  refine v_putF hC (by rw [hnm]; rfl) fl_X3_15 hm_24 hf_23 rfl rfl (Nat.le_of_ble_eq_true rfl) (fs' := [.ref q_1, .ref q_15, .null, .int 0]) rfl dX3_init_17 (fun f_27 hf_28 hk_29 => ?_)
  have hf_30 := (hk_29 q_1 (ne_kd hf_25 hf_23 rfl)).trans hf_25
  have hf_31 := (hk_29 q_15 (ne_kd hf_18 hf_23 rfl)).trans hf_18
  refine v_aload_n hC dX3_init_20 rfl ?_
  refine v_bipush hC dX3_init_21 (v := 12) (by decide) ?_
  refine v_newaG hC (t := 1) (ty := .int) (N' := 12) (a0 := (12, .inl (fun _ => 0))) rfl ac_int rfl (fun _ => rfl) (by decide) (by decide) (by decide) (Nat.le_of_ble_eq_true rfl) (Nat.le_of_ble_eq_true rfl) dX3_init_23 (fun q_32 f_33 hq_34 hf_35 hk_36 => ?_)
  obtain ⟨L_39, hs_38⟩ : ∃ L9, L9 = L_22 ++ [q_32] := ⟨_, rfl⟩
  rw [← hs_38]
  have hm_37 : q_32 ∈ L_39 := by rw [hs_38]; exact List.mem_append_right _ List.mem_cons_self
  have hm_41 : h ∈ L_39 := by rw [hs_38]; exact List.mem_append_left _ hm_24
  have hf_40 := (hk_36 h (ne_in hm_24 hq_34)).trans hf_28
  have hm_43 : q_1 ∈ L_39 := by rw [hs_38]; exact List.mem_append_left _ hm_26
  have hf_42 := (hk_36 q_1 (ne_in hm_26 hq_34)).trans hf_30
  have hm_45 : q_15 ∈ L_39 := by rw [hs_38]; exact List.mem_append_left _ hm_20
  have hf_44 := (hk_36 q_15 (ne_in hm_20 hq_34)).trans hf_31
  refine v_widen (k := 3) (n := 36) (Nat.le_of_ble_eq_true rfl) (Nat.le_of_ble_eq_true rfl) ?_
  refine v_putF hC (by rw [hnm]; rfl) fl_X3_18 hm_41 hf_40 rfl rfl (Nat.le_of_ble_eq_true rfl) (fs' := [.ref q_1, .ref q_15, .ref q_32, .int 0]) rfl dX3_init_25 (fun f_46 hf_47 hk_48 => ?_)
  have hf_49 := (hk_48 q_1 (ne_kd hf_42 hf_40 rfl)).trans hf_42
  have hf_50 := (hk_48 q_15 (ne_kd hf_44 hf_40 rfl)).trans hf_44
  have hf_51 := (hk_48 q_32 (ne_kd hf_35 hf_40 rfl)).trans hf_35
  have hkp_52 : ∀ b ∈ L, b ≠ h → b ∈ L_39 ∧ f_46 b = f b := by
    intro b hb0 hn0
    have e1 := hk_5 b (ne_in hb0 hq_3)
    have b1 : b ∈ L_8 := by rw [hs_7]; exact List.mem_append_left _ hb0
    have e2 := hk_13 b hn0
    have e3 := hk_19 b (ne_in b1 hq_17)
    have b3 : b ∈ L_22 := by rw [hs_21]; exact List.mem_append_left _ b1
    have e4 := hk_29 b hn0
    have e5 := hk_36 b (ne_in b3 hq_34)
    have b5 : b ∈ L_39 := by rw [hs_38]; exact List.mem_append_left _ b3
    have e6 := hk_48 b hn0
    exact ⟨b5, (e6.trans (e5.trans (e4.trans (e3.trans (e2.trans e1)))))⟩
  exact hR _ _ _ _ _ _ dX3_init_28 (Nat.le_of_ble_eq_true rfl) (Nat.le_of_ble_eq_true rfl) ⟨hkp_52, q_1, q_15, q_32, hm_41, hf_47, hm_43, hf_49, hm_45, hf_50, hm_37, hf_51⟩
set_option maxRecDepth 100000 in
set_option maxHeartbeats 4000000 in
theorem k_X4 {l : Launch} {E : Ez} {L : List Nat} {f : Nat → va_E} {h : Nat} (m_h : h ∈ L) (e_h : f h = ob 4 [.null, .null, .int 0, .int 0, .int 0]) : CV l yX4_init cX4_init 1 1 2 512 E [.ref h] L f (fun L1 f1 => (∀ b ∈ L, b ≠ h → b ∈ L1 ∧ f1 b = f b) ∧ ∃ y0 y1 : Nat, h ∈ L1 ∧ f1 h = ob 4 [.ref y0, .ref y1, .int 0, .int 0, .int 0] ∧ y0 ∈ L1 ∧ f1 y0 = aI E 256 (fun _ => 0) ∧ y1 ∈ L1 ∧ f1 y1 = aI E 256 (fun _ => 0)) := by
  refine cv_of (by decide) (Nat.le_of_ble_eq_true rfl) (fun z hz hnm hC hR => ?_)
  have hC : Cx z E cX4_init RX4 1 1 2 512 := hC
  subst hz
  show V z E 1 0 0 L f 0 [(0, .ref h)] []
  refine v_aload_n hC dX4_init_0 rfl ?_
  refine v_objinit hC mo_X4_3 mo_i mo_c (by decide) dX4_init_1 ?_
  refine v_aload_n hC dX4_init_4 rfl ?_
  refine v_sipush hC dX4_init_5 (v := 256) (by decide) ?_
  refine v_newaG hC (t := 1) (ty := .int) (N' := 256) (a0 := (256, .inl (fun _ => 0))) rfl ac_int rfl (fun _ => rfl) (by decide) (by decide) (by decide) (Nat.le_of_ble_eq_true rfl) (Nat.le_of_ble_eq_true rfl) dX4_init_8 (fun q_1 f_2 hq_3 hf_4 hk_5 => ?_)
  obtain ⟨L_8, hs_7⟩ : ∃ L9, L9 = L ++ [q_1] := ⟨_, rfl⟩
  rw [← hs_7]
  have hm_6 : q_1 ∈ L_8 := by rw [hs_7]; exact List.mem_append_right _ List.mem_cons_self
  have hm_10 : h ∈ L_8 := by rw [hs_7]; exact List.mem_append_left _ m_h
  have hf_9 := (hk_5 h (ne_in m_h hq_3)).trans e_h
  refine v_widen (k := 1) (n := 256) (Nat.le_of_ble_eq_true rfl) (Nat.le_of_ble_eq_true rfl) ?_
  refine v_putF hC (by rw [hnm]; rfl) fl_X4_9 hm_10 hf_9 rfl rfl (Nat.le_of_ble_eq_true rfl) (fs' := [.ref q_1, .null, .int 0, .int 0, .int 0]) rfl dX4_init_10 (fun f_11 hf_12 hk_13 => ?_)
  have hf_14 := (hk_13 q_1 (ne_kd hf_4 hf_9 rfl)).trans hf_4
  refine v_aload_n hC dX4_init_13 rfl ?_
  refine v_sipush hC dX4_init_14 (v := 256) (by decide) ?_
  refine v_newaG hC (t := 1) (ty := .int) (N' := 256) (a0 := (256, .inl (fun _ => 0))) rfl ac_int rfl (fun _ => rfl) (by decide) (by decide) (by decide) (Nat.le_of_ble_eq_true rfl) (Nat.le_of_ble_eq_true rfl) dX4_init_17 (fun q_15 f_16 hq_17 hf_18 hk_19 => ?_)
  obtain ⟨L_22, hs_21⟩ : ∃ L9, L9 = L_8 ++ [q_15] := ⟨_, rfl⟩
  rw [← hs_21]
  have hm_20 : q_15 ∈ L_22 := by rw [hs_21]; exact List.mem_append_right _ List.mem_cons_self
  have hm_24 : h ∈ L_22 := by rw [hs_21]; exact List.mem_append_left _ hm_10
  have hf_23 := (hk_19 h (ne_in hm_10 hq_17)).trans hf_12
  have hm_26 : q_1 ∈ L_22 := by rw [hs_21]; exact List.mem_append_left _ hm_6
  have hf_25 := (hk_19 q_1 (ne_in hm_6 hq_17)).trans hf_14
  refine v_widen (k := 2) (n := 512) (Nat.le_of_ble_eq_true rfl) (Nat.le_of_ble_eq_true rfl) ?_
  refine v_putF hC (by rw [hnm]; rfl) fl_X4_15 hm_24 hf_23 rfl rfl (Nat.le_of_ble_eq_true rfl) (fs' := [.ref q_1, .ref q_15, .int 0, .int 0, .int 0]) rfl dX4_init_19 (fun f_27 hf_28 hk_29 => ?_)
  have hf_30 := (hk_29 q_1 (ne_kd hf_25 hf_23 rfl)).trans hf_25
  have hf_31 := (hk_29 q_15 (ne_kd hf_18 hf_23 rfl)).trans hf_18
  have hkp_32 : ∀ b ∈ L, b ≠ h → b ∈ L_22 ∧ f_27 b = f b := by
    intro b hb0 hn0
    have e1 := hk_5 b (ne_in hb0 hq_3)
    have b1 : b ∈ L_8 := by rw [hs_7]; exact List.mem_append_left _ hb0
    have e2 := hk_13 b hn0
    have e3 := hk_19 b (ne_in b1 hq_17)
    have b3 : b ∈ L_22 := by rw [hs_21]; exact List.mem_append_left _ b1
    have e4 := hk_29 b hn0
    exact ⟨b3, (e4.trans (e3.trans (e2.trans e1)))⟩
  exact hR _ _ _ _ _ _ dX4_init_22 (Nat.le_of_ble_eq_true rfl) (Nat.le_of_ble_eq_true rfl) ⟨hkp_32, q_1, q_15, hm_24, hf_28, hm_26, hf_30, hm_20, hf_31⟩
set_option maxRecDepth 100000 in
set_option maxHeartbeats 4000000 in
theorem k_X5 {l : Launch} {E : Ez} {L : List Nat} {f : Nat → va_E} {h : Nat} (m_h : h ∈ L) (e_h : f h = ob 5 [.null, .int 0, .int 0]) : CV l yX5_init cX5_init 1 1 1 60 E [.ref h] L f (fun L1 f1 => (∀ b ∈ L, b ≠ h → b ∈ L1 ∧ f1 b = f b) ∧ ∃ y0 : Nat, h ∈ L1 ∧ f1 h = ob 5 [.ref y0, .int (-1), .int 0] ∧ y0 ∈ L1 ∧ f1 y0 = aJ E 60 (fun _ => 0)) := by
  refine cv_of (by decide) (Nat.le_of_ble_eq_true rfl) (fun z hz hnm hC hR => ?_)
  have hC : Cx z E cX5_init RX5 1 1 1 60 := hC
  subst hz
  show V z E 1 0 0 L f 0 [(0, .ref h)] []
  refine v_aload_n hC dX5_init_0 rfl ?_
  refine v_objinit hC mo_X5_3 mo_i mo_c (by decide) dX5_init_1 ?_
  refine v_aload_n hC dX5_init_4 rfl ?_
  refine v_bipush hC dX5_init_5 (v := 60) (by decide) ?_
  refine v_newaG hC (t := 2) (ty := .long) (N' := 60) (a0 := (60, .inr (.inl (fun _ => 0)))) rfl ac_long rfl (fun _ => rfl) (by decide) (by decide) (by decide) (Nat.le_of_ble_eq_true rfl) (Nat.le_of_ble_eq_true rfl) dX5_init_7 (fun q_1 f_2 hq_3 hf_4 hk_5 => ?_)
  obtain ⟨L_8, hs_7⟩ : ∃ L9, L9 = L ++ [q_1] := ⟨_, rfl⟩
  rw [← hs_7]
  have hm_6 : q_1 ∈ L_8 := by rw [hs_7]; exact List.mem_append_right _ List.mem_cons_self
  have hm_10 : h ∈ L_8 := by rw [hs_7]; exact List.mem_append_left _ m_h
  have hf_9 := (hk_5 h (ne_in m_h hq_3)).trans e_h
  refine v_widen (k := 1) (n := 60) (Nat.le_of_ble_eq_true rfl) (Nat.le_of_ble_eq_true rfl) ?_
  refine v_putF hC (by rw [hnm]; rfl) fl_X5_9 hm_10 hf_9 rfl rfl (Nat.le_of_ble_eq_true rfl) (fs' := [.ref q_1, .int 0, .int 0]) rfl dX5_init_9 (fun f_11 hf_12 hk_13 => ?_)
  have hf_14 := (hk_13 q_1 (ne_kd hf_4 hf_9 rfl)).trans hf_4
  refine v_aload_n hC dX5_init_12 rfl ?_
  refine v_iconst hC dX5_init_13 (v := (-1)) (by decide) ?_
  refine v_put hC fl_X5_15 hm_10 hf_12 rfl rfl (Nat.le_of_ble_eq_true rfl) (fs' := [.ref q_1, .int (-1), .int 0]) rfl dX5_init_14 (fun f_15 hf_16 hk_17 => ?_)
  have hf_18 := (hk_17 q_1 (ne_kd hf_14 hf_12 rfl)).trans hf_14
  have hkp_19 : ∀ b ∈ L, b ≠ h → b ∈ L_8 ∧ f_15 b = f b := by
    intro b hb0 hn0
    have e1 := hk_5 b (ne_in hb0 hq_3)
    have b1 : b ∈ L_8 := by rw [hs_7]; exact List.mem_append_left _ hb0
    have e2 := hk_13 b hn0
    have e3 := hk_17 b hn0
    exact ⟨b1, (e3.trans (e2.trans e1))⟩
  exact hR _ _ _ _ _ _ dX5_init_17 (Nat.le_of_ble_eq_true rfl) (Nat.le_of_ble_eq_true rfl) ⟨hkp_19, q_1, hm_10, hf_16, hm_6, hf_18⟩
set_option maxRecDepth 100000 in
set_option maxHeartbeats 4000000 in
theorem k_X7 {l : Launch} {E : Ez} {L : List Nat} {f : Nat → va_E} {h : Nat} (m_h : h ∈ L) (e_h : f h = ob 7 [.null, .int 0, .int 0, .int 0, .int 0, .int 0, .int 0]) : CV l yX7_init cX7_init 1 1 1 600 E [.ref h] L f (fun L1 f1 => (∀ b ∈ L, b ≠ h → b ∈ L1 ∧ f1 b = f b) ∧ ∃ y0 : Nat, h ∈ L1 ∧ f1 h = ob 7 [.ref y0, .int 0, .int 0, .int 0, .int 0, .int 0, .int (-1)] ∧ y0 ∈ L1 ∧ f1 y0 = aI E 600 (fun _ => 0)) := by
  refine cv_of (by decide) (Nat.le_of_ble_eq_true rfl) (fun z hz hnm hC hR => ?_)
  have hC : Cx z E cX7_init RX7 1 1 1 600 := hC
  subst hz
  show V z E 1 0 0 L f 0 [(0, .ref h)] []
  refine v_aload_n hC dX7_init_0 rfl ?_
  refine v_objinit hC mo_X7_3 mo_i mo_c (by decide) dX7_init_1 ?_
  refine v_aload_n hC dX7_init_4 rfl ?_
  refine v_sipush hC dX7_init_5 (v := 600) (by decide) ?_
  refine v_newaG hC (t := 1) (ty := .int) (N' := 600) (a0 := (600, .inl (fun _ => 0))) rfl ac_int rfl (fun _ => rfl) (by decide) (by decide) (by decide) (Nat.le_of_ble_eq_true rfl) (Nat.le_of_ble_eq_true rfl) dX7_init_8 (fun q_1 f_2 hq_3 hf_4 hk_5 => ?_)
  obtain ⟨L_8, hs_7⟩ : ∃ L9, L9 = L ++ [q_1] := ⟨_, rfl⟩
  rw [← hs_7]
  have hm_6 : q_1 ∈ L_8 := by rw [hs_7]; exact List.mem_append_right _ List.mem_cons_self
  have hm_10 : h ∈ L_8 := by rw [hs_7]; exact List.mem_append_left _ m_h
  have hf_9 := (hk_5 h (ne_in m_h hq_3)).trans e_h
  refine v_widen (k := 1) (n := 600) (Nat.le_of_ble_eq_true rfl) (Nat.le_of_ble_eq_true rfl) ?_
  refine v_putF hC (by rw [hnm]; rfl) fl_X7_9 hm_10 hf_9 rfl rfl (Nat.le_of_ble_eq_true rfl) (fs' := [.ref q_1, .int 0, .int 0, .int 0, .int 0, .int 0, .int 0]) rfl dX7_init_10 (fun f_11 hf_12 hk_13 => ?_)
  have hf_14 := (hk_13 q_1 (ne_kd hf_4 hf_9 rfl)).trans hf_4
  refine v_aload_n hC dX7_init_13 rfl ?_
  refine v_iconst hC dX7_init_14 (v := (-1)) (by decide) ?_
  refine v_put hC fl_X7_15 hm_10 hf_12 rfl rfl (Nat.le_of_ble_eq_true rfl) (fs' := [.ref q_1, .int 0, .int 0, .int 0, .int 0, .int 0, .int (-1)]) rfl dX7_init_15 (fun f_15 hf_16 hk_17 => ?_)
  have hf_18 := (hk_17 q_1 (ne_kd hf_14 hf_12 rfl)).trans hf_14
  have hkp_19 : ∀ b ∈ L, b ≠ h → b ∈ L_8 ∧ f_15 b = f b := by
    intro b hb0 hn0
    have e1 := hk_5 b (ne_in hb0 hq_3)
    have b1 : b ∈ L_8 := by rw [hs_7]; exact List.mem_append_left _ hb0
    have e2 := hk_13 b hn0
    have e3 := hk_17 b hn0
    exact ⟨b1, (e3.trans (e2.trans e1))⟩
  exact hR _ _ _ _ _ _ dX7_init_18 (Nat.le_of_ble_eq_true rfl) (Nat.le_of_ble_eq_true rfl) ⟨hkp_19, q_1, hm_10, hf_16, hm_6, hf_18⟩
set_option maxRecDepth 100000 in
set_option maxHeartbeats 4000000 in
theorem k_X9 {l : Launch} {E : Ez} {L : List Nat} {f : Nat → va_E} {h : Nat} (m_h : h ∈ L) (e_h : f h = ob 9 [.null, .int 0, .int 0]) : CV l yX9_init cX9_init 1 1 1 300 E [.ref h] L f (fun L1 f1 => (∀ b ∈ L, b ≠ h → b ∈ L1 ∧ f1 b = f b) ∧ ∃ y0 : Nat, h ∈ L1 ∧ f1 h = ob 9 [.ref y0, .int 0, .int 0] ∧ y0 ∈ L1 ∧ f1 y0 = aI E 300 (fun _ => 0)) := by
  refine cv_of (by decide) (Nat.le_of_ble_eq_true rfl) (fun z hz hnm hC hR => ?_)
  have hC : Cx z E cX9_init RX9 1 1 1 300 := hC
  subst hz
  show V z E 1 0 0 L f 0 [(0, .ref h)] []
  refine v_aload_n hC dX9_init_0 rfl ?_
  refine v_objinit hC mo_X9_5 mo_i mo_c (by decide) dX9_init_1 ?_
  refine v_aload_n hC dX9_init_4 rfl ?_
  refine v_sipush hC dX9_init_5 (v := 300) (by decide) ?_
  refine v_newaG hC (t := 1) (ty := .int) (N' := 300) (a0 := (300, .inl (fun _ => 0))) rfl ac_int rfl (fun _ => rfl) (by decide) (by decide) (by decide) (Nat.le_of_ble_eq_true rfl) (Nat.le_of_ble_eq_true rfl) dX9_init_8 (fun q_1 f_2 hq_3 hf_4 hk_5 => ?_)
  obtain ⟨L_8, hs_7⟩ : ∃ L9, L9 = L ++ [q_1] := ⟨_, rfl⟩
  rw [← hs_7]
  have hm_6 : q_1 ∈ L_8 := by rw [hs_7]; exact List.mem_append_right _ List.mem_cons_self
  have hm_10 : h ∈ L_8 := by rw [hs_7]; exact List.mem_append_left _ m_h
  have hf_9 := (hk_5 h (ne_in m_h hq_3)).trans e_h
  refine v_widen (k := 1) (n := 300) (Nat.le_of_ble_eq_true rfl) (Nat.le_of_ble_eq_true rfl) ?_
  refine v_putF hC (by rw [hnm]; rfl) fl_X9_13 hm_10 hf_9 rfl rfl (Nat.le_of_ble_eq_true rfl) (fs' := [.ref q_1, .int 0, .int 0]) rfl dX9_init_10 (fun f_11 hf_12 hk_13 => ?_)
  have hf_14 := (hk_13 q_1 (ne_kd hf_4 hf_9 rfl)).trans hf_4
  have hkp_15 : ∀ b ∈ L, b ≠ h → b ∈ L_8 ∧ f_11 b = f b := by
    intro b hb0 hn0
    have e1 := hk_5 b (ne_in hb0 hq_3)
    have b1 : b ∈ L_8 := by rw [hs_7]; exact List.mem_append_left _ hb0
    have e2 := hk_13 b hn0
    exact ⟨b1, (e2.trans e1)⟩
  exact hR _ _ _ _ _ _ dX9_init_13 (Nat.le_of_ble_eq_true rfl) (Nat.le_of_ble_eq_true rfl) ⟨hkp_15, q_1, hm_10, hf_12, hm_6, hf_14⟩
set_option maxRecDepth 100000 in
set_option maxHeartbeats 4000000 in
theorem k_X8 {l : Launch} {E : Ez} {L : List Nat} {f : Nat → va_E} {h : Nat} (m_h : h ∈ L) (e_h : f h = ob 8 [.null, .int 0, .int 0, .int 0, .int 0]) : CV l yX8_init cX8_init 1 1 1 256 E [.ref h] L f (fun L1 f1 => (∀ b ∈ L, b ≠ h → b ∈ L1 ∧ f1 b = f b) ∧ True) := by
  refine cv_of (by decide) (Nat.le_of_ble_eq_true rfl) (fun z hz hnm hC hR => ?_)
  have hC : Cx z E cX8_init RX8 1 1 1 256 := hC
  subst hz
  show V z E 1 0 0 L f 0 [(0, .ref h)] []
  refine v_aload_n hC dX8_init_0 rfl ?_
  refine v_objinit hC mo_X8_3 mo_i mo_c (by decide) dX8_init_1 ?_
  refine v_aload_n hC dX8_init_4 rfl ?_
  refine v_sipush hC dX8_init_5 (v := 256) (by decide) ?_
  refine v_newaG hC (t := 1) (ty := .int) (N' := 256) (a0 := (256, .inl (fun _ => 0))) rfl ac_int rfl (fun _ => rfl) (by decide) (by decide) (by decide) (Nat.le_of_ble_eq_true rfl) (Nat.le_of_ble_eq_true rfl) dX8_init_8 (fun q_1 f_2 hq_3 hf_4 hk_5 => ?_)
  obtain ⟨L_8, hs_7⟩ : ∃ L9, L9 = L ++ [q_1] := ⟨_, rfl⟩
  rw [← hs_7]
  have hm_6 : q_1 ∈ L_8 := by rw [hs_7]; exact List.mem_append_right _ List.mem_cons_self
  have hm_10 : h ∈ L_8 := by rw [hs_7]; exact List.mem_append_left _ m_h
  have hf_9 := (hk_5 h (ne_in m_h hq_3)).trans e_h
  refine v_widen (k := 1) (n := 256) (Nat.le_of_ble_eq_true rfl) (Nat.le_of_ble_eq_true rfl) ?_
  refine v_putF hC (by rw [hnm]; rfl) fl_X8_9 hm_10 hf_9 rfl rfl (Nat.le_of_ble_eq_true rfl) (fs' := [.ref q_1, .int 0, .int 0, .int 0, .int 0]) rfl dX8_init_10 (fun f_11 hf_12 hk_13 => ?_)
  have hf_14 := (hk_13 q_1 (ne_kd hf_4 hf_9 rfl)).trans hf_4
  refine v_aload_n hC dX8_init_13 rfl ?_
  refine v_iconst hC dX8_init_14 (v := 1) (by decide) ?_
  refine v_put hC fl_X8_15 hm_10 hf_12 rfl rfl (Nat.le_of_ble_eq_true rfl) (fs' := [.ref q_1, .int 0, .int 1, .int 0, .int 0]) rfl dX8_init_15 (fun f_15 hf_16 hk_17 => ?_)
  have hf_18 := (hk_17 q_1 (ne_kd hf_14 hf_12 rfl)).trans hf_14
  refine v_aload_n hC dX8_init_18 rfl ?_
  refine v_iconst hC dX8_init_19 (v := 1) (by decide) ?_
  refine v_put hC fl_X8_19 hm_10 hf_16 rfl rfl (Nat.le_of_ble_eq_true rfl) (fs' := [.ref q_1, .int 0, .int 1, .int 1, .int 0]) rfl dX8_init_20 (fun f_19 hf_20 hk_21 => ?_)
  have hf_22 := (hk_21 q_1 (ne_kd hf_18 hf_16 rfl)).trans hf_18
  have hkp_23 : ∀ b ∈ L, b ≠ h → b ∈ L_8 ∧ f_19 b = f b := by
    intro b hb0 hn0
    have e1 := hk_5 b (ne_in hb0 hq_3)
    have b1 : b ∈ L_8 := by rw [hs_7]; exact List.mem_append_left _ hb0
    have e2 := hk_13 b hn0
    have e3 := hk_17 b hn0
    have e4 := hk_21 b hn0
    exact ⟨b1, (e4.trans (e3.trans (e2.trans e1)))⟩
  exact hR _ _ _ _ _ _ dX8_init_23 (Nat.le_of_ble_eq_true rfl) (Nat.le_of_ble_eq_true rfl) ⟨hkp_23, trivial⟩
set_option maxRecDepth 100000 in
set_option maxHeartbeats 4000000 in
theorem k_X6 {l : Launch} {E : Ez} {L : List Nat} {f : Nat → va_E} {h : Nat} (m_h : h ∈ L) (e_h : f h = ob 6 [.null, .null, .null, .null, .null, .int 0, .int 0, .int 0, .int 0, .int 0]) : CV l yX6_init cX6_init 1 2 6 791 E [.ref h] L f (fun L1 f1 => (∀ b ∈ L, b ≠ h → b ∈ L1 ∧ f1 b = f b) ∧ True) := by
  refine cv_of (by decide) (Nat.le_of_ble_eq_true rfl) (fun z hz hnm hC hR => ?_)
  have hC : Cx z E cX6_init RX6 1 2 6 791 := hC
  subst hz
  show V z E 1 0 0 L f 0 [(0, .ref h)] []
  refine v_aload_n hC dX6_init_0 rfl ?_
  refine v_objinit hC mo_X6_3 mo_i mo_c (by decide) dX6_init_1 ?_
  refine v_aload_n hC dX6_init_4 rfl ?_
  refine v_new hC (ci := 1) (fs := [.null, .int 0]) rfl inX1 tyX1_ok kl_X6_9 in_X1 ii_X1 (fun j hj => by rcases (show j = 0 ∨ j = 1 by omega) with rfl | rfl <;> rfl) (Nat.le_of_ble_eq_true rfl) (Nat.le_of_ble_eq_true rfl) dX6_init_5 (fun q_1 f_2 hq_3 hf_4 hk_5 => ?_)
  obtain ⟨L_8, hs_7⟩ : ∃ L9, L9 = L ++ [q_1] := ⟨_, rfl⟩
  rw [← hs_7]
  have hm_6 : q_1 ∈ L_8 := by rw [hs_7]; exact List.mem_append_right _ List.mem_cons_self
  have hm_10 : h ∈ L_8 := by rw [hs_7]; exact List.mem_append_left _ m_h
  have hf_9 := (hk_5 h (ne_in m_h hq_3)).trans e_h
  refine v_widen (k := 1) (n := 2) (Nat.le_of_ble_eq_true rfl) (Nat.le_of_ble_eq_true rfl) ?_
  refine v_dup hC dX6_init_8 rfl ?_
  refine v_xvN hC (rest := [.ref q_1, .ref h]) rfl mi_X1_init (k_X1 hm_6 hf_4) mx_X1_init mn_X6_11 (by decide) rfl (cells1 := 2) (slots1 := 258) (by decide) (by decide) (Nat.le_of_ble_eq_true rfl) (Nat.le_of_ble_eq_true rfl) rfl (Nat.le_of_ble_eq_true rfl) dX6_init_9 (fun L_12 f_13 h_14 => ?_)
  obtain ⟨hk_15, q_16, hm_17, hf_18, hm_19, hf_20⟩ := h_14
  have hx_23 := hk_15 h hm_10 (ne_in m_h hq_3)
  have hm_21 := hx_23.1
  have hf_22 := hx_23.2.trans hf_9
  refine v_putF hC (by rw [hnm]; rfl) fl_X6_12 hm_21 hf_22 rfl rfl (Nat.le_of_ble_eq_true rfl) (fs' := [.ref q_1, .null, .null, .null, .null, .int 0, .int 0, .int 0, .int 0, .int 0]) rfl dX6_init_12 (fun f_24 hf_25 hk_26 => ?_)
  have hf_27 := (hk_26 q_1 (ne_kd hf_18 hf_22 rfl)).trans hf_18
  have hf_28 := (hk_26 q_16 (ne_kd hf_20 hf_22 rfl)).trans hf_20
  refine v_aload_n hC dX6_init_15 rfl ?_
  refine v_iconst hC dX6_init_16 (v := 5) (by decide) ?_
  refine v_newaG hC (t := 1) (ty := .int) (N' := 5) (a0 := (5, .inl (fun _ => 0))) rfl ac_int rfl (fun _ => rfl) (by decide) (by decide) (by decide) (Nat.le_of_ble_eq_true rfl) (Nat.le_of_ble_eq_true rfl) dX6_init_17 (fun q_29 f_30 hq_31 hf_32 hk_33 => ?_)
  obtain ⟨L_36, hs_35⟩ : ∃ L9, L9 = L_12 ++ [q_29] := ⟨_, rfl⟩
  rw [← hs_35]
  have hm_34 : q_29 ∈ L_36 := by rw [hs_35]; exact List.mem_append_right _ List.mem_cons_self
  have hm_38 : h ∈ L_36 := by rw [hs_35]; exact List.mem_append_left _ hm_21
  have hf_37 := (hk_33 h (ne_in hm_21 hq_31)).trans hf_25
  have hm_40 : q_1 ∈ L_36 := by rw [hs_35]; exact List.mem_append_left _ hm_17
  have hf_39 := (hk_33 q_1 (ne_in hm_17 hq_31)).trans hf_27
  have hm_42 : q_16 ∈ L_36 := by rw [hs_35]; exact List.mem_append_left _ hm_19
  have hf_41 := (hk_33 q_16 (ne_in hm_19 hq_31)).trans hf_28
  refine v_widen (k := 3) (n := 263) (Nat.le_of_ble_eq_true rfl) (Nat.le_of_ble_eq_true rfl) ?_
  refine v_putF hC (by rw [hnm]; rfl) fl_X6_18 hm_38 hf_37 rfl rfl (Nat.le_of_ble_eq_true rfl) (fs' := [.ref q_1, .ref q_29, .null, .null, .null, .int 0, .int 0, .int 0, .int 0, .int 0]) rfl dX6_init_19 (fun f_43 hf_44 hk_45 => ?_)
  have hf_46 := (hk_45 q_1 (ne_kd hf_39 hf_37 rfl)).trans hf_39
  have hf_47 := (hk_45 q_16 (ne_kd hf_41 hf_37 rfl)).trans hf_41
  have hf_48 := (hk_45 q_29 (ne_kd hf_32 hf_37 rfl)).trans hf_32
  refine v_aload_n hC dX6_init_22 rfl ?_
  refine v_bipush hC dX6_init_23 (v := 16) (by decide) ?_
  refine v_newaG hC (t := 1) (ty := .int) (N' := 16) (a0 := (16, .inl (fun _ => 0))) rfl ac_int rfl (fun _ => rfl) (by decide) (by decide) (by decide) (Nat.le_of_ble_eq_true rfl) (Nat.le_of_ble_eq_true rfl) dX6_init_25 (fun q_49 f_50 hq_51 hf_52 hk_53 => ?_)
  obtain ⟨L_56, hs_55⟩ : ∃ L9, L9 = L_36 ++ [q_49] := ⟨_, rfl⟩
  rw [← hs_55]
  have hm_54 : q_49 ∈ L_56 := by rw [hs_55]; exact List.mem_append_right _ List.mem_cons_self
  have hm_58 : h ∈ L_56 := by rw [hs_55]; exact List.mem_append_left _ hm_38
  have hf_57 := (hk_53 h (ne_in hm_38 hq_51)).trans hf_44
  have hm_60 : q_1 ∈ L_56 := by rw [hs_55]; exact List.mem_append_left _ hm_40
  have hf_59 := (hk_53 q_1 (ne_in hm_40 hq_51)).trans hf_46
  have hm_62 : q_16 ∈ L_56 := by rw [hs_55]; exact List.mem_append_left _ hm_42
  have hf_61 := (hk_53 q_16 (ne_in hm_42 hq_51)).trans hf_47
  have hm_64 : q_29 ∈ L_56 := by rw [hs_55]; exact List.mem_append_left _ hm_34
  have hf_63 := (hk_53 q_29 (ne_in hm_34 hq_51)).trans hf_48
  refine v_widen (k := 4) (n := 279) (Nat.le_of_ble_eq_true rfl) (Nat.le_of_ble_eq_true rfl) ?_
  refine v_putF hC (by rw [hnm]; rfl) fl_X6_22 hm_58 hf_57 rfl rfl (Nat.le_of_ble_eq_true rfl) (fs' := [.ref q_1, .ref q_29, .ref q_49, .null, .null, .int 0, .int 0, .int 0, .int 0, .int 0]) rfl dX6_init_27 (fun f_65 hf_66 hk_67 => ?_)
  have hf_68 := (hk_67 q_1 (ne_kd hf_59 hf_57 rfl)).trans hf_59
  have hf_69 := (hk_67 q_16 (ne_kd hf_61 hf_57 rfl)).trans hf_61
  have hf_70 := (hk_67 q_29 (ne_kd hf_63 hf_57 rfl)).trans hf_63
  have hf_71 := (hk_67 q_49 (ne_kd hf_52 hf_57 rfl)).trans hf_52
  refine v_aload_n hC dX6_init_30 rfl ?_
  refine v_sipush hC dX6_init_31 (v := 256) (by decide) ?_
  refine v_newaG hC (t := 1) (ty := .int) (N' := 256) (a0 := (256, .inl (fun _ => 0))) rfl ac_int rfl (fun _ => rfl) (by decide) (by decide) (by decide) (Nat.le_of_ble_eq_true rfl) (Nat.le_of_ble_eq_true rfl) dX6_init_34 (fun q_72 f_73 hq_74 hf_75 hk_76 => ?_)
  obtain ⟨L_79, hs_78⟩ : ∃ L9, L9 = L_56 ++ [q_72] := ⟨_, rfl⟩
  rw [← hs_78]
  have hm_77 : q_72 ∈ L_79 := by rw [hs_78]; exact List.mem_append_right _ List.mem_cons_self
  have hm_81 : h ∈ L_79 := by rw [hs_78]; exact List.mem_append_left _ hm_58
  have hf_80 := (hk_76 h (ne_in hm_58 hq_74)).trans hf_66
  have hm_83 : q_1 ∈ L_79 := by rw [hs_78]; exact List.mem_append_left _ hm_60
  have hf_82 := (hk_76 q_1 (ne_in hm_60 hq_74)).trans hf_68
  have hm_85 : q_16 ∈ L_79 := by rw [hs_78]; exact List.mem_append_left _ hm_62
  have hf_84 := (hk_76 q_16 (ne_in hm_62 hq_74)).trans hf_69
  have hm_87 : q_29 ∈ L_79 := by rw [hs_78]; exact List.mem_append_left _ hm_64
  have hf_86 := (hk_76 q_29 (ne_in hm_64 hq_74)).trans hf_70
  have hm_89 : q_49 ∈ L_79 := by rw [hs_78]; exact List.mem_append_left _ hm_54
  have hf_88 := (hk_76 q_49 (ne_in hm_54 hq_74)).trans hf_71
  refine v_widen (k := 5) (n := 535) (Nat.le_of_ble_eq_true rfl) (Nat.le_of_ble_eq_true rfl) ?_
  refine v_putF hC (by rw [hnm]; rfl) fl_X6_25 hm_81 hf_80 rfl rfl (Nat.le_of_ble_eq_true rfl) (fs' := [.ref q_1, .ref q_29, .ref q_49, .ref q_72, .null, .int 0, .int 0, .int 0, .int 0, .int 0]) rfl dX6_init_36 (fun f_90 hf_91 hk_92 => ?_)
  have hf_93 := (hk_92 q_1 (ne_kd hf_82 hf_80 rfl)).trans hf_82
  have hf_94 := (hk_92 q_16 (ne_kd hf_84 hf_80 rfl)).trans hf_84
  have hf_95 := (hk_92 q_29 (ne_kd hf_86 hf_80 rfl)).trans hf_86
  have hf_96 := (hk_92 q_49 (ne_kd hf_88 hf_80 rfl)).trans hf_88
  have hf_97 := (hk_92 q_72 (ne_kd hf_75 hf_80 rfl)).trans hf_75
  refine v_aload_n hC dX6_init_39 rfl ?_
  refine v_sipush hC dX6_init_40 (v := 256) (by decide) ?_
  refine v_newaG hC (t := 1) (ty := .int) (N' := 256) (a0 := (256, .inl (fun _ => 0))) rfl ac_int rfl (fun _ => rfl) (by decide) (by decide) (by decide) (Nat.le_of_ble_eq_true rfl) (Nat.le_of_ble_eq_true rfl) dX6_init_43 (fun q_98 f_99 hq_100 hf_101 hk_102 => ?_)
  obtain ⟨L_105, hs_104⟩ : ∃ L9, L9 = L_79 ++ [q_98] := ⟨_, rfl⟩
  rw [← hs_104]
  have hm_103 : q_98 ∈ L_105 := by rw [hs_104]; exact List.mem_append_right _ List.mem_cons_self
  have hm_107 : h ∈ L_105 := by rw [hs_104]; exact List.mem_append_left _ hm_81
  have hf_106 := (hk_102 h (ne_in hm_81 hq_100)).trans hf_91
  have hm_109 : q_1 ∈ L_105 := by rw [hs_104]; exact List.mem_append_left _ hm_83
  have hf_108 := (hk_102 q_1 (ne_in hm_83 hq_100)).trans hf_93
  have hm_111 : q_16 ∈ L_105 := by rw [hs_104]; exact List.mem_append_left _ hm_85
  have hf_110 := (hk_102 q_16 (ne_in hm_85 hq_100)).trans hf_94
  have hm_113 : q_29 ∈ L_105 := by rw [hs_104]; exact List.mem_append_left _ hm_87
  have hf_112 := (hk_102 q_29 (ne_in hm_87 hq_100)).trans hf_95
  have hm_115 : q_49 ∈ L_105 := by rw [hs_104]; exact List.mem_append_left _ hm_89
  have hf_114 := (hk_102 q_49 (ne_in hm_89 hq_100)).trans hf_96
  have hm_117 : q_72 ∈ L_105 := by rw [hs_104]; exact List.mem_append_left _ hm_77
  have hf_116 := (hk_102 q_72 (ne_in hm_77 hq_100)).trans hf_97
  refine v_widen (k := 6) (n := 791) (Nat.le_of_ble_eq_true rfl) (Nat.le_of_ble_eq_true rfl) ?_
  refine v_putF hC (by rw [hnm]; rfl) fl_X6_28 hm_107 hf_106 rfl rfl (Nat.le_of_ble_eq_true rfl) (fs' := [.ref q_1, .ref q_29, .ref q_49, .ref q_72, .ref q_98, .int 0, .int 0, .int 0, .int 0, .int 0]) rfl dX6_init_45 (fun f_118 hf_119 hk_120 => ?_)
  have hf_121 := (hk_120 q_1 (ne_kd hf_108 hf_106 rfl)).trans hf_108
  have hf_122 := (hk_120 q_16 (ne_kd hf_110 hf_106 rfl)).trans hf_110
  have hf_123 := (hk_120 q_29 (ne_kd hf_112 hf_106 rfl)).trans hf_112
  have hf_124 := (hk_120 q_49 (ne_kd hf_114 hf_106 rfl)).trans hf_114
  have hf_125 := (hk_120 q_72 (ne_kd hf_116 hf_106 rfl)).trans hf_116
  have hf_126 := (hk_120 q_98 (ne_kd hf_101 hf_106 rfl)).trans hf_101
  have hkp_127 : ∀ b ∈ L, b ≠ h → b ∈ L_105 ∧ f_118 b = f b := by
    intro b hb0 hn0
    have e1 := hk_5 b (ne_in hb0 hq_3)
    have b1 : b ∈ L_8 := by rw [hs_7]; exact List.mem_append_left _ hb0
    have e2 := (hk_15 b b1 (ne_in hb0 hq_3)).2
    have b2 := (hk_15 b b1 (ne_in hb0 hq_3)).1
    have e3 := hk_26 b hn0
    have e4 := hk_33 b (ne_in b2 hq_31)
    have b4 : b ∈ L_36 := by rw [hs_35]; exact List.mem_append_left _ b2
    have e5 := hk_45 b hn0
    have e6 := hk_53 b (ne_in b4 hq_51)
    have b6 : b ∈ L_56 := by rw [hs_55]; exact List.mem_append_left _ b4
    have e7 := hk_67 b hn0
    have e8 := hk_76 b (ne_in b6 hq_74)
    have b8 : b ∈ L_79 := by rw [hs_78]; exact List.mem_append_left _ b6
    have e9 := hk_92 b hn0
    have e10 := hk_102 b (ne_in b8 hq_100)
    have b10 : b ∈ L_105 := by rw [hs_104]; exact List.mem_append_left _ b8
    have e11 := hk_120 b hn0
    exact ⟨b10, (e11.trans (e10.trans (e9.trans (e8.trans (e7.trans (e6.trans (e5.trans (e4.trans (e3.trans (e2.trans e1))))))))))⟩
  exact hR _ _ _ _ _ _ dX6_init_48 (Nat.le_of_ble_eq_true rfl) (Nat.le_of_ble_eq_true rfl) ⟨hkp_127, trivial⟩
set_option maxRecDepth 100000 in
set_option maxHeartbeats 4000000 in
theorem a139_X7_goesOn {l : Launch} {E : Ez} {L : List Nat} {f : Nat → va_E} {aa_0 aa_1 : Nat} (m_aa_0 : aa_0 ∈ L) (e_aa_0 : f aa_0 = ob 7 [.ref aa_1, .int 0, .int 0, .int 0, .int 0, .int 0, .int (-1)]) : CI l yX7_goesOn cX7_goesOn 1 .boolean 1 0 0 E [.ref aa_0] L f (fun r L1 f1 => 0 = r ∧ L = L1 ∧ f = f1) := by
  refine ci_of (by decide) (Nat.le_of_ble_eq_true rfl) (fun z hz hnm hC hR => ?_)
  have hC : Cx z E cX7_goesOn RX7 1 1 0 0 := hC
  subst hz
  show V z E 1 0 0 L f 0 [(0, .ref aa_0)] []
  refine v_aload_n hC dX7_goesOn_0 rfl ?_
  refine v_vi hC (rest := []) m_aa_0 e_aa_0 rfl mi_X7_isFine ms_X7_isFine (a66_X7_isFine m_aa_0 e_aa_0) mx_X7_isFine ml_X7_31 (by decide) rfl (cells1 := 0) (slots1 := 0) (by decide) (by decide) (Nat.le_of_ble_eq_true rfl) (Nat.le_of_ble_eq_true rfl) rfl (Nat.le_of_ble_eq_true rfl) dX7_goesOn_1 (fun r_1 L_2 f_3 h_4 => ?_)
  obtain ⟨rfl, rfl, rfl⟩ := h_4
  refine v_if_eq_f hC dX7_goesOn_4 (tgt := 18) (by decide) (by decide) ?_
  refine v_aload_n hC dX7_goesOn_7 rfl ?_
  refine v_get hC fl_X7_35 m_aa_0 e_aa_0 rfl dX7_goesOn_8 ?_
  refine v_if_eq_t hC dX7_goesOn_11 (tgt := 18) (by decide) (by decide) ?_
  refine v_iconst hC dX7_goesOn_18 (v := 0) (by decide) ?_
  exact hR _ _ _ _ _ _ _ dX7_goesOn_19 rfl (Nat.le_of_ble_eq_true rfl) (Nat.le_of_ble_eq_true rfl) ⟨rfl, rfl, rfl⟩
set_option maxRecDepth 100000 in
set_option maxHeartbeats 4000000 in
theorem a139_X9_tell {l : Launch} {E : Ez} {L : List Nat} {f : Nat → va_E} {aa_0 aa_1 aa_2 aa_3 : Nat} (m_aa_1 : aa_1 ∈ L) (e_aa_1 : f aa_1 = ob 7 [.ref aa_3, .int 0, .int 0, .int 0, .int 0, .int 0, .int (-1)]) (m_aa_0 : aa_0 ∈ L) (e_aa_0 : f aa_0 = ob 9 [.ref aa_2, .int 0, .int 0]) : CI l yX9_tell cX9_tell 3 .boolean 3 0 0 E [.ref aa_0, .ref aa_1] L f (fun r L1 f1 => 1 = r ∧ L = L1 ∧ f = f1) := by
  refine ci_of (by decide) (Nat.le_of_ble_eq_true rfl) (fun z hz hnm hC hR => ?_)
  have hC : Cx z E cX9_tell RX9 3 3 0 0 := hC
  subst hz
  show V z E 3 0 0 L f 0 [(0, .ref aa_0), (1, .ref aa_1)] []
  refine v_aload_n hC dX9_tell_0 rfl ?_
  refine v_vv hC (rest := []) m_aa_1 e_aa_1 rfl mi_X7_start ms_X7_start (a66_X7_start m_aa_1 e_aa_1) mx_X7_start ml_X9_30 (by decide) rfl (cells1 := 0) (slots1 := 0) (by decide) (by decide) (Nat.le_of_ble_eq_true rfl) (Nat.le_of_ble_eq_true rfl) rfl (Nat.le_of_ble_eq_true rfl) dX9_tell_1 (fun L_2 f_3 h_4 => ?_)
  obtain ⟨rfl, rfl⟩ := h_4
  refine v_aload_n hC dX9_tell_4 rfl ?_
  refine v_iconst hC dX9_tell_5 (v := 0) (by decide) ?_
  refine v_put hC fl_X9_23 m_aa_0 e_aa_0 rfl rfl (Nat.le_of_ble_eq_true rfl) (fs' := [.ref aa_2, .int 0, .int 0]) rfl dX9_tell_6 (fun f_5 hf_6 hk_7 => ?_)
  obtain rfl : f = f_5 := (funext (noop e_aa_0 hf_6 hk_7)).symm
  refine v_aload_n hC dX9_tell_9 rfl ?_
  refine v_iconst hC dX9_tell_10 (v := 0) (by decide) ?_
  refine v_put hC fl_X9_27 m_aa_0 e_aa_0 rfl rfl (Nat.le_of_ble_eq_true rfl) (fs' := [.ref aa_2, .int 0, .int 0]) rfl dX9_tell_11 (fun f_8 hf_9 hk_10 => ?_)
  obtain rfl : f = f_8 := (funext (noop e_aa_0 hf_9 hk_10)).symm
  refine v_iconst hC dX9_tell_14 (v := 0) (by decide) ?_
  refine v_istore_n hC dX9_tell_15 (by decide) (lv' := [(2, .int 0), (0, .ref aa_0), (1, .ref aa_1)]) rfl ?_
  refine v_iload_n hC dX9_tell_16 rfl ?_
  refine v_bipush hC dX9_tell_17 (v := 12) (by decide) ?_
  refine v_icmp_gt_f hC dX9_tell_19 (tgt := 70) (by decide) (by decide) ?_
  refine v_aload_n hC dX9_tell_22 rfl ?_
  refine v_vi hC (rest := []) m_aa_1 e_aa_1 rfl mi_X7_goesOn ms_X7_goesOn (a139_X7_goesOn m_aa_1 e_aa_1) mx_X7_goesOn ml_X9_35 (by decide) rfl (cells1 := 0) (slots1 := 0) (by decide) (by decide) (Nat.le_of_ble_eq_true rfl) (Nat.le_of_ble_eq_true rfl) rfl (Nat.le_of_ble_eq_true rfl) dX9_tell_23 (fun r_11 L_12 f_13 h_14 => ?_)
  obtain ⟨rfl, rfl, rfl⟩ := h_14
  refine v_if_eq_t hC dX9_tell_26 (tgt := 70) (by decide) (by decide) ?_
  refine v_aload_n hC dX9_tell_70 rfl ?_
  refine v_vi hC (rest := []) m_aa_1 e_aa_1 rfl mi_X7_isFine ms_X7_isFine (a66_X7_isFine m_aa_1 e_aa_1) mx_X7_isFine ml_X9_53 (by decide) rfl (cells1 := 0) (slots1 := 0) (by decide) (by decide) (Nat.le_of_ble_eq_true rfl) (Nat.le_of_ble_eq_true rfl) rfl (Nat.le_of_ble_eq_true rfl) dX9_tell_71 (fun r_15 L_16 f_17 h_18 => ?_)
  obtain ⟨rfl, rfl, rfl⟩ := h_18
  exact hR _ _ _ _ _ _ _ dX9_tell_74 rfl (Nat.le_of_ble_eq_true rfl) (Nat.le_of_ble_eq_true rfl) ⟨rfl, rfl, rfl⟩
set_option maxRecDepth 100000 in
set_option maxHeartbeats 4000000 in
theorem a143_X7_empty {l : Launch} {E : Ez} {L : List Nat} {f : Nat → va_E} {aa_0 aa_1 : Nat} (m_aa_0 : aa_0 ∈ L) (e_aa_0 : f aa_0 = ob 7 [.ref aa_1, .int 0, .int 0, .int 0, .int 0, .int 0, .int (-1)]) : CV l yX7_empty cX7_empty 1 0 0 0 E [.ref aa_0] L f (fun L1 f1 => L = L1 ∧ f = f1) := by
  refine cv_of (by decide) (Nat.le_of_ble_eq_true rfl) (fun z hz hnm hC hR => ?_)
  have hC : Cx z E cX7_empty RX7 1 0 0 0 := hC
  subst hz
  show V z E 1 0 0 L f 0 [(0, .ref aa_0)] []
  refine v_aload_n hC dX7_empty_0 rfl ?_
  refine v_iconst hC dX7_empty_1 (v := 0) (by decide) ?_
  refine v_put hC fl_X7_19 m_aa_0 e_aa_0 rfl rfl (Nat.le_of_ble_eq_true rfl) (fs' := [.ref aa_1, .int 0, .int 0, .int 0, .int 0, .int 0, .int (-1)]) rfl dX7_empty_2 (fun f_1 hf_2 hk_3 => ?_)
  obtain rfl : f = f_1 := (funext (noop e_aa_0 hf_2 hk_3)).symm
  exact hR _ _ _ _ _ _ dX7_empty_5 (Nat.le_of_ble_eq_true rfl) (Nat.le_of_ble_eq_true rfl) ⟨rfl, rfl⟩
set_option maxRecDepth 100000 in
set_option maxHeartbeats 4000000 in
theorem a145_X9_takeFrom {l : Launch} {E : Ez} {L : List Nat} {f : Nat → va_E} {aa_0 aa_1 aa_2 aa_3 : Nat} (m_aa_1 : aa_1 ∈ L) (e_aa_1 : f aa_1 = ob 9 [.ref aa_3, .int 0, .int 0]) (m_aa_0 : aa_0 ∈ L) (e_aa_0 : f aa_0 = ob 9 [.ref aa_2, .int 0, .int 0]) (m_aa_3 : aa_3 ∈ L) (e_aa_3 : f aa_3 = aI E 300 (fun _ => 0)) (m_aa_2 : aa_2 ∈ L) (e_aa_2 : f aa_2 = aI E 300 (fun _ => 0)) : CV l yX9_takeFrom cX9_takeFrom 2 1 0 0 E [.ref aa_0, .ref aa_1] L f (fun L1 f1 => L = L1 ∧ f = f1) := by
  refine cv_of (by decide) (Nat.le_of_ble_eq_true rfl) (fun z hz hnm hC hR => ?_)
  have hC : Cx z E cX9_takeFrom RX9 2 1 0 0 := hC
  subst hz
  show V z E 2 0 0 L f 0 [(0, .ref aa_0), (1, .ref aa_1)] []
  refine v_aload_n hC dX9_takeFrom_0 rfl ?_
  refine v_get hC fl_X9_13 m_aa_1 e_aa_1 rfl dX9_takeFrom_1 ?_
  refine v_iconst hC dX9_takeFrom_4 (v := 0) (by decide) ?_
  refine v_aload_n hC dX9_takeFrom_5 rfl ?_
  refine v_get hC fl_X9_13 m_aa_0 e_aa_0 rfl dX9_takeFrom_6 ?_
  refine v_iconst hC dX9_takeFrom_9 (v := 0) (by decide) ?_
  refine v_sipush hC dX9_takeFrom_10 (v := 300) (by decide) ?_
  refine v_copyi hC mo_X9_17 cp_n cp_s cp_i m_aa_3 e_aa_3 m_aa_2 e_aa_2 (by decide) (by decide) (by decide) (by decide) (by decide) (by decide) (Nat.le_of_ble_eq_true rfl) dX9_takeFrom_13 (fun f_1 hf_2 hk_3 => ?_)
  rw [cpy_const] at hf_2
  obtain rfl : f = f_1 := (funext (noop e_aa_2 hf_2 hk_3)).symm
  refine v_aload_n hC dX9_takeFrom_16 rfl ?_
  refine v_aload_n hC dX9_takeFrom_17 rfl ?_
  refine v_get hC fl_X9_23 m_aa_1 e_aa_1 rfl dX9_takeFrom_18 ?_
  refine v_put hC fl_X9_23 m_aa_0 e_aa_0 rfl rfl (Nat.le_of_ble_eq_true rfl) (fs' := [.ref aa_2, .int 0, .int 0]) rfl dX9_takeFrom_21 (fun f_4 hf_5 hk_6 => ?_)
  obtain rfl : f = f_4 := (funext (noop e_aa_0 hf_5 hk_6)).symm
  refine v_aload_n hC dX9_takeFrom_24 rfl ?_
  refine v_aload_n hC dX9_takeFrom_25 rfl ?_
  refine v_get hC fl_X9_27 m_aa_1 e_aa_1 rfl dX9_takeFrom_26 ?_
  refine v_put hC fl_X9_27 m_aa_0 e_aa_0 rfl rfl (Nat.le_of_ble_eq_true rfl) (fs' := [.ref aa_2, .int 0, .int 0]) rfl dX9_takeFrom_29 (fun f_7 hf_8 hk_9 => ?_)
  obtain rfl : f = f_7 := (funext (noop e_aa_0 hf_8 hk_9)).symm
  exact hR _ _ _ _ _ _ dX9_takeFrom_32 (Nat.le_of_ble_eq_true rfl) (Nat.le_of_ble_eq_true rfl) ⟨rfl, rfl⟩
set_option maxRecDepth 100000 in
set_option maxHeartbeats 4000000 in
theorem x_watcher {l : Launch} {E : Ez} {L : List Nat} {f : Nat → va_E} {cl he im la lo nl now np ns nw nwa nwc pa sh sl t ta tb tr wa wt wtc wy x : Nat} (m_x : x ∈ L) (e_x : f x = ob 11 [.ref t, .ref now, .ref im, .ref la, .ref sl, .ref np, .ref ns, .ref nw, .ref nwa, .ref nl, .ref he, .ref wa, .ref tr, .ref ta]) (m_now : now ∈ L) (e_now : f now = ob 0 [.ref pa, .ref sh, .ref wy, .ref wt, .ref lo, .ref cl]) (m_t : t ∈ L) (e_t : f t = ob 7 [.ref tb, .int 0, .int 0, .int 0, .int 0, .int 0, .int (-1)]) (m_wt : wt ∈ L) (e_wt : f wt = ob 9 [.ref wtc, .int 0, .int 0]) (m_nwa : nwa ∈ L) (e_nwa : f nwa = ob 9 [.ref nwc, .int 0, .int 0]) (m_wtc : wtc ∈ L) (e_wtc : f wtc = aI E 300 (fun _ => 0)) (m_nwc : nwc ∈ L) (e_nwc : f nwc = aI E 300 (fun _ => 0)) : CI l yX11_watcher cX11_watcher 2 .int 4 0 0 E [.ref x] L f (fun r L1 f1 => (0 : Int32) = r) := by
  refine ci_of (by decide) (Nat.le_of_ble_eq_true rfl) (fun z hz hnm hC hR => ?_)
  have hC : Cx z E cX11_watcher RX11 2 4 0 0 := hC
  subst hz
  show V z E 2 0 0 L f 0 [(0, .ref x)] []
  refine v_aload_n hC dX11_watcher_0 rfl ?_
  refine v_get hC fl_X11_61 m_x e_x rfl dX11_watcher_1 ?_
  refine v_aload_n hC dX11_watcher_4 rfl ?_
  refine v_get hC fl_X11_12 m_x e_x rfl dX11_watcher_5 ?_
  refine v_vi hC (rest := []) m_nwa e_nwa rfl mi_X9_tell ms_X9_tell (a139_X9_tell m_t e_t m_nwa e_nwa) mx_X9_tell ml_X11_157 (by decide) rfl (cells1 := 0) (slots1 := 0) (by decide) (by decide) (Nat.le_of_ble_eq_true rfl) (Nat.le_of_ble_eq_true rfl) rfl (Nat.le_of_ble_eq_true rfl) dX11_watcher_8 (fun r_1 L_2 f_3 h_4 => ?_)
  obtain ⟨rfl, rfl, rfl⟩ := h_4
  refine v_istore_n hC dX11_watcher_11 (by decide) (lv' := [(1, .int 1), (0, .ref x)]) rfl ?_
  refine v_aload_n hC dX11_watcher_12 rfl ?_
  refine v_get hC fl_X11_12 m_x e_x rfl dX11_watcher_13 ?_
  refine v_vv hC (rest := []) m_t e_t rfl mi_X7_empty ms_X7_empty (a143_X7_empty m_t e_t) mx_X7_empty ml_X11_113 (by decide) rfl (cells1 := 0) (slots1 := 0) (by decide) (by decide) (Nat.le_of_ble_eq_true rfl) (Nat.le_of_ble_eq_true rfl) rfl (Nat.le_of_ble_eq_true rfl) dX11_watcher_16 (fun L_6 f_7 h_8 => ?_)
  obtain ⟨rfl, rfl⟩ := h_8
  refine v_iload_n hC dX11_watcher_19 rfl ?_
  refine v_if_ne_t hC dX11_watcher_20 (tgt := 26) (by decide) (by decide) ?_
  refine v_aload_n hC dX11_watcher_26 rfl ?_
  refine v_get hC fl_X11_19 m_x e_x rfl dX11_watcher_27 ?_
  refine v_getN hC fn_X11_158 m_now e_now rfl dX11_watcher_30 ?_
  refine v_aload_n hC dX11_watcher_33 rfl ?_
  refine v_get hC fl_X11_61 m_x e_x rfl dX11_watcher_34 ?_
  refine v_vv hC (rest := []) m_wt e_wt rfl mi_X9_takeFrom ms_X9_takeFrom (a145_X9_takeFrom m_nwa e_nwa m_wt e_wt m_nwc e_nwc m_wtc e_wtc) mx_X9_takeFrom ml_X11_161 (by decide) rfl (cells1 := 0) (slots1 := 0) (by decide) (by decide) (Nat.le_of_ble_eq_true rfl) (Nat.le_of_ble_eq_true rfl) rfl (Nat.le_of_ble_eq_true rfl) dX11_watcher_37 (fun L_10 f_11 h_12 => ?_)
  obtain ⟨rfl, rfl⟩ := h_12
  refine v_aload_n hC dX11_watcher_40 rfl ?_
  refine v_get hC fl_X11_19 m_x e_x rfl dX11_watcher_41 ?_
  refine v_getN hC fn_X11_158 m_now e_now rfl dX11_watcher_44 ?_
  refine v_getN hC fn_X11_164 m_wt e_wt rfl dX11_watcher_47 ?_
  exact hR _ _ _ _ _ _ _ dX11_watcher_50 rfl (Nat.le_of_ble_eq_true rfl) (Nat.le_of_ble_eq_true rfl) rfl
set_option maxRecDepth 100000 in
set_option maxHeartbeats 4000000 in
theorem a148_X3_tell {l : Launch} {E : Ez} {L : List Nat} {f : Nat → va_E} {aa_0 aa_1 aa_2 aa_3 aa_4 aa_5 : Nat} (m_aa_1 : aa_1 ∈ L) (e_aa_1 : f aa_1 = ob 7 [.ref aa_5, .int 0, .int 0, .int 0, .int 0, .int 0, .int (-1)]) (m_aa_0 : aa_0 ∈ L) (e_aa_0 : f aa_0 = ob 3 [.ref aa_2, .ref aa_3, .ref aa_4, .int 0]) : CI l yX3_tell cX3_tell 3 .boolean 3 0 0 E [.ref aa_0, .ref aa_1] L f (fun r L1 f1 => 1 = r ∧ L = L1 ∧ f = f1) := by
  refine ci_of (by decide) (Nat.le_of_ble_eq_true rfl) (fun z hz hnm hC hR => ?_)
  have hC : Cx z E cX3_tell RX3 3 3 0 0 := hC
  subst hz
  show V z E 3 0 0 L f 0 [(0, .ref aa_0), (1, .ref aa_1)] []
  refine v_aload_n hC dX3_tell_0 rfl ?_
  refine v_vv hC (rest := []) m_aa_1 e_aa_1 rfl mi_X7_start ms_X7_start (a66_X7_start m_aa_1 e_aa_1) mx_X7_start ml_X3_31 (by decide) rfl (cells1 := 0) (slots1 := 0) (by decide) (by decide) (Nat.le_of_ble_eq_true rfl) (Nat.le_of_ble_eq_true rfl) rfl (Nat.le_of_ble_eq_true rfl) dX3_tell_1 (fun L_2 f_3 h_4 => ?_)
  obtain ⟨rfl, rfl⟩ := h_4
  refine v_aload_n hC dX3_tell_4 rfl ?_
  refine v_iconst hC dX3_tell_5 (v := 0) (by decide) ?_
  refine v_put hC fl_X3_27 m_aa_0 e_aa_0 rfl rfl (Nat.le_of_ble_eq_true rfl) (fs' := [.ref aa_2, .ref aa_3, .ref aa_4, .int 0]) rfl dX3_tell_6 (fun f_5 hf_6 hk_7 => ?_)
  obtain rfl : f = f_5 := (funext (noop e_aa_0 hf_6 hk_7)).symm
  refine v_iconst hC dX3_tell_9 (v := 0) (by decide) ?_
  refine v_istore_n hC dX3_tell_10 (by decide) (lv' := [(2, .int 0), (0, .ref aa_0), (1, .ref aa_1)]) rfl ?_
  refine v_iload_n hC dX3_tell_11 rfl ?_
  refine v_bipush hC dX3_tell_12 (v := 12) (by decide) ?_
  refine v_icmp_gt_f hC dX3_tell_14 (tgt := 35) (by decide) (by decide) ?_
  refine v_aload_n hC dX3_tell_17 rfl ?_
  refine v_vi hC (rest := []) m_aa_1 e_aa_1 rfl mi_X7_goesOn ms_X7_goesOn (a139_X7_goesOn m_aa_1 e_aa_1) mx_X7_goesOn ml_X3_36 (by decide) rfl (cells1 := 0) (slots1 := 0) (by decide) (by decide) (Nat.le_of_ble_eq_true rfl) (Nat.le_of_ble_eq_true rfl) rfl (Nat.le_of_ble_eq_true rfl) dX3_tell_18 (fun r_8 L_9 f_10 h_11 => ?_)
  obtain ⟨rfl, rfl, rfl⟩ := h_11
  refine v_if_eq_t hC dX3_tell_21 (tgt := 35) (by decide) (by decide) ?_
  refine v_aload_n hC dX3_tell_35 rfl ?_
  refine v_vi hC (rest := []) m_aa_1 e_aa_1 rfl mi_X7_isFine ms_X7_isFine (a66_X7_isFine m_aa_1 e_aa_1) mx_X7_isFine ml_X3_44 (by decide) rfl (cells1 := 0) (slots1 := 0) (by decide) (by decide) (Nat.le_of_ble_eq_true rfl) (Nat.le_of_ble_eq_true rfl) rfl (Nat.le_of_ble_eq_true rfl) dX3_tell_36 (fun r_12 L_13 f_14 h_15 => ?_)
  obtain ⟨rfl, rfl, rfl⟩ := h_15
  exact hR _ _ _ _ _ _ _ dX3_tell_39 rfl (Nat.le_of_ble_eq_true rfl) (Nat.le_of_ble_eq_true rfl) ⟨rfl, rfl, rfl⟩
set_option maxRecDepth 100000 in
set_option maxHeartbeats 4000000 in
theorem a150_X3_takeFrom {l : Launch} {E : Ez} {L : List Nat} {f : Nat → va_E} {aa_0 aa_1 aa_2 aa_3 aa_4 aa_5 aa_6 aa_7 : Nat} (m_aa_1 : aa_1 ∈ L) (e_aa_1 : f aa_1 = ob 3 [.ref aa_5, .ref aa_6, .ref aa_7, .int 0]) (m_aa_0 : aa_0 ∈ L) (e_aa_0 : f aa_0 = ob 3 [.ref aa_2, .ref aa_3, .ref aa_4, .int 0]) (m_aa_5 : aa_5 ∈ L) (e_aa_5 : f aa_5 = aI E 12 (fun _ => 0)) (m_aa_2 : aa_2 ∈ L) (e_aa_2 : f aa_2 = aI E 12 (fun _ => 0)) (m_aa_6 : aa_6 ∈ L) (e_aa_6 : f aa_6 = aI E 12 (fun _ => 0)) (m_aa_3 : aa_3 ∈ L) (e_aa_3 : f aa_3 = aI E 12 (fun _ => 0)) (m_aa_7 : aa_7 ∈ L) (e_aa_7 : f aa_7 = aI E 12 (fun _ => 0)) (m_aa_4 : aa_4 ∈ L) (e_aa_4 : f aa_4 = aI E 12 (fun _ => 0)) : CV l yX3_takeFrom cX3_takeFrom 2 1 0 0 E [.ref aa_0, .ref aa_1] L f (fun L1 f1 => L = L1 ∧ f = f1) := by
  refine cv_of (by decide) (Nat.le_of_ble_eq_true rfl) (fun z hz hnm hC hR => ?_)
  have hC : Cx z E cX3_takeFrom RX3 2 1 0 0 := hC
  subst hz
  show V z E 2 0 0 L f 0 [(0, .ref aa_0), (1, .ref aa_1)] []
  refine v_aload_n hC dX3_takeFrom_0 rfl ?_
  refine v_get hC fl_X3_9 m_aa_1 e_aa_1 rfl dX3_takeFrom_1 ?_
  refine v_iconst hC dX3_takeFrom_4 (v := 0) (by decide) ?_
  refine v_aload_n hC dX3_takeFrom_5 rfl ?_
  refine v_get hC fl_X3_9 m_aa_0 e_aa_0 rfl dX3_takeFrom_6 ?_
  refine v_iconst hC dX3_takeFrom_9 (v := 0) (by decide) ?_
  refine v_bipush hC dX3_takeFrom_10 (v := 12) (by decide) ?_
  refine v_copyi hC mo_X3_21 cp_n cp_s cp_i m_aa_5 e_aa_5 m_aa_2 e_aa_2 (by decide) (by decide) (by decide) (by decide) (by decide) (by decide) (Nat.le_of_ble_eq_true rfl) dX3_takeFrom_12 (fun f_1 hf_2 hk_3 => ?_)
  rw [cpy_const] at hf_2
  obtain rfl : f = f_1 := (funext (noop e_aa_2 hf_2 hk_3)).symm
  refine v_aload_n hC dX3_takeFrom_15 rfl ?_
  refine v_get hC fl_X3_15 m_aa_1 e_aa_1 rfl dX3_takeFrom_16 ?_
  refine v_iconst hC dX3_takeFrom_19 (v := 0) (by decide) ?_
  refine v_aload_n hC dX3_takeFrom_20 rfl ?_
  refine v_get hC fl_X3_15 m_aa_0 e_aa_0 rfl dX3_takeFrom_21 ?_
  refine v_iconst hC dX3_takeFrom_24 (v := 0) (by decide) ?_
  refine v_bipush hC dX3_takeFrom_25 (v := 12) (by decide) ?_
  refine v_copyi hC mo_X3_21 cp_n cp_s cp_i m_aa_6 e_aa_6 m_aa_3 e_aa_3 (by decide) (by decide) (by decide) (by decide) (by decide) (by decide) (Nat.le_of_ble_eq_true rfl) dX3_takeFrom_27 (fun f_4 hf_5 hk_6 => ?_)
  rw [cpy_const] at hf_5
  obtain rfl : f = f_4 := (funext (noop e_aa_3 hf_5 hk_6)).symm
  refine v_aload_n hC dX3_takeFrom_30 rfl ?_
  refine v_get hC fl_X3_18 m_aa_1 e_aa_1 rfl dX3_takeFrom_31 ?_
  refine v_iconst hC dX3_takeFrom_34 (v := 0) (by decide) ?_
  refine v_aload_n hC dX3_takeFrom_35 rfl ?_
  refine v_get hC fl_X3_18 m_aa_0 e_aa_0 rfl dX3_takeFrom_36 ?_
  refine v_iconst hC dX3_takeFrom_39 (v := 0) (by decide) ?_
  refine v_bipush hC dX3_takeFrom_40 (v := 12) (by decide) ?_
  refine v_copyi hC mo_X3_21 cp_n cp_s cp_i m_aa_7 e_aa_7 m_aa_4 e_aa_4 (by decide) (by decide) (by decide) (by decide) (by decide) (by decide) (Nat.le_of_ble_eq_true rfl) dX3_takeFrom_42 (fun f_7 hf_8 hk_9 => ?_)
  rw [cpy_const] at hf_8
  obtain rfl : f = f_7 := (funext (noop e_aa_4 hf_8 hk_9)).symm
  refine v_aload_n hC dX3_takeFrom_45 rfl ?_
  refine v_aload_n hC dX3_takeFrom_46 rfl ?_
  refine v_get hC fl_X3_27 m_aa_1 e_aa_1 rfl dX3_takeFrom_47 ?_
  refine v_put hC fl_X3_27 m_aa_0 e_aa_0 rfl rfl (Nat.le_of_ble_eq_true rfl) (fs' := [.ref aa_2, .ref aa_3, .ref aa_4, .int 0]) rfl dX3_takeFrom_50 (fun f_10 hf_11 hk_12 => ?_)
  obtain rfl : f = f_10 := (funext (noop e_aa_0 hf_11 hk_12)).symm
  exact hR _ _ _ _ _ _ dX3_takeFrom_53 (Nat.le_of_ble_eq_true rfl) (Nat.le_of_ble_eq_true rfl) ⟨rfl, rfl⟩
set_option maxRecDepth 100000 in
set_option maxHeartbeats 4000000 in
theorem x_losses {l : Launch} {E : Ez} {L : List Nat} {f : Nat → va_E} {cl he im la lo lof lok los nl nlf nlk nls now np ns nw nwa pa sh sl t ta tb tr wa wt wy x : Nat} (m_x : x ∈ L) (e_x : f x = ob 11 [.ref t, .ref now, .ref im, .ref la, .ref sl, .ref np, .ref ns, .ref nw, .ref nwa, .ref nl, .ref he, .ref wa, .ref tr, .ref ta]) (m_now : now ∈ L) (e_now : f now = ob 0 [.ref pa, .ref sh, .ref wy, .ref wt, .ref lo, .ref cl]) (m_t : t ∈ L) (e_t : f t = ob 7 [.ref tb, .int 0, .int 0, .int 0, .int 0, .int 0, .int (-1)]) (m_lo : lo ∈ L) (e_lo : f lo = ob 3 [.ref lok, .ref lof, .ref los, .int 0]) (m_nl : nl ∈ L) (e_nl : f nl = ob 3 [.ref nlk, .ref nlf, .ref nls, .int 0]) (m_lok : lok ∈ L) (e_lok : f lok = aI E 12 (fun _ => 0)) (m_lof : lof ∈ L) (e_lof : f lof = aI E 12 (fun _ => 0)) (m_los : los ∈ L) (e_los : f los = aI E 12 (fun _ => 0)) (m_nlk : nlk ∈ L) (e_nlk : f nlk = aI E 12 (fun _ => 0)) (m_nlf : nlf ∈ L) (e_nlf : f nlf = aI E 12 (fun _ => 0)) (m_nls : nls ∈ L) (e_nls : f nls = aI E 12 (fun _ => 0)) : CI l yX11_losses cX11_losses 2 .int 4 0 0 E [.ref x] L f (fun r L1 f1 => (0 : Int32) = r) := by
  refine ci_of (by decide) (Nat.le_of_ble_eq_true rfl) (fun z hz hnm hC hR => ?_)
  have hC : Cx z E cX11_losses RX11 2 4 0 0 := hC
  subst hz
  show V z E 2 0 0 L f 0 [(0, .ref x)] []
  refine v_aload_n hC dX11_losses_0 rfl ?_
  refine v_get hC fl_X11_68 m_x e_x rfl dX11_losses_1 ?_
  refine v_aload_n hC dX11_losses_4 rfl ?_
  refine v_get hC fl_X11_12 m_x e_x rfl dX11_losses_5 ?_
  refine v_vi hC (rest := []) m_nl e_nl rfl mi_X3_tell ms_X3_tell (a148_X3_tell m_t e_t m_nl e_nl) mx_X3_tell ml_X11_167 (by decide) rfl (cells1 := 0) (slots1 := 0) (by decide) (by decide) (Nat.le_of_ble_eq_true rfl) (Nat.le_of_ble_eq_true rfl) rfl (Nat.le_of_ble_eq_true rfl) dX11_losses_8 (fun r_1 L_2 f_3 h_4 => ?_)
  obtain ⟨rfl, rfl, rfl⟩ := h_4
  refine v_istore_n hC dX11_losses_11 (by decide) (lv' := [(1, .int 1), (0, .ref x)]) rfl ?_
  refine v_aload_n hC dX11_losses_12 rfl ?_
  refine v_get hC fl_X11_12 m_x e_x rfl dX11_losses_13 ?_
  refine v_vv hC (rest := []) m_t e_t rfl mi_X7_empty ms_X7_empty (a143_X7_empty m_t e_t) mx_X7_empty ml_X11_113 (by decide) rfl (cells1 := 0) (slots1 := 0) (by decide) (by decide) (Nat.le_of_ble_eq_true rfl) (Nat.le_of_ble_eq_true rfl) rfl (Nat.le_of_ble_eq_true rfl) dX11_losses_16 (fun L_6 f_7 h_8 => ?_)
  obtain ⟨rfl, rfl⟩ := h_8
  refine v_iload_n hC dX11_losses_19 rfl ?_
  refine v_if_ne_t hC dX11_losses_20 (tgt := 26) (by decide) (by decide) ?_
  refine v_aload_n hC dX11_losses_26 rfl ?_
  refine v_get hC fl_X11_19 m_x e_x rfl dX11_losses_27 ?_
  refine v_getN hC fn_X11_168 m_now e_now rfl dX11_losses_30 ?_
  refine v_aload_n hC dX11_losses_33 rfl ?_
  refine v_get hC fl_X11_68 m_x e_x rfl dX11_losses_34 ?_
  refine v_vv hC (rest := []) m_lo e_lo rfl mi_X3_takeFrom ms_X3_takeFrom (a150_X3_takeFrom m_nl e_nl m_lo e_lo m_nlk e_nlk m_lok e_lok m_nlf e_nlf m_lof e_lof m_nls e_nls m_los e_los) mx_X3_takeFrom ml_X11_171 (by decide) rfl (cells1 := 0) (slots1 := 0) (by decide) (by decide) (Nat.le_of_ble_eq_true rfl) (Nat.le_of_ble_eq_true rfl) rfl (Nat.le_of_ble_eq_true rfl) dX11_losses_37 (fun L_10 f_11 h_12 => ?_)
  obtain ⟨rfl, rfl⟩ := h_12
  refine v_aload_n hC dX11_losses_40 rfl ?_
  refine v_get hC fl_X11_19 m_x e_x rfl dX11_losses_41 ?_
  refine v_getN hC fn_X11_168 m_now e_now rfl dX11_losses_44 ?_
  refine v_getN hC fn_X11_174 m_lo e_lo rfl dX11_losses_47 ?_
  exact hR _ _ _ _ _ _ _ dX11_losses_50 rfl (Nat.le_of_ble_eq_true rfl) (Nat.le_of_ble_eq_true rfl) rfl
