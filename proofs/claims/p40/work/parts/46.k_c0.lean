set_option maxRecDepth 100000 in
set_option maxHeartbeats 4000000 in
theorem kt_X10 {l : Launch} {E : Ez} {L : List Nat} {f : Nat → va_E} {T : Nat → va_E → Prop} {h : Nat} (hW : WT T L f) (m_h : h ∈ L) (t_h : T h = FREE) (e_h : f h = ob 10 [.int 0, .int 0, .int 0, .int 0, .int 0, .int 0, .int 0]) : CV l yX10_init cX10_init 1 1 0 0 E [.ref h] L f (fun L1 f1 => ∃ T1, EXT h T L f T1 L1 f1 ∧ WT T1 L1 f1 ∧ isWay T1 L1 E h) := by
  refine cv_of (by decide) (Nat.le_of_ble_eq_true rfl) (fun z hz hnm hC hR => ?_)
  have hC : Cx z E cX10_init RX10 1 1 0 0 := hC
  subst hz
  show V z E 1 0 0 L f 0 [(0, .ref h)] []
  have x_0 : EXT h T L f T L f := EXT.rf
  refine v_aload_n hC dX10_init_0 rfl ?_
  refine v_objinit hC mo_X10_3 mo_i mo_c (by decide) dX10_init_1 ?_
  refine v_aload_n hC dX10_init_4 rfl ?_
  refine v_iconst hC dX10_init_5 (v := 1) (by decide) ?_
  refine v_put hC fl_X10_9 m_h e_h rfl rfl (Nat.le_of_ble_eq_true rfl) (fs' := [.int 0, .int 0, .int 1, .int 0, .int 0, .int 0, .int 0]) rfl dX10_init_6 (fun f_1 hf_2 hk_3 => ?_)
  have hW_4 := hW.up hf_2 hk_3 t_h True.intro
  have x_5 := EXT.put x_0 hk_3
  refine v_aload_n hC dX10_init_9 rfl ?_
  refine v_iconst hC dX10_init_10 (v := 1) (by decide) ?_
  refine v_put hC fl_X10_15 m_h hf_2 rfl rfl (Nat.le_of_ble_eq_true rfl) (fs' := [.int 0, .int 0, .int 1, .int 1, .int 0, .int 0, .int 0]) rfl dX10_init_11 (fun f_6 hf_7 hk_8 => ?_)
  have hW_9 := hW_4.up hf_7 hk_8 t_h True.intro
  have x_10 := EXT.put x_5 hk_8
  refine v_aload_n hC dX10_init_14 rfl ?_
  refine v_iconst hC dX10_init_15 (v := 1) (by decide) ?_
  refine v_put hC fl_X10_18 m_h hf_7 rfl rfl (Nat.le_of_ble_eq_true rfl) (fs' := [.int 0, .int 0, .int 1, .int 1, .int 1, .int 0, .int 0]) rfl dX10_init_16 (fun f_11 hf_12 hk_13 => ?_)
  have hW_14 := hW_9.up hf_12 hk_13 t_h True.intro
  have x_15 := EXT.put x_10 hk_13
  obtain ⟨T_16, xt_17, hW_18, ta_19, tb_20⟩ := ty_ch (tWay) hW_14 (fr_sh t_h) hf_12 ⟨0, 0, 1, 1, 1, 0, 0, rfl, by decide, by decide, by decide, by decide, by decide⟩
  have x_21 := EXT.ty x_15 (.inl rfl) tb_20
  exact hR _ _ _ _ _ _ dX10_init_19 (Nat.le_of_ble_eq_true rfl) (Nat.le_of_ble_eq_true rfl) ⟨T_16, x_21, hW_18, ⟨m_h, ta_19⟩⟩
set_option maxRecDepth 100000 in
set_option maxHeartbeats 4000000 in
theorem kt_X1 {l : Launch} {E : Ez} {L : List Nat} {f : Nat → va_E} {T : Nat → va_E → Prop} {h : Nat} (hW : WT T L f) (m_h : h ∈ L) (t_h : T h = FREE) (e_h : f h = ob 1 [.null, .int 0]) : CV l yX1_init cX1_init 1 1 1 256 E [.ref h] L f (fun L1 f1 => ∃ T1, EXT h T L f T1 L1 f1 ∧ WT T1 L1 f1 ∧ isClo T1 L1 E h) := by
  refine cv_of (by decide) (Nat.le_of_ble_eq_true rfl) (fun z hz hnm hC hR => ?_)
  have hC : Cx z E cX1_init RX1 1 1 1 256 := hC
  subst hz
  show V z E 1 0 0 L f 0 [(0, .ref h)] []
  have x_0 : EXT h T L f T L f := EXT.rf
  refine v_aload_n hC dX1_init_0 rfl ?_
  refine v_objinit hC mo_X1_3 mo_i mo_c (by decide) dX1_init_1 ?_
  refine v_aload_n hC dX1_init_4 rfl ?_
  refine v_sipush hC dX1_init_5 (v := 256) (by decide) ?_
  refine v_newaG hC (t := 0) (ty := .byte) (N' := 256) (a0 := (256, .inl (fun _ => 0))) rfl ac_byte rfl (fun _ => rfl) (by decide) (by decide) (by decide) (Nat.le_of_ble_eq_true rfl) (Nat.le_of_ble_eq_true rfl) dX1_init_8 (fun q_1 f_2 hq_3 hf_4 hk_5 => ?_)
  obtain ⟨T_6, hx_7, hW_8, m_9, t_10⟩ := nw_t (tB E 256) hW hq_3 hf_4 hk_5 ⟨_, rfl, fun _ => rfl⟩
  obtain ⟨L_11, hs_12⟩ : ∃ L9, L9 = L ++ [q_1] := ⟨_, rfl⟩
  rw [← hs_12] at hx_7 hW_8 m_9 ⊢
  have ni_13 := EXT.nin x_0 m_h hq_3
  refine v_widen (k := 1) (n := 256) (Nat.le_of_ble_eq_true rfl) (Nat.le_of_ble_eq_true rfl) ?_
  have t_14 := (hx_7 h m_h).2.1.trans t_h
  have e_15 := hx_7.at m_h e_h
  have x_16 := EXT.al x_0 hx_7
  have k_17 : isB T_6 L_11 E 256 q_1 := ⟨m_9, t_10⟩
  refine v_putF hC (by rw [hnm]; rfl) fl_X1_9 e_15.1 e_15.2 rfl rfl (Nat.le_of_ble_eq_true rfl) (fs' := [.ref q_1, .int 0]) rfl dX1_init_10 (fun f_18 hf_19 hk_20 => ?_)
  have hW_21 := hW_8.up hf_19 hk_20 t_14 True.intro
  have x_22 := EXT.put x_16 hk_20
  obtain ⟨T_23, xt_24, hW_25, ta_26, tb_27⟩ := ty_ch (tClo q_1) hW_21 (fr_sh t_14) hf_19 ⟨0, rfl, by decide⟩
  have k_28 := k_17.mo (.inl rfl) xt_24
  have x_29 := EXT.ty x_22 (.inl rfl) tb_27
  exact hR _ _ _ _ _ _ dX1_init_13 (Nat.le_of_ble_eq_true rfl) (Nat.le_of_ble_eq_true rfl) ⟨T_23, x_29, hW_25, ⟨e_15.1, q_1, ta_26, k_28⟩⟩
set_option maxRecDepth 100000 in
set_option maxHeartbeats 4000000 in
theorem kt_X2 {l : Launch} {E : Ez} {L : List Nat} {f : Nat → va_E} {T : Nat → va_E → Prop} {h : Nat} (hW : WT T L f) (m_h : h ∈ L) (t_h : T h = FREE) (e_h : f h = ob 2 [.null, .int 0]) : CV l yX2_init cX2_init 1 1 1 51 E [.ref h] L f (fun L1 f1 => ∃ T1, EXT h T L f T1 L1 f1 ∧ WT T1 L1 f1 ∧ isLet T1 L1 E h) := by
  refine cv_of (by decide) (Nat.le_of_ble_eq_true rfl) (fun z hz hnm hC hR => ?_)
  have hC : Cx z E cX2_init RX2 1 1 1 51 := hC
  subst hz
  show V z E 1 0 0 L f 0 [(0, .ref h)] []
  have x_0 : EXT h T L f T L f := EXT.rf
  refine v_aload_n hC dX2_init_0 rfl ?_
  refine v_objinit hC mo_X2_3 mo_i mo_c (by decide) dX2_init_1 ?_
  refine v_aload_n hC dX2_init_4 rfl ?_
  refine v_bipush hC dX2_init_5 (v := 51) (by decide) ?_
  refine v_newaG hC (t := 1) (ty := .int) (N' := 51) (a0 := (51, .inl (fun _ => 0))) rfl ac_int rfl (fun _ => rfl) (by decide) (by decide) (by decide) (Nat.le_of_ble_eq_true rfl) (Nat.le_of_ble_eq_true rfl) dX2_init_7 (fun q_1 f_2 hq_3 hf_4 hk_5 => ?_)
  obtain ⟨T_6, hx_7, hW_8, m_9, t_10⟩ := nw_t (tI E 51) hW hq_3 hf_4 hk_5 ⟨_, rfl⟩
  obtain ⟨L_11, hs_12⟩ : ∃ L9, L9 = L ++ [q_1] := ⟨_, rfl⟩
  rw [← hs_12] at hx_7 hW_8 m_9 ⊢
  have ni_13 := EXT.nin x_0 m_h hq_3
  refine v_widen (k := 1) (n := 51) (Nat.le_of_ble_eq_true rfl) (Nat.le_of_ble_eq_true rfl) ?_
  have t_14 := (hx_7 h m_h).2.1.trans t_h
  have e_15 := hx_7.at m_h e_h
  have x_16 := EXT.al x_0 hx_7
  have k_17 : isI T_6 L_11 E 51 q_1 := ⟨m_9, t_10⟩
  refine v_putF hC (by rw [hnm]; rfl) fl_X2_9 e_15.1 e_15.2 rfl rfl (Nat.le_of_ble_eq_true rfl) (fs' := [.ref q_1, .int 0]) rfl dX2_init_9 (fun f_18 hf_19 hk_20 => ?_)
  have hW_21 := hW_8.up hf_19 hk_20 t_14 True.intro
  have x_22 := EXT.put x_16 hk_20
  obtain ⟨T_23, xt_24, hW_25, ta_26, tb_27⟩ := ty_ch (tLet q_1) hW_21 (fr_sh t_14) hf_19 ⟨0, rfl, by decide⟩
  have k_28 := k_17.mo (.inl rfl) xt_24
  have x_29 := EXT.ty x_22 (.inl rfl) tb_27
  exact hR _ _ _ _ _ _ dX2_init_12 (Nat.le_of_ble_eq_true rfl) (Nat.le_of_ble_eq_true rfl) ⟨T_23, x_29, hW_25, ⟨e_15.1, q_1, ta_26, k_28⟩⟩
set_option maxRecDepth 100000 in
set_option maxHeartbeats 4000000 in
theorem kt_X3 {l : Launch} {E : Ez} {L : List Nat} {f : Nat → va_E} {T : Nat → va_E → Prop} {h : Nat} (hW : WT T L f) (m_h : h ∈ L) (t_h : T h = FREE) (e_h : f h = ob 3 [.null, .null, .null, .int 0]) : CV l yX3_init cX3_init 1 1 3 36 E [.ref h] L f (fun L1 f1 => ∃ T1, EXT h T L f T1 L1 f1 ∧ WT T1 L1 f1 ∧ isLos T1 L1 E h) := by
  refine cv_of (by decide) (Nat.le_of_ble_eq_true rfl) (fun z hz hnm hC hR => ?_)
  have hC : Cx z E cX3_init RX3 1 1 3 36 := hC
  subst hz
  show V z E 1 0 0 L f 0 [(0, .ref h)] []
  have x_0 : EXT h T L f T L f := EXT.rf
  refine v_aload_n hC dX3_init_0 rfl ?_
  refine v_objinit hC mo_X3_3 mo_i mo_c (by decide) dX3_init_1 ?_
  refine v_aload_n hC dX3_init_4 rfl ?_
  refine v_bipush hC dX3_init_5 (v := 12) (by decide) ?_
  refine v_newaG hC (t := 1) (ty := .int) (N' := 12) (a0 := (12, .inl (fun _ => 0))) rfl ac_int rfl (fun _ => rfl) (by decide) (by decide) (by decide) (Nat.le_of_ble_eq_true rfl) (Nat.le_of_ble_eq_true rfl) dX3_init_7 (fun q_1 f_2 hq_3 hf_4 hk_5 => ?_)
  obtain ⟨T_6, hx_7, hW_8, m_9, t_10⟩ := nw_t (tI E 12) hW hq_3 hf_4 hk_5 ⟨_, rfl⟩
  obtain ⟨L_11, hs_12⟩ : ∃ L9, L9 = L ++ [q_1] := ⟨_, rfl⟩
  rw [← hs_12] at hx_7 hW_8 m_9 ⊢
  have ni_13 := EXT.nin x_0 m_h hq_3
  refine v_widen (k := 1) (n := 12) (Nat.le_of_ble_eq_true rfl) (Nat.le_of_ble_eq_true rfl) ?_
  have t_14 := (hx_7 h m_h).2.1.trans t_h
  have e_15 := hx_7.at m_h e_h
  have x_16 := EXT.al x_0 hx_7
  have k_17 : isI T_6 L_11 E 12 q_1 := ⟨m_9, t_10⟩
  refine v_putF hC (by rw [hnm]; rfl) fl_X3_9 e_15.1 e_15.2 rfl rfl (Nat.le_of_ble_eq_true rfl) (fs' := [.ref q_1, .null, .null, .int 0]) rfl dX3_init_9 (fun f_18 hf_19 hk_20 => ?_)
  have hW_21 := hW_8.up hf_19 hk_20 t_14 True.intro
  have x_22 := EXT.put x_16 hk_20
  refine v_aload_n hC dX3_init_12 rfl ?_
  refine v_bipush hC dX3_init_13 (v := 12) (by decide) ?_
  refine v_newaG hC (t := 1) (ty := .int) (N' := 12) (a0 := (12, .inl (fun _ => 0))) rfl ac_int rfl (fun _ => rfl) (by decide) (by decide) (by decide) (Nat.le_of_ble_eq_true rfl) (Nat.le_of_ble_eq_true rfl) dX3_init_15 (fun q_23 f_24 hq_25 hf_26 hk_27 => ?_)
  obtain ⟨T_28, hx_29, hW_30, m_31, t_32⟩ := nw_t (tI E 12) hW_21 hq_25 hf_26 hk_27 ⟨_, rfl⟩
  obtain ⟨L_33, hs_34⟩ : ∃ L9, L9 = L_11 ++ [q_23] := ⟨_, rfl⟩
  rw [← hs_34] at hx_29 hW_30 m_31 ⊢
  have ni_35 := EXT.nin x_22 e_15.1 hq_25
  refine v_widen (k := 2) (n := 24) (Nat.le_of_ble_eq_true rfl) (Nat.le_of_ble_eq_true rfl) ?_
  have k_36 := k_17.mo (.inl rfl) hx_29.xt
  have t_37 := (hx_29 h e_15.1).2.1.trans t_14
  have e_38 := hx_29.at e_15.1 hf_19
  have x_39 := EXT.al x_22 hx_29
  have k_40 : isI T_28 L_33 E 12 q_23 := ⟨m_31, t_32⟩
  refine v_putF hC (by rw [hnm]; rfl) fl_X3_15 e_38.1 e_38.2 rfl rfl (Nat.le_of_ble_eq_true rfl) (fs' := [.ref q_1, .ref q_23, .null, .int 0]) rfl dX3_init_17 (fun f_41 hf_42 hk_43 => ?_)
  have hW_44 := hW_30.up hf_42 hk_43 t_37 True.intro
  have x_45 := EXT.put x_39 hk_43
  refine v_aload_n hC dX3_init_20 rfl ?_
  refine v_bipush hC dX3_init_21 (v := 12) (by decide) ?_
  refine v_newaG hC (t := 1) (ty := .int) (N' := 12) (a0 := (12, .inl (fun _ => 0))) rfl ac_int rfl (fun _ => rfl) (by decide) (by decide) (by decide) (Nat.le_of_ble_eq_true rfl) (Nat.le_of_ble_eq_true rfl) dX3_init_23 (fun q_46 f_47 hq_48 hf_49 hk_50 => ?_)
  obtain ⟨T_51, hx_52, hW_53, m_54, t_55⟩ := nw_t (tI E 12) hW_44 hq_48 hf_49 hk_50 ⟨_, rfl⟩
  obtain ⟨L_56, hs_57⟩ : ∃ L9, L9 = L_33 ++ [q_46] := ⟨_, rfl⟩
  rw [← hs_57] at hx_52 hW_53 m_54 ⊢
  have ni_58 := EXT.nin x_45 e_38.1 hq_48
  refine v_widen (k := 3) (n := 36) (Nat.le_of_ble_eq_true rfl) (Nat.le_of_ble_eq_true rfl) ?_
  have k_59 := k_36.mo (.inl rfl) hx_52.xt
  have k_60 := k_40.mo (.inl rfl) hx_52.xt
  have t_61 := (hx_52 h e_38.1).2.1.trans t_37
  have e_62 := hx_52.at e_38.1 hf_42
  have x_63 := EXT.al x_45 hx_52
  have k_64 : isI T_51 L_56 E 12 q_46 := ⟨m_54, t_55⟩
  refine v_putF hC (by rw [hnm]; rfl) fl_X3_18 e_62.1 e_62.2 rfl rfl (Nat.le_of_ble_eq_true rfl) (fs' := [.ref q_1, .ref q_23, .ref q_46, .int 0]) rfl dX3_init_25 (fun f_65 hf_66 hk_67 => ?_)
  have hW_68 := hW_53.up hf_66 hk_67 t_61 True.intro
  have x_69 := EXT.put x_63 hk_67
  obtain ⟨T_70, xt_71, hW_72, ta_73, tb_74⟩ := ty_ch (tLos q_1 q_23 q_46) hW_68 (fr_sh t_61) hf_66 ⟨0, rfl, by decide⟩
  have k_75 := k_59.mo (.inl rfl) xt_71
  have k_76 := k_60.mo (.inl rfl) xt_71
  have k_77 := k_64.mo (.inl rfl) xt_71
  have x_78 := EXT.ty x_69 (.inl rfl) tb_74
  exact hR _ _ _ _ _ _ dX3_init_28 (Nat.le_of_ble_eq_true rfl) (Nat.le_of_ble_eq_true rfl) ⟨T_70, x_78, hW_72, ⟨e_62.1, q_1, q_23, q_46, ta_73, k_75, k_76, k_77⟩⟩
set_option maxRecDepth 100000 in
set_option maxHeartbeats 4000000 in
theorem kt_X4 {l : Launch} {E : Ez} {L : List Nat} {f : Nat → va_E} {T : Nat → va_E → Prop} {h : Nat} (hW : WT T L f) (m_h : h ∈ L) (t_h : T h = FREE) (e_h : f h = ob 4 [.null, .null, .int 0, .int 0, .int 0]) : CV l yX4_init cX4_init 1 1 2 512 E [.ref h] L f (fun L1 f1 => ∃ T1, EXT h T L f T1 L1 f1 ∧ WT T1 L1 f1 ∧ isPat T1 L1 E h) := by
  refine cv_of (by decide) (Nat.le_of_ble_eq_true rfl) (fun z hz hnm hC hR => ?_)
  have hC : Cx z E cX4_init RX4 1 1 2 512 := hC
  subst hz
  show V z E 1 0 0 L f 0 [(0, .ref h)] []
  have x_0 : EXT h T L f T L f := EXT.rf
  refine v_aload_n hC dX4_init_0 rfl ?_
  refine v_objinit hC mo_X4_3 mo_i mo_c (by decide) dX4_init_1 ?_
  refine v_aload_n hC dX4_init_4 rfl ?_
  refine v_sipush hC dX4_init_5 (v := 256) (by decide) ?_
  refine v_newaG hC (t := 1) (ty := .int) (N' := 256) (a0 := (256, .inl (fun _ => 0))) rfl ac_int rfl (fun _ => rfl) (by decide) (by decide) (by decide) (Nat.le_of_ble_eq_true rfl) (Nat.le_of_ble_eq_true rfl) dX4_init_8 (fun q_1 f_2 hq_3 hf_4 hk_5 => ?_)
  obtain ⟨T_6, hx_7, hW_8, m_9, t_10⟩ := nw_t (tI E 256) hW hq_3 hf_4 hk_5 ⟨_, rfl⟩
  obtain ⟨L_11, hs_12⟩ : ∃ L9, L9 = L ++ [q_1] := ⟨_, rfl⟩
  rw [← hs_12] at hx_7 hW_8 m_9 ⊢
  have ni_13 := EXT.nin x_0 m_h hq_3
  refine v_widen (k := 1) (n := 256) (Nat.le_of_ble_eq_true rfl) (Nat.le_of_ble_eq_true rfl) ?_
  have t_14 := (hx_7 h m_h).2.1.trans t_h
  have e_15 := hx_7.at m_h e_h
  have x_16 := EXT.al x_0 hx_7
  have k_17 : isI T_6 L_11 E 256 q_1 := ⟨m_9, t_10⟩
  refine v_putF hC (by rw [hnm]; rfl) fl_X4_9 e_15.1 e_15.2 rfl rfl (Nat.le_of_ble_eq_true rfl) (fs' := [.ref q_1, .null, .int 0, .int 0, .int 0]) rfl dX4_init_10 (fun f_18 hf_19 hk_20 => ?_)
  have hW_21 := hW_8.up hf_19 hk_20 t_14 True.intro
  have x_22 := EXT.put x_16 hk_20
  refine v_aload_n hC dX4_init_13 rfl ?_
  refine v_sipush hC dX4_init_14 (v := 256) (by decide) ?_
  refine v_newaG hC (t := 1) (ty := .int) (N' := 256) (a0 := (256, .inl (fun _ => 0))) rfl ac_int rfl (fun _ => rfl) (by decide) (by decide) (by decide) (Nat.le_of_ble_eq_true rfl) (Nat.le_of_ble_eq_true rfl) dX4_init_17 (fun q_23 f_24 hq_25 hf_26 hk_27 => ?_)
  obtain ⟨T_28, hx_29, hW_30, m_31, t_32⟩ := nw_t (tI E 256) hW_21 hq_25 hf_26 hk_27 ⟨_, rfl⟩
  obtain ⟨L_33, hs_34⟩ : ∃ L9, L9 = L_11 ++ [q_23] := ⟨_, rfl⟩
  rw [← hs_34] at hx_29 hW_30 m_31 ⊢
  have ni_35 := EXT.nin x_22 e_15.1 hq_25
  refine v_widen (k := 2) (n := 512) (Nat.le_of_ble_eq_true rfl) (Nat.le_of_ble_eq_true rfl) ?_
  have k_36 := k_17.mo (.inl rfl) hx_29.xt
  have t_37 := (hx_29 h e_15.1).2.1.trans t_14
  have e_38 := hx_29.at e_15.1 hf_19
  have x_39 := EXT.al x_22 hx_29
  have k_40 : isI T_28 L_33 E 256 q_23 := ⟨m_31, t_32⟩
  refine v_putF hC (by rw [hnm]; rfl) fl_X4_15 e_38.1 e_38.2 rfl rfl (Nat.le_of_ble_eq_true rfl) (fs' := [.ref q_1, .ref q_23, .int 0, .int 0, .int 0]) rfl dX4_init_19 (fun f_41 hf_42 hk_43 => ?_)
  have hW_44 := hW_30.up hf_42 hk_43 t_37 True.intro
  have x_45 := EXT.put x_39 hk_43
  obtain ⟨T_46, xt_47, hW_48, ta_49, tb_50⟩ := ty_ch (tPat q_1 q_23) hW_44 (fr_sh t_37) hf_42 ⟨0, 0, 0, rfl, by decide, by decide, by decide⟩
  have k_51 := k_36.mo (.inl rfl) xt_47
  have k_52 := k_40.mo (.inl rfl) xt_47
  have x_53 := EXT.ty x_45 (.inl rfl) tb_50
  exact hR _ _ _ _ _ _ dX4_init_22 (Nat.le_of_ble_eq_true rfl) (Nat.le_of_ble_eq_true rfl) ⟨T_46, x_53, hW_48, ⟨e_38.1, q_1, q_23, ta_49, k_51, k_52⟩⟩
set_option maxRecDepth 100000 in
set_option maxHeartbeats 4000000 in
theorem kt_X5 {l : Launch} {E : Ez} {L : List Nat} {f : Nat → va_E} {T : Nat → va_E → Prop} {h : Nat} (hW : WT T L f) (m_h : h ∈ L) (t_h : T h = FREE) (e_h : f h = ob 5 [.null, .int 0, .int 0]) : CV l yX5_init cX5_init 1 1 1 60 E [.ref h] L f (fun L1 f1 => ∃ T1, EXT h T L f T1 L1 f1 ∧ WT T1 L1 f1 ∧ isSlot T1 L1 E h ∧ ∃ n9 : Nat, f1 h = ob 5 [.ref n9, .int (-1), .int 0]) := by
  refine cv_of (by decide) (Nat.le_of_ble_eq_true rfl) (fun z hz hnm hC hR => ?_)
  have hC : Cx z E cX5_init RX5 1 1 1 60 := hC
  subst hz
  show V z E 1 0 0 L f 0 [(0, .ref h)] []
  have x_0 : EXT h T L f T L f := EXT.rf
  refine v_aload_n hC dX5_init_0 rfl ?_
  refine v_objinit hC mo_X5_3 mo_i mo_c (by decide) dX5_init_1 ?_
  refine v_aload_n hC dX5_init_4 rfl ?_
  refine v_bipush hC dX5_init_5 (v := 60) (by decide) ?_
  refine v_newaG hC (t := 2) (ty := .long) (N' := 60) (a0 := (60, .inr (.inl (fun _ => 0)))) rfl ac_long rfl (fun _ => rfl) (by decide) (by decide) (by decide) (Nat.le_of_ble_eq_true rfl) (Nat.le_of_ble_eq_true rfl) dX5_init_7 (fun q_1 f_2 hq_3 hf_4 hk_5 => ?_)
  obtain ⟨T_6, hx_7, hW_8, m_9, t_10⟩ := nw_t (tJ E 60) hW hq_3 hf_4 hk_5 ⟨_, rfl⟩
  obtain ⟨L_11, hs_12⟩ : ∃ L9, L9 = L ++ [q_1] := ⟨_, rfl⟩
  rw [← hs_12] at hx_7 hW_8 m_9 ⊢
  have ni_13 := EXT.nin x_0 m_h hq_3
  refine v_widen (k := 1) (n := 60) (Nat.le_of_ble_eq_true rfl) (Nat.le_of_ble_eq_true rfl) ?_
  have t_14 := (hx_7 h m_h).2.1.trans t_h
  have e_15 := hx_7.at m_h e_h
  have x_16 := EXT.al x_0 hx_7
  have k_17 : isJ T_6 L_11 E 60 q_1 := ⟨m_9, t_10⟩
  refine v_putF hC (by rw [hnm]; rfl) fl_X5_9 e_15.1 e_15.2 rfl rfl (Nat.le_of_ble_eq_true rfl) (fs' := [.ref q_1, .int 0, .int 0]) rfl dX5_init_9 (fun f_18 hf_19 hk_20 => ?_)
  have hW_21 := hW_8.up hf_19 hk_20 t_14 True.intro
  have x_22 := EXT.put x_16 hk_20
  refine v_aload_n hC dX5_init_12 rfl ?_
  refine v_iconst hC dX5_init_13 (v := (-1)) (by decide) ?_
  refine v_put hC fl_X5_15 e_15.1 hf_19 rfl rfl (Nat.le_of_ble_eq_true rfl) (fs' := [.ref q_1, .int (-1), .int 0]) rfl dX5_init_14 (fun f_23 hf_24 hk_25 => ?_)
  have hW_26 := hW_21.up hf_24 hk_25 t_14 True.intro
  have x_27 := EXT.put x_22 hk_25
  obtain ⟨T_28, xt_29, hW_30, ta_31, tb_32⟩ := ty_ch (tSlot q_1) hW_26 (fr_sh t_14) hf_24 ⟨(-1), 0, rfl, by decide, by decide⟩
  have k_33 := k_17.mo (.inl rfl) xt_29
  have x_34 := EXT.ty x_27 (.inl rfl) tb_32
  exact hR _ _ _ _ _ _ dX5_init_17 (Nat.le_of_ble_eq_true rfl) (Nat.le_of_ble_eq_true rfl) ⟨T_28, x_34, hW_30, ⟨e_15.1, q_1, ta_31, k_33⟩, ⟨q_1, hf_24⟩⟩
set_option maxRecDepth 100000 in
set_option maxHeartbeats 4000000 in
theorem kt_X7 {l : Launch} {E : Ez} {L : List Nat} {f : Nat → va_E} {T : Nat → va_E → Prop} {h : Nat} (hW : WT T L f) (m_h : h ∈ L) (t_h : T h = FREE) (e_h : f h = ob 7 [.null, .int 0, .int 0, .int 0, .int 0, .int 0, .int 0]) : CV l yX7_init cX7_init 1 1 1 600 E [.ref h] L f (fun L1 f1 => ∃ T1, EXT h T L f T1 L1 f1 ∧ WT T1 L1 f1 ∧ isTape T1 L1 E h) := by
  refine cv_of (by decide) (Nat.le_of_ble_eq_true rfl) (fun z hz hnm hC hR => ?_)
  have hC : Cx z E cX7_init RX7 1 1 1 600 := hC
  subst hz
  show V z E 1 0 0 L f 0 [(0, .ref h)] []
  have x_0 : EXT h T L f T L f := EXT.rf
  refine v_aload_n hC dX7_init_0 rfl ?_
  refine v_objinit hC mo_X7_3 mo_i mo_c (by decide) dX7_init_1 ?_
  refine v_aload_n hC dX7_init_4 rfl ?_
  refine v_sipush hC dX7_init_5 (v := 600) (by decide) ?_
  refine v_newaG hC (t := 1) (ty := .int) (N' := 600) (a0 := (600, .inl (fun _ => 0))) rfl ac_int rfl (fun _ => rfl) (by decide) (by decide) (by decide) (Nat.le_of_ble_eq_true rfl) (Nat.le_of_ble_eq_true rfl) dX7_init_8 (fun q_1 f_2 hq_3 hf_4 hk_5 => ?_)
  obtain ⟨T_6, hx_7, hW_8, m_9, t_10⟩ := nw_t (tI E 600) hW hq_3 hf_4 hk_5 ⟨_, rfl⟩
  obtain ⟨L_11, hs_12⟩ : ∃ L9, L9 = L ++ [q_1] := ⟨_, rfl⟩
  rw [← hs_12] at hx_7 hW_8 m_9 ⊢
  have ni_13 := EXT.nin x_0 m_h hq_3
  refine v_widen (k := 1) (n := 600) (Nat.le_of_ble_eq_true rfl) (Nat.le_of_ble_eq_true rfl) ?_
  have t_14 := (hx_7 h m_h).2.1.trans t_h
  have e_15 := hx_7.at m_h e_h
  have x_16 := EXT.al x_0 hx_7
  have k_17 : isI T_6 L_11 E 600 q_1 := ⟨m_9, t_10⟩
  refine v_putF hC (by rw [hnm]; rfl) fl_X7_9 e_15.1 e_15.2 rfl rfl (Nat.le_of_ble_eq_true rfl) (fs' := [.ref q_1, .int 0, .int 0, .int 0, .int 0, .int 0, .int 0]) rfl dX7_init_10 (fun f_18 hf_19 hk_20 => ?_)
  have hW_21 := hW_8.up hf_19 hk_20 t_14 True.intro
  have x_22 := EXT.put x_16 hk_20
  refine v_aload_n hC dX7_init_13 rfl ?_
  refine v_iconst hC dX7_init_14 (v := (-1)) (by decide) ?_
  refine v_put hC fl_X7_15 e_15.1 hf_19 rfl rfl (Nat.le_of_ble_eq_true rfl) (fs' := [.ref q_1, .int 0, .int 0, .int 0, .int 0, .int 0, .int (-1)]) rfl dX7_init_15 (fun f_23 hf_24 hk_25 => ?_)
  have hW_26 := hW_21.up hf_24 hk_25 t_14 True.intro
  have x_27 := EXT.put x_22 hk_25
  obtain ⟨T_28, xt_29, hW_30, ta_31, tb_32⟩ := ty_ch (tTape q_1) hW_26 (fr_sh t_14) hf_24 ⟨0, 0, 0, 0, 0, (-1), rfl, by decide, by decide, by decide⟩
  have k_33 := k_17.mo (.inl rfl) xt_29
  have x_34 := EXT.ty x_27 (.inl rfl) tb_32
  exact hR _ _ _ _ _ _ dX7_init_18 (Nat.le_of_ble_eq_true rfl) (Nat.le_of_ble_eq_true rfl) ⟨T_28, x_34, hW_30, ⟨e_15.1, q_1, ta_31, k_33⟩⟩
set_option maxRecDepth 100000 in
set_option maxHeartbeats 4000000 in
theorem kt_X9 {l : Launch} {E : Ez} {L : List Nat} {f : Nat → va_E} {T : Nat → va_E → Prop} {h : Nat} (hW : WT T L f) (m_h : h ∈ L) (t_h : T h = FREE) (e_h : f h = ob 9 [.null, .int 0, .int 0]) : CV l yX9_init cX9_init 1 1 1 300 E [.ref h] L f (fun L1 f1 => ∃ T1, EXT h T L f T1 L1 f1 ∧ WT T1 L1 f1 ∧ isWat T1 L1 E h) := by
  refine cv_of (by decide) (Nat.le_of_ble_eq_true rfl) (fun z hz hnm hC hR => ?_)
  have hC : Cx z E cX9_init RX9 1 1 1 300 := hC
  subst hz
  show V z E 1 0 0 L f 0 [(0, .ref h)] []
  have x_0 : EXT h T L f T L f := EXT.rf
  refine v_aload_n hC dX9_init_0 rfl ?_
  refine v_objinit hC mo_X9_5 mo_i mo_c (by decide) dX9_init_1 ?_
  refine v_aload_n hC dX9_init_4 rfl ?_
  refine v_sipush hC dX9_init_5 (v := 300) (by decide) ?_
  refine v_newaG hC (t := 1) (ty := .int) (N' := 300) (a0 := (300, .inl (fun _ => 0))) rfl ac_int rfl (fun _ => rfl) (by decide) (by decide) (by decide) (Nat.le_of_ble_eq_true rfl) (Nat.le_of_ble_eq_true rfl) dX9_init_8 (fun q_1 f_2 hq_3 hf_4 hk_5 => ?_)
  obtain ⟨T_6, hx_7, hW_8, m_9, t_10⟩ := nw_t (tI E 300) hW hq_3 hf_4 hk_5 ⟨_, rfl⟩
  obtain ⟨L_11, hs_12⟩ : ∃ L9, L9 = L ++ [q_1] := ⟨_, rfl⟩
  rw [← hs_12] at hx_7 hW_8 m_9 ⊢
  have ni_13 := EXT.nin x_0 m_h hq_3
  refine v_widen (k := 1) (n := 300) (Nat.le_of_ble_eq_true rfl) (Nat.le_of_ble_eq_true rfl) ?_
  have t_14 := (hx_7 h m_h).2.1.trans t_h
  have e_15 := hx_7.at m_h e_h
  have x_16 := EXT.al x_0 hx_7
  have k_17 : isI T_6 L_11 E 300 q_1 := ⟨m_9, t_10⟩
  refine v_putF hC (by rw [hnm]; rfl) fl_X9_13 e_15.1 e_15.2 rfl rfl (Nat.le_of_ble_eq_true rfl) (fs' := [.ref q_1, .int 0, .int 0]) rfl dX9_init_10 (fun f_18 hf_19 hk_20 => ?_)
  have hW_21 := hW_8.up hf_19 hk_20 t_14 True.intro
  have x_22 := EXT.put x_16 hk_20
  obtain ⟨T_23, xt_24, hW_25, ta_26, tb_27⟩ := ty_ch (tWat q_1) hW_21 (fr_sh t_14) hf_19 ⟨0, 0, rfl, by decide⟩
  have k_28 := k_17.mo (.inl rfl) xt_24
  have x_29 := EXT.ty x_22 (.inl rfl) tb_27
  exact hR _ _ _ _ _ _ dX9_init_13 (Nat.le_of_ble_eq_true rfl) (Nat.le_of_ble_eq_true rfl) ⟨T_23, x_29, hW_25, ⟨e_15.1, q_1, ta_26, k_28⟩⟩
set_option maxRecDepth 100000 in
set_option maxHeartbeats 4000000 in
theorem kt_X8 {l : Launch} {E : Ez} {L : List Nat} {f : Nat → va_E} {T : Nat → va_E → Prop} {h : Nat} (hW : WT T L f) (m_h : h ∈ L) (t_h : T h = FREE) (e_h : f h = ob 8 [.null, .int 0, .int 0, .int 0, .int 0]) : CV l yX8_init cX8_init 1 1 1 256 E [.ref h] L f (fun L1 f1 => ∃ T1, EXT h T L f T1 L1 f1 ∧ WT T1 L1 f1 ∧ isWalk T1 L1 E h) := by
  refine cv_of (by decide) (Nat.le_of_ble_eq_true rfl) (fun z hz hnm hC hR => ?_)
  have hC : Cx z E cX8_init RX8 1 1 1 256 := hC
  subst hz
  show V z E 1 0 0 L f 0 [(0, .ref h)] []
  have x_0 : EXT h T L f T L f := EXT.rf
  refine v_aload_n hC dX8_init_0 rfl ?_
  refine v_objinit hC mo_X8_3 mo_i mo_c (by decide) dX8_init_1 ?_
  refine v_aload_n hC dX8_init_4 rfl ?_
  refine v_sipush hC dX8_init_5 (v := 256) (by decide) ?_
  refine v_newaG hC (t := 1) (ty := .int) (N' := 256) (a0 := (256, .inl (fun _ => 0))) rfl ac_int rfl (fun _ => rfl) (by decide) (by decide) (by decide) (Nat.le_of_ble_eq_true rfl) (Nat.le_of_ble_eq_true rfl) dX8_init_8 (fun q_1 f_2 hq_3 hf_4 hk_5 => ?_)
  obtain ⟨T_6, hx_7, hW_8, m_9, t_10⟩ := nw_t (tI E 256) hW hq_3 hf_4 hk_5 ⟨_, rfl⟩
  obtain ⟨L_11, hs_12⟩ : ∃ L9, L9 = L ++ [q_1] := ⟨_, rfl⟩
  rw [← hs_12] at hx_7 hW_8 m_9 ⊢
  have ni_13 := EXT.nin x_0 m_h hq_3
  refine v_widen (k := 1) (n := 256) (Nat.le_of_ble_eq_true rfl) (Nat.le_of_ble_eq_true rfl) ?_
  have t_14 := (hx_7 h m_h).2.1.trans t_h
  have e_15 := hx_7.at m_h e_h
  have x_16 := EXT.al x_0 hx_7
  have k_17 : isI T_6 L_11 E 256 q_1 := ⟨m_9, t_10⟩
  refine v_putF hC (by rw [hnm]; rfl) fl_X8_9 e_15.1 e_15.2 rfl rfl (Nat.le_of_ble_eq_true rfl) (fs' := [.ref q_1, .int 0, .int 0, .int 0, .int 0]) rfl dX8_init_10 (fun f_18 hf_19 hk_20 => ?_)
  have hW_21 := hW_8.up hf_19 hk_20 t_14 True.intro
  have x_22 := EXT.put x_16 hk_20
  refine v_aload_n hC dX8_init_13 rfl ?_
  refine v_iconst hC dX8_init_14 (v := 1) (by decide) ?_
  refine v_put hC fl_X8_15 e_15.1 hf_19 rfl rfl (Nat.le_of_ble_eq_true rfl) (fs' := [.ref q_1, .int 0, .int 1, .int 0, .int 0]) rfl dX8_init_15 (fun f_23 hf_24 hk_25 => ?_)
  have hW_26 := hW_21.up hf_24 hk_25 t_14 True.intro
  have x_27 := EXT.put x_22 hk_25
  refine v_aload_n hC dX8_init_18 rfl ?_
  refine v_iconst hC dX8_init_19 (v := 1) (by decide) ?_
  refine v_put hC fl_X8_19 e_15.1 hf_24 rfl rfl (Nat.le_of_ble_eq_true rfl) (fs' := [.ref q_1, .int 0, .int 1, .int 1, .int 0]) rfl dX8_init_20 (fun f_28 hf_29 hk_30 => ?_)
  have hW_31 := hW_26.up hf_29 hk_30 t_14 True.intro
  have x_32 := EXT.put x_27 hk_30
  obtain ⟨T_33, xt_34, hW_35, ta_36, tb_37⟩ := ty_ch (tWalk q_1) hW_31 (fr_sh t_14) hf_29 ⟨0, 1, 1, 0, rfl, by decide, by decide, by decide, by decide⟩
  have k_38 := k_17.mo (.inl rfl) xt_34
  have x_39 := EXT.ty x_32 (.inl rfl) tb_37
  exact hR _ _ _ _ _ _ dX8_init_23 (Nat.le_of_ble_eq_true rfl) (Nat.le_of_ble_eq_true rfl) ⟨T_33, x_39, hW_35, ⟨e_15.1, q_1, ta_36, k_38⟩⟩
set_option maxRecDepth 100000 in
set_option maxHeartbeats 4000000 in
theorem kt_X6 {l : Launch} {E : Ez} {L : List Nat} {f : Nat → va_E} {T : Nat → va_E → Prop} {h : Nat} (hW : WT T L f) (m_h : h ∈ L) (t_h : T h = FREE) (e_h : f h = ob 6 [.null, .null, .null, .null, .null, .int 0, .int 0, .int 0, .int 0, .int 0]) : CV l yX6_init cX6_init 1 2 6 791 E [.ref h] L f (fun L1 f1 => ∃ T1, EXT h T L f T1 L1 f1 ∧ WT T1 L1 f1 ∧ isTal T1 L1 E h) := by
  refine cv_of (by decide) (Nat.le_of_ble_eq_true rfl) (fun z hz hnm hC hR => ?_)
  have hC : Cx z E cX6_init RX6 1 2 6 791 := hC
  subst hz
  show V z E 1 0 0 L f 0 [(0, .ref h)] []
  have x_0 : EXT h T L f T L f := EXT.rf
  refine v_aload_n hC dX6_init_0 rfl ?_
  refine v_objinit hC mo_X6_3 mo_i mo_c (by decide) dX6_init_1 ?_
  refine v_aload_n hC dX6_init_4 rfl ?_
  refine v_new hC (ci := 1) (fs := [.null, .int 0]) rfl inX1 tyX1_ok kl_X6_9 in_X1 ii_X1 (fun j hj => by rcases (show j = 0 ∨ j = 1 by omega) with rfl | rfl <;> rfl) (Nat.le_of_ble_eq_true rfl) (Nat.le_of_ble_eq_true rfl) dX6_init_5 (fun q_1 f_2 hq_3 hf_4 hk_5 => ?_)
  obtain ⟨T_6, hx_7, hW_8, m_9, t_10⟩ := nw_t FREE hW hq_3 hf_4 hk_5 True.intro
  obtain ⟨L_11, hs_12⟩ : ∃ L9, L9 = L ++ [q_1] := ⟨_, rfl⟩
  rw [← hs_12] at hx_7 hW_8 m_9 ⊢
  have ni_13 := EXT.nin x_0 m_h hq_3
  refine v_widen (k := 1) (n := 2) (Nat.le_of_ble_eq_true rfl) (Nat.le_of_ble_eq_true rfl) ?_
  refine v_dup hC dX6_init_8 rfl ?_
  refine v_xvN hC (rest := [.ref q_1, .ref h]) rfl mi_X1_init (kt_X1 hW_8 m_9 t_10 hf_4) mx_X1_init mn_X6_11 (by decide) rfl (cells1 := 2) (slots1 := 258) (by decide) (by decide) (Nat.le_of_ble_eq_true rfl) (Nat.le_of_ble_eq_true rfl) rfl (Nat.le_of_ble_eq_true rfl) dX6_init_9 (fun L_14 f_15 h_16 => ?_)
  obtain ⟨T_17, hy_18, hW_19, k_20⟩ := h_16
  have hx_21 := EX.ct hx_7 hq_3 hy_18
  have t_22 := (hx_21 h m_h).2.1.trans t_h
  have e_23 := hx_21.at m_h e_h
  have x_24 := EXT.al x_0 hx_21
  refine v_putF hC (by rw [hnm]; rfl) fl_X6_12 e_23.1 e_23.2 rfl rfl (Nat.le_of_ble_eq_true rfl) (fs' := [.ref q_1, .null, .null, .null, .null, .int 0, .int 0, .int 0, .int 0, .int 0]) rfl dX6_init_12 (fun f_25 hf_26 hk_27 => ?_)
  have hW_28 := hW_19.up hf_26 hk_27 t_22 True.intro
  have x_29 := EXT.put x_24 hk_27
  refine v_aload_n hC dX6_init_15 rfl ?_
  refine v_iconst hC dX6_init_16 (v := 5) (by decide) ?_
  refine v_newaG hC (t := 1) (ty := .int) (N' := 5) (a0 := (5, .inl (fun _ => 0))) rfl ac_int rfl (fun _ => rfl) (by decide) (by decide) (by decide) (Nat.le_of_ble_eq_true rfl) (Nat.le_of_ble_eq_true rfl) dX6_init_17 (fun q_30 f_31 hq_32 hf_33 hk_34 => ?_)
  obtain ⟨T_35, hx_36, hW_37, m_38, t_39⟩ := nw_t (tI E 5) hW_28 hq_32 hf_33 hk_34 ⟨_, rfl⟩
  obtain ⟨L_40, hs_41⟩ : ∃ L9, L9 = L_14 ++ [q_30] := ⟨_, rfl⟩
  rw [← hs_41] at hx_36 hW_37 m_38 ⊢
  have ni_42 := EXT.nin x_29 e_23.1 hq_32
  refine v_widen (k := 3) (n := 263) (Nat.le_of_ble_eq_true rfl) (Nat.le_of_ble_eq_true rfl) ?_
  have k_43 := k_20.mo (.inl rfl) hx_36.xt
  have t_44 := (hx_36 h e_23.1).2.1.trans t_22
  have e_45 := hx_36.at e_23.1 hf_26
  have x_46 := EXT.al x_29 hx_36
  have k_47 : isI T_35 L_40 E 5 q_30 := ⟨m_38, t_39⟩
  refine v_putF hC (by rw [hnm]; rfl) fl_X6_18 e_45.1 e_45.2 rfl rfl (Nat.le_of_ble_eq_true rfl) (fs' := [.ref q_1, .ref q_30, .null, .null, .null, .int 0, .int 0, .int 0, .int 0, .int 0]) rfl dX6_init_19 (fun f_48 hf_49 hk_50 => ?_)
  have hW_51 := hW_37.up hf_49 hk_50 t_44 True.intro
  have x_52 := EXT.put x_46 hk_50
  refine v_aload_n hC dX6_init_22 rfl ?_
  refine v_bipush hC dX6_init_23 (v := 16) (by decide) ?_
  refine v_newaG hC (t := 1) (ty := .int) (N' := 16) (a0 := (16, .inl (fun _ => 0))) rfl ac_int rfl (fun _ => rfl) (by decide) (by decide) (by decide) (Nat.le_of_ble_eq_true rfl) (Nat.le_of_ble_eq_true rfl) dX6_init_25 (fun q_53 f_54 hq_55 hf_56 hk_57 => ?_)
  obtain ⟨T_58, hx_59, hW_60, m_61, t_62⟩ := nw_t (tI E 16) hW_51 hq_55 hf_56 hk_57 ⟨_, rfl⟩
  obtain ⟨L_63, hs_64⟩ : ∃ L9, L9 = L_40 ++ [q_53] := ⟨_, rfl⟩
  rw [← hs_64] at hx_59 hW_60 m_61 ⊢
  have ni_65 := EXT.nin x_52 e_45.1 hq_55
  refine v_widen (k := 4) (n := 279) (Nat.le_of_ble_eq_true rfl) (Nat.le_of_ble_eq_true rfl) ?_
  have k_66 := k_43.mo (.inl rfl) hx_59.xt
  have k_67 := k_47.mo (.inl rfl) hx_59.xt
  have t_68 := (hx_59 h e_45.1).2.1.trans t_44
  have e_69 := hx_59.at e_45.1 hf_49
  have x_70 := EXT.al x_52 hx_59
  have k_71 : isI T_58 L_63 E 16 q_53 := ⟨m_61, t_62⟩
  refine v_putF hC (by rw [hnm]; rfl) fl_X6_22 e_69.1 e_69.2 rfl rfl (Nat.le_of_ble_eq_true rfl) (fs' := [.ref q_1, .ref q_30, .ref q_53, .null, .null, .int 0, .int 0, .int 0, .int 0, .int 0]) rfl dX6_init_27 (fun f_72 hf_73 hk_74 => ?_)
  have hW_75 := hW_60.up hf_73 hk_74 t_68 True.intro
  have x_76 := EXT.put x_70 hk_74
  refine v_aload_n hC dX6_init_30 rfl ?_
  refine v_sipush hC dX6_init_31 (v := 256) (by decide) ?_
  refine v_newaG hC (t := 1) (ty := .int) (N' := 256) (a0 := (256, .inl (fun _ => 0))) rfl ac_int rfl (fun _ => rfl) (by decide) (by decide) (by decide) (Nat.le_of_ble_eq_true rfl) (Nat.le_of_ble_eq_true rfl) dX6_init_34 (fun q_77 f_78 hq_79 hf_80 hk_81 => ?_)
  obtain ⟨T_82, hx_83, hW_84, m_85, t_86⟩ := nw_t (tI E 256) hW_75 hq_79 hf_80 hk_81 ⟨_, rfl⟩
  obtain ⟨L_87, hs_88⟩ : ∃ L9, L9 = L_63 ++ [q_77] := ⟨_, rfl⟩
  rw [← hs_88] at hx_83 hW_84 m_85 ⊢
  have ni_89 := EXT.nin x_76 e_69.1 hq_79
  refine v_widen (k := 5) (n := 535) (Nat.le_of_ble_eq_true rfl) (Nat.le_of_ble_eq_true rfl) ?_
  have k_90 := k_66.mo (.inl rfl) hx_83.xt
  have k_91 := k_67.mo (.inl rfl) hx_83.xt
  have k_92 := k_71.mo (.inl rfl) hx_83.xt
  have t_93 := (hx_83 h e_69.1).2.1.trans t_68
  have e_94 := hx_83.at e_69.1 hf_73
  have x_95 := EXT.al x_76 hx_83
  have k_96 : isI T_82 L_87 E 256 q_77 := ⟨m_85, t_86⟩
  refine v_putF hC (by rw [hnm]; rfl) fl_X6_25 e_94.1 e_94.2 rfl rfl (Nat.le_of_ble_eq_true rfl) (fs' := [.ref q_1, .ref q_30, .ref q_53, .ref q_77, .null, .int 0, .int 0, .int 0, .int 0, .int 0]) rfl dX6_init_36 (fun f_97 hf_98 hk_99 => ?_)
  have hW_100 := hW_84.up hf_98 hk_99 t_93 True.intro
  have x_101 := EXT.put x_95 hk_99
  refine v_aload_n hC dX6_init_39 rfl ?_
  refine v_sipush hC dX6_init_40 (v := 256) (by decide) ?_
  refine v_newaG hC (t := 1) (ty := .int) (N' := 256) (a0 := (256, .inl (fun _ => 0))) rfl ac_int rfl (fun _ => rfl) (by decide) (by decide) (by decide) (Nat.le_of_ble_eq_true rfl) (Nat.le_of_ble_eq_true rfl) dX6_init_43 (fun q_102 f_103 hq_104 hf_105 hk_106 => ?_)
  obtain ⟨T_107, hx_108, hW_109, m_110, t_111⟩ := nw_t (tI E 256) hW_100 hq_104 hf_105 hk_106 ⟨_, rfl⟩
  obtain ⟨L_112, hs_113⟩ : ∃ L9, L9 = L_87 ++ [q_102] := ⟨_, rfl⟩
  rw [← hs_113] at hx_108 hW_109 m_110 ⊢
  have ni_114 := EXT.nin x_101 e_94.1 hq_104
  refine v_widen (k := 6) (n := 791) (Nat.le_of_ble_eq_true rfl) (Nat.le_of_ble_eq_true rfl) ?_
  have k_115 := k_90.mo (.inl rfl) hx_108.xt
  have k_116 := k_91.mo (.inl rfl) hx_108.xt
  have k_117 := k_92.mo (.inl rfl) hx_108.xt
  have k_118 := k_96.mo (.inl rfl) hx_108.xt
  have t_119 := (hx_108 h e_94.1).2.1.trans t_93
  have e_120 := hx_108.at e_94.1 hf_98
  have x_121 := EXT.al x_101 hx_108
  have k_122 : isI T_107 L_112 E 256 q_102 := ⟨m_110, t_111⟩
  refine v_putF hC (by rw [hnm]; rfl) fl_X6_28 e_120.1 e_120.2 rfl rfl (Nat.le_of_ble_eq_true rfl) (fs' := [.ref q_1, .ref q_30, .ref q_53, .ref q_77, .ref q_102, .int 0, .int 0, .int 0, .int 0, .int 0]) rfl dX6_init_45 (fun f_123 hf_124 hk_125 => ?_)
  have hW_126 := hW_109.up hf_124 hk_125 t_119 True.intro
  have x_127 := EXT.put x_121 hk_125
  obtain ⟨T_128, xt_129, hW_130, ta_131, tb_132⟩ := ty_ch (tTal q_1 q_30 q_53 q_77 q_102) hW_126 (fr_sh t_119) hf_124 ⟨0, 0, 0, 0, 0, rfl, by decide, by decide⟩
  have k_133 := k_115.mo (.inl rfl) xt_129
  have k_134 := k_116.mo (.inl rfl) xt_129
  have k_135 := k_117.mo (.inl rfl) xt_129
  have k_136 := k_118.mo (.inl rfl) xt_129
  have k_137 := k_122.mo (.inl rfl) xt_129
  have x_138 := EXT.ty x_127 (.inl rfl) tb_132
  exact hR _ _ _ _ _ _ dX6_init_48 (Nat.le_of_ble_eq_true rfl) (Nat.le_of_ble_eq_true rfl) ⟨T_128, x_138, hW_130, ⟨e_120.1, q_1, q_30, q_53, q_77, q_102, ta_131, k_133, k_134, k_135, k_136, k_137⟩⟩
set_option maxRecDepth 100000 in
set_option maxHeartbeats 4000000 in
theorem kt_X0 {l : Launch} {E : Ez} {L : List Nat} {f : Nat → va_E} {T : Nat → va_E → Prop} {h : Nat} (hW : WT T L f) (m_h : h ∈ L) (t_h : T h = FREE) (e_h : f h = ob 0 [.null, .null, .null, .null, .null, .null]) : CV l yX0_init cX0_init 2 2 26 1947 E [.ref h] L f (fun L1 f1 => ∃ T1, EXT h T L f T1 L1 f1 ∧ WT T1 L1 f1 ∧ isBas T1 L1 E h) := by
  refine cv_of (by decide) (Nat.le_of_ble_eq_true rfl) (fun z hz hnm hC hR => ?_)
  have hC : Cx z E cX0_init RX0 2 2 26 1947 := hC
  subst hz
  show V z E 2 0 0 L f 0 [(0, .ref h)] []
  have x_0 : EXT h T L f T L f := EXT.rf
  refine v_aload_n hC dX0_init_0 rfl ?_
  refine v_objinit hC mo_X0_3 mo_i mo_c (by decide) dX0_init_1 ?_
  refine v_aload_n hC dX0_init_4 rfl ?_
  refine v_new hC (ci := 4) (fs := [.null, .null, .int 0, .int 0, .int 0]) rfl inX4 tyX4_ok kl_X0_9 in_X4 ii_X4 (fun j hj => by rcases (show j = 0 ∨ j = 1 ∨ j = 2 ∨ j = 3 ∨ j = 4 by omega) with rfl | rfl | rfl | rfl | rfl <;> rfl) (Nat.le_of_ble_eq_true rfl) (Nat.le_of_ble_eq_true rfl) dX0_init_5 (fun q_1 f_2 hq_3 hf_4 hk_5 => ?_)
  obtain ⟨T_6, hx_7, hW_8, m_9, t_10⟩ := nw_t FREE hW hq_3 hf_4 hk_5 True.intro
  obtain ⟨L_11, hs_12⟩ : ∃ L9, L9 = L ++ [q_1] := ⟨_, rfl⟩
  rw [← hs_12] at hx_7 hW_8 m_9 ⊢
  have ni_13 := EXT.nin x_0 m_h hq_3
  refine v_widen (k := 1) (n := 5) (Nat.le_of_ble_eq_true rfl) (Nat.le_of_ble_eq_true rfl) ?_
  refine v_dup hC dX0_init_8 rfl ?_
  refine v_xvN hC (rest := [.ref q_1, .ref h]) rfl mi_X4_init (kt_X4 hW_8 m_9 t_10 hf_4) mx_X4_init mn_X0_11 (by decide) rfl (cells1 := 3) (slots1 := 517) (by decide) (by decide) (Nat.le_of_ble_eq_true rfl) (Nat.le_of_ble_eq_true rfl) rfl (Nat.le_of_ble_eq_true rfl) dX0_init_9 (fun L_14 f_15 h_16 => ?_)
  obtain ⟨T_17, hy_18, hW_19, k_20⟩ := h_16
  have hx_21 := EX.ct hx_7 hq_3 hy_18
  have t_22 := (hx_21 h m_h).2.1.trans t_h
  have e_23 := hx_21.at m_h e_h
  have x_24 := EXT.al x_0 hx_21
  refine v_putF hC (by rw [hnm]; rfl) fl_X0_12 e_23.1 e_23.2 rfl rfl (Nat.le_of_ble_eq_true rfl) (fs' := [.ref q_1, .null, .null, .null, .null, .null]) rfl dX0_init_12 (fun f_25 hf_26 hk_27 => ?_)
  have hW_28 := hW_19.up hf_26 hk_27 t_22 True.intro
  have x_29 := EXT.put x_24 hk_27
  refine v_aload_n hC dX0_init_15 rfl ?_
  refine v_iconst hC dX0_init_16 (v := 3) (by decide) ?_
  refine v_newaG hC (t := 1) (ty := .int) (N' := 3) (a0 := (3, .inl (fun _ => 0))) rfl ac_int rfl (fun _ => rfl) (by decide) (by decide) (by decide) (Nat.le_of_ble_eq_true rfl) (Nat.le_of_ble_eq_true rfl) dX0_init_17 (fun q_30 f_31 hq_32 hf_33 hk_34 => ?_)
  obtain ⟨T_35, hx_36, hW_37, m_38, t_39⟩ := nw_t (tI E 3) hW_28 hq_32 hf_33 hk_34 ⟨_, rfl⟩
  obtain ⟨L_40, hs_41⟩ : ∃ L9, L9 = L_14 ++ [q_30] := ⟨_, rfl⟩
  rw [← hs_41] at hx_36 hW_37 m_38 ⊢
  have ni_42 := EXT.nin x_29 e_23.1 hq_32
  refine v_widen (k := 4) (n := 520) (Nat.le_of_ble_eq_true rfl) (Nat.le_of_ble_eq_true rfl) ?_
  have k_43 := k_20.mo (.inl rfl) hx_36.xt
  have t_44 := (hx_36 h e_23.1).2.1.trans t_22
  have e_45 := hx_36.at e_23.1 hf_26
  have x_46 := EXT.al x_29 hx_36
  have k_47 : isI T_35 L_40 E 3 q_30 := ⟨m_38, t_39⟩
  refine v_putF hC (by rw [hnm]; rfl) fl_X0_18 e_45.1 e_45.2 rfl rfl (Nat.le_of_ble_eq_true rfl) (fs' := [.ref q_1, .ref q_30, .null, .null, .null, .null]) rfl dX0_init_19 (fun f_48 hf_49 hk_50 => ?_)
  have hW_51 := hW_37.up hf_49 hk_50 t_44 True.intro
  have x_52 := EXT.put x_46 hk_50
  refine v_aload_n hC dX0_init_22 rfl ?_
  refine v_bipush hC dX0_init_23 (v := 6) (by decide) ?_
  refine v_newq hC (t := 7) (N' := 6) kl_X0_22 ao_X10 rfl (by decide) (by decide) (by decide) (Nat.le_of_ble_eq_true rfl) (Nat.le_of_ble_eq_true rfl) dX0_init_25 (fun q_53 f_54 hq_55 hf_56 hk_57 => ?_)
  obtain ⟨T_58, hx_59, hW_60, m_61, t_62⟩ := nw_t FREE hW_51 hq_55 hf_56 hk_57 True.intro
  obtain ⟨L_63, hs_64⟩ : ∃ L9, L9 = L_40 ++ [q_53] := ⟨_, rfl⟩
  rw [← hs_64] at hx_59 hW_60 m_61 ⊢
  have ni_65 := EXT.nin x_52 e_45.1 hq_55
  refine v_widen (k := 5) (n := 526) (Nat.le_of_ble_eq_true rfl) (Nat.le_of_ble_eq_true rfl) ?_
  have k_66 := k_43.mo (.inl rfl) hx_59.xt
  have k_67 := k_47.mo (.inl rfl) hx_59.xt
  have t_68 := (hx_59 h e_45.1).2.1.trans t_44
  have e_69 := hx_59.at e_45.1 hf_49
  have x_70 := EXT.al x_52 hx_59
  refine v_putF hC (by rw [hnm]; rfl) fl_X0_24 e_69.1 e_69.2 rfl rfl (Nat.le_of_ble_eq_true rfl) (fs' := [.ref q_1, .ref q_30, .ref q_53, .null, .null, .null]) rfl dX0_init_28 (fun f_71 hf_72 hk_73 => ?_)
  have e_76 := (hk_73 q_53 (ne_kd hf_56 e_69.2 rfl)).trans hf_56
  have hW_74 := hW_60.up hf_72 hk_73 t_68 True.intro
  have x_75 := EXT.put x_70 hk_73
  refine v_aload_n hC dX0_init_31 rfl ?_
  refine v_new hC (ci := 9) (fs := [.null, .int 0, .int 0]) rfl inX9 tyX9_ok kl_X0_28 in_X9 ii_X9 (fun j hj => by rcases (show j = 0 ∨ j = 1 ∨ j = 2 by omega) with rfl | rfl | rfl <;> rfl) (Nat.le_of_ble_eq_true rfl) (Nat.le_of_ble_eq_true rfl) dX0_init_32 (fun q_77 f_78 hq_79 hf_80 hk_81 => ?_)
  obtain ⟨T_82, hx_83, hW_84, m_85, t_86⟩ := nw_t FREE hW_74 hq_79 hf_80 hk_81 True.intro
  obtain ⟨L_87, hs_88⟩ : ∃ L9, L9 = L_63 ++ [q_77] := ⟨_, rfl⟩
  rw [← hs_88] at hx_83 hW_84 m_85 ⊢
  have ni_89 := EXT.nin x_75 e_69.1 hq_79
  refine v_widen (k := 6) (n := 529) (Nat.le_of_ble_eq_true rfl) (Nat.le_of_ble_eq_true rfl) ?_
  refine v_dup hC dX0_init_35 rfl ?_
  refine v_xvN hC (rest := [.ref q_77, .ref h]) rfl mi_X9_init (kt_X9 hW_84 m_85 t_86 hf_80) mx_X9_init mn_X0_30 (by decide) rfl (cells1 := 7) (slots1 := 829) (by decide) (by decide) (Nat.le_of_ble_eq_true rfl) (Nat.le_of_ble_eq_true rfl) rfl (Nat.le_of_ble_eq_true rfl) dX0_init_36 (fun L_90 f_91 h_92 => ?_)
  obtain ⟨T_93, hy_94, hW_95, k_96⟩ := h_92
  have hx_97 := EX.ct hx_83 hq_79 hy_94
  have k_98 := k_66.mo (.inl rfl) hx_97.xt
  have k_99 := k_67.mo (.inl rfl) hx_97.xt
  have t_100 := (hx_97 h e_69.1).2.1.trans t_68
  have t_101 := (hx_97 q_53 m_61).2.1.trans t_62
  have e_102 := hx_97.at e_69.1 hf_72
  have e_103 := hx_97.at m_61 e_76
  have x_104 := EXT.al x_75 hx_97
  refine v_putF hC (by rw [hnm]; rfl) fl_X0_31 e_102.1 e_102.2 rfl rfl (Nat.le_of_ble_eq_true rfl) (fs' := [.ref q_1, .ref q_30, .ref q_53, .ref q_77, .null, .null]) rfl dX0_init_39 (fun f_105 hf_106 hk_107 => ?_)
  have e_110 := (hk_107 q_53 (ne_kd e_103.2 e_102.2 rfl)).trans e_103.2
  have hW_108 := hW_95.up hf_106 hk_107 t_100 True.intro
  have x_109 := EXT.put x_104 hk_107
  refine v_aload_n hC dX0_init_42 rfl ?_
  refine v_new hC (ci := 3) (fs := [.null, .null, .null, .int 0]) rfl inX3 tyX3_ok kl_X0_35 in_X3 ii_X3 (fun j hj => by rcases (show j = 0 ∨ j = 1 ∨ j = 2 ∨ j = 3 by omega) with rfl | rfl | rfl | rfl <;> rfl) (Nat.le_of_ble_eq_true rfl) (Nat.le_of_ble_eq_true rfl) dX0_init_43 (fun q_111 f_112 hq_113 hf_114 hk_115 => ?_)
  obtain ⟨T_116, hx_117, hW_118, m_119, t_120⟩ := nw_t FREE hW_108 hq_113 hf_114 hk_115 True.intro
  obtain ⟨L_121, hs_122⟩ : ∃ L9, L9 = L_90 ++ [q_111] := ⟨_, rfl⟩
  rw [← hs_122] at hx_117 hW_118 m_119 ⊢
  have ni_123 := EXT.nin x_109 e_102.1 hq_113
  refine v_widen (k := 8) (n := 833) (Nat.le_of_ble_eq_true rfl) (Nat.le_of_ble_eq_true rfl) ?_
  refine v_dup hC dX0_init_46 rfl ?_
  refine v_xvN hC (rest := [.ref q_111, .ref h]) rfl mi_X3_init (kt_X3 hW_118 m_119 t_120 hf_114) mx_X3_init mn_X0_37 (by decide) rfl (cells1 := 11) (slots1 := 869) (by decide) (by decide) (Nat.le_of_ble_eq_true rfl) (Nat.le_of_ble_eq_true rfl) rfl (Nat.le_of_ble_eq_true rfl) dX0_init_47 (fun L_124 f_125 h_126 => ?_)
  obtain ⟨T_127, hy_128, hW_129, k_130⟩ := h_126
  have hx_131 := EX.ct hx_117 hq_113 hy_128
  have k_132 := k_98.mo (.inl rfl) hx_131.xt
  have k_133 := k_99.mo (.inl rfl) hx_131.xt
  have k_134 := k_96.mo (.inl rfl) hx_131.xt
  have t_135 := (hx_131 h e_102.1).2.1.trans t_100
  have t_136 := (hx_131 q_53 e_103.1).2.1.trans t_101
  have e_137 := hx_131.at e_102.1 hf_106
  have e_138 := hx_131.at e_103.1 e_110
  have x_139 := EXT.al x_109 hx_131
  refine v_putF hC (by rw [hnm]; rfl) fl_X0_38 e_137.1 e_137.2 rfl rfl (Nat.le_of_ble_eq_true rfl) (fs' := [.ref q_1, .ref q_30, .ref q_53, .ref q_77, .ref q_111, .null]) rfl dX0_init_50 (fun f_140 hf_141 hk_142 => ?_)
  have e_145 := (hk_142 q_53 (ne_kd e_138.2 e_137.2 rfl)).trans e_138.2
  have hW_143 := hW_129.up hf_141 hk_142 t_135 True.intro
  have x_144 := EXT.put x_139 hk_142
  refine v_aload_n hC dX0_init_53 rfl ?_
  refine v_iconst hC dX0_init_54 (v := 4) (by decide) ?_
  refine v_newq hC (t := 5) (N' := 4) kl_X0_42 ao_X1 rfl (by decide) (by decide) (by decide) (Nat.le_of_ble_eq_true rfl) (Nat.le_of_ble_eq_true rfl) dX0_init_55 (fun q_146 f_147 hq_148 hf_149 hk_150 => ?_)
  obtain ⟨T_151, hx_152, hW_153, m_154, t_155⟩ := nw_t FREE hW_143 hq_148 hf_149 hk_150 True.intro
  obtain ⟨L_156, hs_157⟩ : ∃ L9, L9 = L_124 ++ [q_146] := ⟨_, rfl⟩
  rw [← hs_157] at hx_152 hW_153 m_154 ⊢
  have ni_158 := EXT.nin x_144 e_137.1 hq_148
  refine v_widen (k := 12) (n := 873) (Nat.le_of_ble_eq_true rfl) (Nat.le_of_ble_eq_true rfl) ?_
  have k_159 := k_132.mo (.inl rfl) hx_152.xt
  have k_160 := k_133.mo (.inl rfl) hx_152.xt
  have k_161 := k_134.mo (.inl rfl) hx_152.xt
  have k_162 := k_130.mo (.inl rfl) hx_152.xt
  have t_163 := (hx_152 h e_137.1).2.1.trans t_135
  have t_164 := (hx_152 q_53 e_138.1).2.1.trans t_136
  have e_165 := hx_152.at e_137.1 hf_141
  have e_166 := hx_152.at e_138.1 e_145
  have x_167 := EXT.al x_144 hx_152
  refine v_putF hC (by rw [hnm]; rfl) fl_X0_44 e_165.1 e_165.2 rfl rfl (Nat.le_of_ble_eq_true rfl) (fs' := [.ref q_1, .ref q_30, .ref q_53, .ref q_77, .ref q_111, .ref q_146]) rfl dX0_init_58 (fun f_168 hf_169 hk_170 => ?_)
  have e_173 := (hk_170 q_53 (ne_kd e_166.2 e_165.2 rfl)).trans e_166.2
  have e_174 := (hk_170 q_146 (ne_kd hf_149 e_165.2 rfl)).trans hf_149
  have hW_171 := hW_153.up hf_169 hk_170 t_163 True.intro
  have x_172 := EXT.put x_167 hk_170
  refine v_iconst hC dX0_init_61 (v := 0) (by decide) ?_
  refine v_istore_n hC dX0_init_62 (by decide) (lv' := [(1, .int 0), (0, .ref h)]) rfl ?_
  refine v_iload_n hC dX0_init_63 rfl ?_
  refine v_bipush hC dX0_init_64 (v := 6) (by decide) ?_
  refine v_icmp_ge_f hC dX0_init_66 (tgt := 88) (by decide) (by decide) ?_
  refine v_aload_n hC dX0_init_69 rfl ?_
  refine v_get hC fl_X0_24 e_165.1 hf_169 rfl dX0_init_70 ?_
  refine v_iload_n hC dX0_init_73 rfl ?_
  refine v_new hC (ci := 10) (fs := [.int 0, .int 0, .int 0, .int 0, .int 0, .int 0, .int 0]) rfl inX10 tyX10_ok kl_X0_22 in_X10 ii_X10 (fun j hj => by rcases (show j = 0 ∨ j = 1 ∨ j = 2 ∨ j = 3 ∨ j = 4 ∨ j = 5 ∨ j = 6 by omega) with rfl | rfl | rfl | rfl | rfl | rfl | rfl <;> rfl) (Nat.le_of_ble_eq_true rfl) (Nat.le_of_ble_eq_true rfl) dX0_init_74 (fun q_175 f_176 hq_177 hf_178 hk_179 => ?_)
  obtain ⟨T_180, hx_181, hW_182, m_183, t_184⟩ := nw_t FREE hW_171 hq_177 hf_178 hk_179 True.intro
  obtain ⟨L_185, hs_186⟩ : ∃ L9, L9 = L_156 ++ [q_175] := ⟨_, rfl⟩
  rw [← hs_186] at hx_181 hW_182 m_183 ⊢
  have ni_187 := EXT.nin x_172 e_165.1 hq_177
  refine v_widen (k := 13) (n := 880) (Nat.le_of_ble_eq_true rfl) (Nat.le_of_ble_eq_true rfl) ?_
  refine v_dup hC dX0_init_77 rfl ?_
  refine v_xvN hC (rest := [.ref q_175, .int 0, .ref q_53]) rfl mi_X10_init (kt_X10 hW_182 m_183 t_184 hf_178) mx_X10_init mn_X0_48 (by decide) rfl (cells1 := 13) (slots1 := 880) (by decide) (by decide) (Nat.le_of_ble_eq_true rfl) (Nat.le_of_ble_eq_true rfl) rfl (Nat.le_of_ble_eq_true rfl) dX0_init_78 (fun L_188 f_189 h_190 => ?_)
  obtain ⟨T_191, hy_192, hW_193, k_194⟩ := h_190
  have hx_195 := EX.ct hx_181 hq_177 hy_192
  have k_196 := k_159.mo (.inl rfl) hx_195.xt
  have k_197 := k_160.mo (.inl rfl) hx_195.xt
  have k_198 := k_161.mo (.inl rfl) hx_195.xt
  have k_199 := k_162.mo (.inl rfl) hx_195.xt
  have t_200 := (hx_195 h e_165.1).2.1.trans t_163
  have t_201 := (hx_195 q_53 e_166.1).2.1.trans t_164
  have t_202 := (hx_195 q_146 m_154).2.1.trans t_155
  have e_203 := hx_195.at e_165.1 hf_169
  have e_204 := hx_195.at e_166.1 e_173
  have e_205 := hx_195.at m_154 e_174
  have x_206 := EXT.al x_172 hx_195
  obtain ⟨m_207, t_208⟩ := id k_194
  obtain ⟨v_210, v_211, v_212, v_213, v_214, v_215, v_216, e_209, -, -, -, -, -⟩ := hW_193.at m_207 t_208
  refine v_aast hC (r := (RX10, TX10, 7)) e_204.1 e_204.2 (t := 7) rfl m_207 e_209 rfl (by unfold vp_in; decide) dX0_init_81 (fun f_217 hf_218 hk_219 => ?_)
  have hf_218 : f_217 q_53 = aR E 7 6 (va_up (fun _ => none) 0 (some q_175)) := hf_218
  have e_222 := (hk_219 h (ne_kd e_203.2 e_204.2 rfl)).trans e_203.2
  have e_223 := (hk_219 q_146 (ne_kd e_205.2 e_204.2 rfl)).trans e_205.2
  have hW_220 := hW_193.up hf_218 hk_219 t_201 True.intro
  have x_221 := EXT.put2 x_206 ni_65 hk_219
  refine v_iinc hC dX0_init_82 (k := 0) rfl (v := 1) (by decide) (by decide) (lv' := [(1, .int 1), (0, .ref h)]) rfl ?_
  refine v_goto hC dX0_init_85 (tgt := 63) (by decide) ?_
  refine v_iload_n hC dX0_init_63 rfl ?_
  refine v_bipush hC dX0_init_64 (v := 6) (by decide) ?_
  refine v_icmp_ge_f hC dX0_init_66 (tgt := 88) (by decide) (by decide) ?_
  refine v_aload_n hC dX0_init_69 rfl ?_
  refine v_get hC fl_X0_24 e_203.1 e_222 rfl dX0_init_70 ?_
  refine v_iload_n hC dX0_init_73 rfl ?_
  refine v_new hC (ci := 10) (fs := [.int 0, .int 0, .int 0, .int 0, .int 0, .int 0, .int 0]) rfl inX10 tyX10_ok kl_X0_22 in_X10 ii_X10 (fun j hj => by rcases (show j = 0 ∨ j = 1 ∨ j = 2 ∨ j = 3 ∨ j = 4 ∨ j = 5 ∨ j = 6 by omega) with rfl | rfl | rfl | rfl | rfl | rfl | rfl <;> rfl) (Nat.le_of_ble_eq_true rfl) (Nat.le_of_ble_eq_true rfl) dX0_init_74 (fun q_224 f_225 hq_226 hf_227 hk_228 => ?_)
  obtain ⟨T_229, hx_230, hW_231, m_232, t_233⟩ := nw_t FREE hW_220 hq_226 hf_227 hk_228 True.intro
  obtain ⟨L_234, hs_235⟩ : ∃ L9, L9 = L_188 ++ [q_224] := ⟨_, rfl⟩
  rw [← hs_235] at hx_230 hW_231 m_232 ⊢
  have ni_236 := EXT.nin x_221 e_203.1 hq_226
  refine v_widen (k := 14) (n := 887) (Nat.le_of_ble_eq_true rfl) (Nat.le_of_ble_eq_true rfl) ?_
  refine v_dup hC dX0_init_77 rfl ?_
  refine v_xvN hC (rest := [.ref q_224, .int 1, .ref q_53]) rfl mi_X10_init (kt_X10 hW_231 m_232 t_233 hf_227) mx_X10_init mn_X0_48 (by decide) rfl (cells1 := 14) (slots1 := 887) (by decide) (by decide) (Nat.le_of_ble_eq_true rfl) (Nat.le_of_ble_eq_true rfl) rfl (Nat.le_of_ble_eq_true rfl) dX0_init_78 (fun L_237 f_238 h_239 => ?_)
  obtain ⟨T_240, hy_241, hW_242, k_243⟩ := h_239
  have hx_244 := EX.ct hx_230 hq_226 hy_241
  have k_245 := k_196.mo (.inl rfl) hx_244.xt
  have k_246 := k_197.mo (.inl rfl) hx_244.xt
  have k_247 := k_198.mo (.inl rfl) hx_244.xt
  have k_248 := k_199.mo (.inl rfl) hx_244.xt
  have k_249 := k_194.mo (.inl rfl) hx_244.xt
  have t_250 := (hx_244 h e_203.1).2.1.trans t_200
  have t_251 := (hx_244 q_53 e_204.1).2.1.trans t_201
  have t_252 := (hx_244 q_146 e_205.1).2.1.trans t_202
  have e_253 := hx_244.at e_203.1 e_222
  have e_254 := hx_244.at e_204.1 hf_218
  have e_255 := hx_244.at e_205.1 e_223
  have x_256 := EXT.al x_221 hx_244
  obtain ⟨m_257, t_258⟩ := id k_243
  obtain ⟨v_260, v_261, v_262, v_263, v_264, v_265, v_266, e_259, -, -, -, -, -⟩ := hW_242.at m_257 t_258
  refine v_aast hC (r := (RX10, TX10, 7)) e_254.1 e_254.2 (t := 7) rfl m_257 e_259 rfl (by unfold vp_in; decide) dX0_init_81 (fun f_267 hf_268 hk_269 => ?_)
  have hf_268 : f_267 q_53 = aR E 7 6 (va_up (va_up (fun _ => none) 0 (some q_175)) 1 (some q_224)) := hf_268
  have e_272 := (hk_269 h (ne_kd e_253.2 e_254.2 rfl)).trans e_253.2
  have e_273 := (hk_269 q_146 (ne_kd e_255.2 e_254.2 rfl)).trans e_255.2
  have hW_270 := hW_242.up hf_268 hk_269 t_251 True.intro
  have x_271 := EXT.put2 x_256 ni_65 hk_269
  refine v_iinc hC dX0_init_82 (k := 0) rfl (v := 2) (by decide) (by decide) (lv' := [(1, .int 2), (0, .ref h)]) rfl ?_
  refine v_goto hC dX0_init_85 (tgt := 63) (by decide) ?_
  refine v_iload_n hC dX0_init_63 rfl ?_
  refine v_bipush hC dX0_init_64 (v := 6) (by decide) ?_
  refine v_icmp_ge_f hC dX0_init_66 (tgt := 88) (by decide) (by decide) ?_
  refine v_aload_n hC dX0_init_69 rfl ?_
  refine v_get hC fl_X0_24 e_253.1 e_272 rfl dX0_init_70 ?_
  refine v_iload_n hC dX0_init_73 rfl ?_
  refine v_new hC (ci := 10) (fs := [.int 0, .int 0, .int 0, .int 0, .int 0, .int 0, .int 0]) rfl inX10 tyX10_ok kl_X0_22 in_X10 ii_X10 (fun j hj => by rcases (show j = 0 ∨ j = 1 ∨ j = 2 ∨ j = 3 ∨ j = 4 ∨ j = 5 ∨ j = 6 by omega) with rfl | rfl | rfl | rfl | rfl | rfl | rfl <;> rfl) (Nat.le_of_ble_eq_true rfl) (Nat.le_of_ble_eq_true rfl) dX0_init_74 (fun q_274 f_275 hq_276 hf_277 hk_278 => ?_)
  obtain ⟨T_279, hx_280, hW_281, m_282, t_283⟩ := nw_t FREE hW_270 hq_276 hf_277 hk_278 True.intro
  obtain ⟨L_284, hs_285⟩ : ∃ L9, L9 = L_237 ++ [q_274] := ⟨_, rfl⟩
  rw [← hs_285] at hx_280 hW_281 m_282 ⊢
  have ni_286 := EXT.nin x_271 e_253.1 hq_276
  refine v_widen (k := 15) (n := 894) (Nat.le_of_ble_eq_true rfl) (Nat.le_of_ble_eq_true rfl) ?_
  refine v_dup hC dX0_init_77 rfl ?_
  refine v_xvN hC (rest := [.ref q_274, .int 2, .ref q_53]) rfl mi_X10_init (kt_X10 hW_281 m_282 t_283 hf_277) mx_X10_init mn_X0_48 (by decide) rfl (cells1 := 15) (slots1 := 894) (by decide) (by decide) (Nat.le_of_ble_eq_true rfl) (Nat.le_of_ble_eq_true rfl) rfl (Nat.le_of_ble_eq_true rfl) dX0_init_78 (fun L_287 f_288 h_289 => ?_)
  obtain ⟨T_290, hy_291, hW_292, k_293⟩ := h_289
  have hx_294 := EX.ct hx_280 hq_276 hy_291
  have k_295 := k_245.mo (.inl rfl) hx_294.xt
  have k_296 := k_246.mo (.inl rfl) hx_294.xt
  have k_297 := k_247.mo (.inl rfl) hx_294.xt
  have k_298 := k_248.mo (.inl rfl) hx_294.xt
  have k_299 := k_249.mo (.inl rfl) hx_294.xt
  have k_300 := k_243.mo (.inl rfl) hx_294.xt
  have t_301 := (hx_294 h e_253.1).2.1.trans t_250
  have t_302 := (hx_294 q_53 e_254.1).2.1.trans t_251
  have t_303 := (hx_294 q_146 e_255.1).2.1.trans t_252
  have e_304 := hx_294.at e_253.1 e_272
  have e_305 := hx_294.at e_254.1 hf_268
  have e_306 := hx_294.at e_255.1 e_273
  have x_307 := EXT.al x_271 hx_294
  obtain ⟨m_308, t_309⟩ := id k_293
  obtain ⟨v_311, v_312, v_313, v_314, v_315, v_316, v_317, e_310, -, -, -, -, -⟩ := hW_292.at m_308 t_309
  refine v_aast hC (r := (RX10, TX10, 7)) e_305.1 e_305.2 (t := 7) rfl m_308 e_310 rfl (by unfold vp_in; decide) dX0_init_81 (fun f_318 hf_319 hk_320 => ?_)
  have hf_319 : f_318 q_53 = aR E 7 6 (va_up (va_up (va_up (fun _ => none) 0 (some q_175)) 1 (some q_224)) 2 (some q_274)) := hf_319
  have e_323 := (hk_320 h (ne_kd e_304.2 e_305.2 rfl)).trans e_304.2
  have e_324 := (hk_320 q_146 (ne_kd e_306.2 e_305.2 rfl)).trans e_306.2
  have hW_321 := hW_292.up hf_319 hk_320 t_302 True.intro
  have x_322 := EXT.put2 x_307 ni_65 hk_320
  refine v_iinc hC dX0_init_82 (k := 0) rfl (v := 3) (by decide) (by decide) (lv' := [(1, .int 3), (0, .ref h)]) rfl ?_
  refine v_goto hC dX0_init_85 (tgt := 63) (by decide) ?_
  refine v_iload_n hC dX0_init_63 rfl ?_
  refine v_bipush hC dX0_init_64 (v := 6) (by decide) ?_
  refine v_icmp_ge_f hC dX0_init_66 (tgt := 88) (by decide) (by decide) ?_
  refine v_aload_n hC dX0_init_69 rfl ?_
  refine v_get hC fl_X0_24 e_304.1 e_323 rfl dX0_init_70 ?_
  refine v_iload_n hC dX0_init_73 rfl ?_
  refine v_new hC (ci := 10) (fs := [.int 0, .int 0, .int 0, .int 0, .int 0, .int 0, .int 0]) rfl inX10 tyX10_ok kl_X0_22 in_X10 ii_X10 (fun j hj => by rcases (show j = 0 ∨ j = 1 ∨ j = 2 ∨ j = 3 ∨ j = 4 ∨ j = 5 ∨ j = 6 by omega) with rfl | rfl | rfl | rfl | rfl | rfl | rfl <;> rfl) (Nat.le_of_ble_eq_true rfl) (Nat.le_of_ble_eq_true rfl) dX0_init_74 (fun q_325 f_326 hq_327 hf_328 hk_329 => ?_)
  obtain ⟨T_330, hx_331, hW_332, m_333, t_334⟩ := nw_t FREE hW_321 hq_327 hf_328 hk_329 True.intro
  obtain ⟨L_335, hs_336⟩ : ∃ L9, L9 = L_287 ++ [q_325] := ⟨_, rfl⟩
  rw [← hs_336] at hx_331 hW_332 m_333 ⊢
  have ni_337 := EXT.nin x_322 e_304.1 hq_327
  refine v_widen (k := 16) (n := 901) (Nat.le_of_ble_eq_true rfl) (Nat.le_of_ble_eq_true rfl) ?_
  refine v_dup hC dX0_init_77 rfl ?_
  refine v_xvN hC (rest := [.ref q_325, .int 3, .ref q_53]) rfl mi_X10_init (kt_X10 hW_332 m_333 t_334 hf_328) mx_X10_init mn_X0_48 (by decide) rfl (cells1 := 16) (slots1 := 901) (by decide) (by decide) (Nat.le_of_ble_eq_true rfl) (Nat.le_of_ble_eq_true rfl) rfl (Nat.le_of_ble_eq_true rfl) dX0_init_78 (fun L_338 f_339 h_340 => ?_)
  obtain ⟨T_341, hy_342, hW_343, k_344⟩ := h_340
  have hx_345 := EX.ct hx_331 hq_327 hy_342
  have k_346 := k_295.mo (.inl rfl) hx_345.xt
  have k_347 := k_296.mo (.inl rfl) hx_345.xt
  have k_348 := k_297.mo (.inl rfl) hx_345.xt
  have k_349 := k_298.mo (.inl rfl) hx_345.xt
  have k_350 := k_299.mo (.inl rfl) hx_345.xt
  have k_351 := k_300.mo (.inl rfl) hx_345.xt
  have k_352 := k_293.mo (.inl rfl) hx_345.xt
  have t_353 := (hx_345 h e_304.1).2.1.trans t_301
  have t_354 := (hx_345 q_53 e_305.1).2.1.trans t_302
  have t_355 := (hx_345 q_146 e_306.1).2.1.trans t_303
  have e_356 := hx_345.at e_304.1 e_323
  have e_357 := hx_345.at e_305.1 hf_319
  have e_358 := hx_345.at e_306.1 e_324
  have x_359 := EXT.al x_322 hx_345
  obtain ⟨m_360, t_361⟩ := id k_344
  obtain ⟨v_363, v_364, v_365, v_366, v_367, v_368, v_369, e_362, -, -, -, -, -⟩ := hW_343.at m_360 t_361
  refine v_aast hC (r := (RX10, TX10, 7)) e_357.1 e_357.2 (t := 7) rfl m_360 e_362 rfl (by unfold vp_in; decide) dX0_init_81 (fun f_370 hf_371 hk_372 => ?_)
  have hf_371 : f_370 q_53 = aR E 7 6 (va_up (va_up (va_up (va_up (fun _ => none) 0 (some q_175)) 1 (some q_224)) 2 (some q_274)) 3 (some q_325)) := hf_371
  have e_375 := (hk_372 h (ne_kd e_356.2 e_357.2 rfl)).trans e_356.2
  have e_376 := (hk_372 q_146 (ne_kd e_358.2 e_357.2 rfl)).trans e_358.2
  have hW_373 := hW_343.up hf_371 hk_372 t_354 True.intro
  have x_374 := EXT.put2 x_359 ni_65 hk_372
  refine v_iinc hC dX0_init_82 (k := 0) rfl (v := 4) (by decide) (by decide) (lv' := [(1, .int 4), (0, .ref h)]) rfl ?_
  refine v_goto hC dX0_init_85 (tgt := 63) (by decide) ?_
  refine v_iload_n hC dX0_init_63 rfl ?_
  refine v_bipush hC dX0_init_64 (v := 6) (by decide) ?_
  refine v_icmp_ge_f hC dX0_init_66 (tgt := 88) (by decide) (by decide) ?_
  refine v_aload_n hC dX0_init_69 rfl ?_
  refine v_get hC fl_X0_24 e_356.1 e_375 rfl dX0_init_70 ?_
  refine v_iload_n hC dX0_init_73 rfl ?_
  refine v_new hC (ci := 10) (fs := [.int 0, .int 0, .int 0, .int 0, .int 0, .int 0, .int 0]) rfl inX10 tyX10_ok kl_X0_22 in_X10 ii_X10 (fun j hj => by rcases (show j = 0 ∨ j = 1 ∨ j = 2 ∨ j = 3 ∨ j = 4 ∨ j = 5 ∨ j = 6 by omega) with rfl | rfl | rfl | rfl | rfl | rfl | rfl <;> rfl) (Nat.le_of_ble_eq_true rfl) (Nat.le_of_ble_eq_true rfl) dX0_init_74 (fun q_377 f_378 hq_379 hf_380 hk_381 => ?_)
  obtain ⟨T_382, hx_383, hW_384, m_385, t_386⟩ := nw_t FREE hW_373 hq_379 hf_380 hk_381 True.intro
  obtain ⟨L_387, hs_388⟩ : ∃ L9, L9 = L_338 ++ [q_377] := ⟨_, rfl⟩
  rw [← hs_388] at hx_383 hW_384 m_385 ⊢
  have ni_389 := EXT.nin x_374 e_356.1 hq_379
  refine v_widen (k := 17) (n := 908) (Nat.le_of_ble_eq_true rfl) (Nat.le_of_ble_eq_true rfl) ?_
  refine v_dup hC dX0_init_77 rfl ?_
  refine v_xvN hC (rest := [.ref q_377, .int 4, .ref q_53]) rfl mi_X10_init (kt_X10 hW_384 m_385 t_386 hf_380) mx_X10_init mn_X0_48 (by decide) rfl (cells1 := 17) (slots1 := 908) (by decide) (by decide) (Nat.le_of_ble_eq_true rfl) (Nat.le_of_ble_eq_true rfl) rfl (Nat.le_of_ble_eq_true rfl) dX0_init_78 (fun L_390 f_391 h_392 => ?_)
  obtain ⟨T_393, hy_394, hW_395, k_396⟩ := h_392
  have hx_397 := EX.ct hx_383 hq_379 hy_394
  have k_398 := k_346.mo (.inl rfl) hx_397.xt
  have k_399 := k_347.mo (.inl rfl) hx_397.xt
  have k_400 := k_348.mo (.inl rfl) hx_397.xt
  have k_401 := k_349.mo (.inl rfl) hx_397.xt
  have k_402 := k_350.mo (.inl rfl) hx_397.xt
  have k_403 := k_351.mo (.inl rfl) hx_397.xt
  have k_404 := k_352.mo (.inl rfl) hx_397.xt
  have k_405 := k_344.mo (.inl rfl) hx_397.xt
  have t_406 := (hx_397 h e_356.1).2.1.trans t_353
  have t_407 := (hx_397 q_53 e_357.1).2.1.trans t_354
  have t_408 := (hx_397 q_146 e_358.1).2.1.trans t_355
  have e_409 := hx_397.at e_356.1 e_375
  have e_410 := hx_397.at e_357.1 hf_371
  have e_411 := hx_397.at e_358.1 e_376
  have x_412 := EXT.al x_374 hx_397
  obtain ⟨m_413, t_414⟩ := id k_396
  obtain ⟨v_416, v_417, v_418, v_419, v_420, v_421, v_422, e_415, -, -, -, -, -⟩ := hW_395.at m_413 t_414
  refine v_aast hC (r := (RX10, TX10, 7)) e_410.1 e_410.2 (t := 7) rfl m_413 e_415 rfl (by unfold vp_in; decide) dX0_init_81 (fun f_423 hf_424 hk_425 => ?_)
  have hf_424 : f_423 q_53 = aR E 7 6 (va_up (va_up (va_up (va_up (va_up (fun _ => none) 0 (some q_175)) 1 (some q_224)) 2 (some q_274)) 3 (some q_325)) 4 (some q_377)) := hf_424
  have e_428 := (hk_425 h (ne_kd e_409.2 e_410.2 rfl)).trans e_409.2
  have e_429 := (hk_425 q_146 (ne_kd e_411.2 e_410.2 rfl)).trans e_411.2
  have hW_426 := hW_395.up hf_424 hk_425 t_407 True.intro
  have x_427 := EXT.put2 x_412 ni_65 hk_425
  refine v_iinc hC dX0_init_82 (k := 0) rfl (v := 5) (by decide) (by decide) (lv' := [(1, .int 5), (0, .ref h)]) rfl ?_
  refine v_goto hC dX0_init_85 (tgt := 63) (by decide) ?_
  refine v_iload_n hC dX0_init_63 rfl ?_
  refine v_bipush hC dX0_init_64 (v := 6) (by decide) ?_
  refine v_icmp_ge_f hC dX0_init_66 (tgt := 88) (by decide) (by decide) ?_
  refine v_aload_n hC dX0_init_69 rfl ?_
  refine v_get hC fl_X0_24 e_409.1 e_428 rfl dX0_init_70 ?_
  refine v_iload_n hC dX0_init_73 rfl ?_
  refine v_new hC (ci := 10) (fs := [.int 0, .int 0, .int 0, .int 0, .int 0, .int 0, .int 0]) rfl inX10 tyX10_ok kl_X0_22 in_X10 ii_X10 (fun j hj => by rcases (show j = 0 ∨ j = 1 ∨ j = 2 ∨ j = 3 ∨ j = 4 ∨ j = 5 ∨ j = 6 by omega) with rfl | rfl | rfl | rfl | rfl | rfl | rfl <;> rfl) (Nat.le_of_ble_eq_true rfl) (Nat.le_of_ble_eq_true rfl) dX0_init_74 (fun q_430 f_431 hq_432 hf_433 hk_434 => ?_)
  obtain ⟨T_435, hx_436, hW_437, m_438, t_439⟩ := nw_t FREE hW_426 hq_432 hf_433 hk_434 True.intro
  obtain ⟨L_440, hs_441⟩ : ∃ L9, L9 = L_390 ++ [q_430] := ⟨_, rfl⟩
  rw [← hs_441] at hx_436 hW_437 m_438 ⊢
  have ni_442 := EXT.nin x_427 e_409.1 hq_432
  refine v_widen (k := 18) (n := 915) (Nat.le_of_ble_eq_true rfl) (Nat.le_of_ble_eq_true rfl) ?_
  refine v_dup hC dX0_init_77 rfl ?_
  refine v_xvN hC (rest := [.ref q_430, .int 5, .ref q_53]) rfl mi_X10_init (kt_X10 hW_437 m_438 t_439 hf_433) mx_X10_init mn_X0_48 (by decide) rfl (cells1 := 18) (slots1 := 915) (by decide) (by decide) (Nat.le_of_ble_eq_true rfl) (Nat.le_of_ble_eq_true rfl) rfl (Nat.le_of_ble_eq_true rfl) dX0_init_78 (fun L_443 f_444 h_445 => ?_)
  obtain ⟨T_446, hy_447, hW_448, k_449⟩ := h_445
  have hx_450 := EX.ct hx_436 hq_432 hy_447
  have k_451 := k_398.mo (.inl rfl) hx_450.xt
  have k_452 := k_399.mo (.inl rfl) hx_450.xt
  have k_453 := k_400.mo (.inl rfl) hx_450.xt
  have k_454 := k_401.mo (.inl rfl) hx_450.xt
  have k_455 := k_402.mo (.inl rfl) hx_450.xt
  have k_456 := k_403.mo (.inl rfl) hx_450.xt
  have k_457 := k_404.mo (.inl rfl) hx_450.xt
  have k_458 := k_405.mo (.inl rfl) hx_450.xt
  have k_459 := k_396.mo (.inl rfl) hx_450.xt
  have t_460 := (hx_450 h e_409.1).2.1.trans t_406
  have t_461 := (hx_450 q_53 e_410.1).2.1.trans t_407
  have t_462 := (hx_450 q_146 e_411.1).2.1.trans t_408
  have e_463 := hx_450.at e_409.1 e_428
  have e_464 := hx_450.at e_410.1 hf_424
  have e_465 := hx_450.at e_411.1 e_429
  have x_466 := EXT.al x_427 hx_450
  obtain ⟨m_467, t_468⟩ := id k_449
  obtain ⟨v_470, v_471, v_472, v_473, v_474, v_475, v_476, e_469, -, -, -, -, -⟩ := hW_448.at m_467 t_468
  refine v_aast hC (r := (RX10, TX10, 7)) e_464.1 e_464.2 (t := 7) rfl m_467 e_469 rfl (by unfold vp_in; decide) dX0_init_81 (fun f_477 hf_478 hk_479 => ?_)
  have hf_478 : f_477 q_53 = aR E 7 6 (va_up (va_up (va_up (va_up (va_up (va_up (fun _ => none) 0 (some q_175)) 1 (some q_224)) 2 (some q_274)) 3 (some q_325)) 4 (some q_377)) 5 (some q_430)) := hf_478
  have e_482 := (hk_479 h (ne_kd e_463.2 e_464.2 rfl)).trans e_463.2
  have e_483 := (hk_479 q_146 (ne_kd e_465.2 e_464.2 rfl)).trans e_465.2
  have hW_480 := hW_448.up hf_478 hk_479 t_461 True.intro
  have x_481 := EXT.put2 x_466 ni_65 hk_479
  refine v_iinc hC dX0_init_82 (k := 0) rfl (v := 6) (by decide) (by decide) (lv' := [(1, .int 6), (0, .ref h)]) rfl ?_
  refine v_goto hC dX0_init_85 (tgt := 63) (by decide) ?_
  refine v_iload_n hC dX0_init_63 rfl ?_
  refine v_bipush hC dX0_init_64 (v := 6) (by decide) ?_
  refine v_icmp_ge_t hC dX0_init_66 (tgt := 88) (by decide) (by decide) ?_
  refine v_iconst hC dX0_init_88 (v := 0) (by decide) ?_
  refine v_istore_n hC dX0_init_89 (by decide) (lv' := [(1, .int 0), (0, .ref h)]) rfl ?_
  refine v_iload_n hC dX0_init_90 rfl ?_
  refine v_iconst hC dX0_init_91 (v := 4) (by decide) ?_
  refine v_icmp_ge_f hC dX0_init_92 (tgt := 114) (by decide) (by decide) ?_
  refine v_aload_n hC dX0_init_95 rfl ?_
  refine v_get hC fl_X0_44 e_463.1 e_482 rfl dX0_init_96 ?_
  refine v_iload_n hC dX0_init_99 rfl ?_
  refine v_new hC (ci := 1) (fs := [.null, .int 0]) rfl inX1 tyX1_ok kl_X0_42 in_X1 ii_X1 (fun j hj => by rcases (show j = 0 ∨ j = 1 by omega) with rfl | rfl <;> rfl) (Nat.le_of_ble_eq_true rfl) (Nat.le_of_ble_eq_true rfl) dX0_init_100 (fun q_484 f_485 hq_486 hf_487 hk_488 => ?_)
  obtain ⟨T_489, hx_490, hW_491, m_492, t_493⟩ := nw_t FREE hW_480 hq_486 hf_487 hk_488 True.intro
  obtain ⟨L_494, hs_495⟩ : ∃ L9, L9 = L_443 ++ [q_484] := ⟨_, rfl⟩
  rw [← hs_495] at hx_490 hW_491 m_492 ⊢
  have ni_496 := EXT.nin x_481 e_463.1 hq_486
  refine v_widen (k := 19) (n := 917) (Nat.le_of_ble_eq_true rfl) (Nat.le_of_ble_eq_true rfl) ?_
  refine v_dup hC dX0_init_103 rfl ?_
  refine v_xvN hC (rest := [.ref q_484, .int 0, .ref q_146]) rfl mi_X1_init (kt_X1 hW_491 m_492 t_493 hf_487) mx_X1_init mn_X0_49 (by decide) rfl (cells1 := 20) (slots1 := 1173) (by decide) (by decide) (Nat.le_of_ble_eq_true rfl) (Nat.le_of_ble_eq_true rfl) rfl (Nat.le_of_ble_eq_true rfl) dX0_init_104 (fun L_497 f_498 h_499 => ?_)
  obtain ⟨T_500, hy_501, hW_502, k_503⟩ := h_499
  have hx_504 := EX.ct hx_490 hq_486 hy_501
  have k_505 := k_451.mo (.inl rfl) hx_504.xt
  have k_506 := k_452.mo (.inl rfl) hx_504.xt
  have k_507 := k_453.mo (.inl rfl) hx_504.xt
  have k_508 := k_454.mo (.inl rfl) hx_504.xt
  have k_509 := k_455.mo (.inl rfl) hx_504.xt
  have k_510 := k_456.mo (.inl rfl) hx_504.xt
  have k_511 := k_457.mo (.inl rfl) hx_504.xt
  have k_512 := k_458.mo (.inl rfl) hx_504.xt
  have k_513 := k_459.mo (.inl rfl) hx_504.xt
  have k_514 := k_449.mo (.inl rfl) hx_504.xt
  have t_515 := (hx_504 h e_463.1).2.1.trans t_460
  have t_516 := (hx_504 q_53 e_464.1).2.1.trans t_461
  have t_517 := (hx_504 q_146 e_465.1).2.1.trans t_462
  have e_518 := hx_504.at e_463.1 e_482
  have e_519 := hx_504.at e_464.1 hf_478
  have e_520 := hx_504.at e_465.1 e_483
  have x_521 := EXT.al x_481 hx_504
  obtain ⟨m_522, q_525, t_523, -⟩ := id k_503
  obtain ⟨v_526, e_524, -⟩ := hW_502.at m_522 t_523
  refine v_aast hC (r := (RX1, TX1, 2)) e_520.1 e_520.2 (t := 5) rfl m_522 e_524 rfl (by unfold vp_in; decide) dX0_init_107 (fun f_527 hf_528 hk_529 => ?_)
  have hf_528 : f_527 q_146 = aR E 5 4 (va_up (fun _ => none) 0 (some q_484)) := hf_528
  have e_532 := (hk_529 h (ne_kd e_518.2 e_520.2 rfl)).trans e_518.2
  have e_533 := (hk_529 q_53 (ne_kd e_519.2 e_520.2 rfl)).trans e_519.2
  have hW_530 := hW_502.up hf_528 hk_529 t_517 True.intro
  have x_531 := EXT.put2 x_521 ni_158 hk_529
  refine v_iinc hC dX0_init_108 (k := 0) rfl (v := 1) (by decide) (by decide) (lv' := [(1, .int 1), (0, .ref h)]) rfl ?_
  refine v_goto hC dX0_init_111 (tgt := 90) (by decide) ?_
  refine v_iload_n hC dX0_init_90 rfl ?_
  refine v_iconst hC dX0_init_91 (v := 4) (by decide) ?_
  refine v_icmp_ge_f hC dX0_init_92 (tgt := 114) (by decide) (by decide) ?_
  refine v_aload_n hC dX0_init_95 rfl ?_
  refine v_get hC fl_X0_44 e_518.1 e_532 rfl dX0_init_96 ?_
  refine v_iload_n hC dX0_init_99 rfl ?_
  refine v_new hC (ci := 1) (fs := [.null, .int 0]) rfl inX1 tyX1_ok kl_X0_42 in_X1 ii_X1 (fun j hj => by rcases (show j = 0 ∨ j = 1 by omega) with rfl | rfl <;> rfl) (Nat.le_of_ble_eq_true rfl) (Nat.le_of_ble_eq_true rfl) dX0_init_100 (fun q_534 f_535 hq_536 hf_537 hk_538 => ?_)
  obtain ⟨T_539, hx_540, hW_541, m_542, t_543⟩ := nw_t FREE hW_530 hq_536 hf_537 hk_538 True.intro
  obtain ⟨L_544, hs_545⟩ : ∃ L9, L9 = L_497 ++ [q_534] := ⟨_, rfl⟩
  rw [← hs_545] at hx_540 hW_541 m_542 ⊢
  have ni_546 := EXT.nin x_531 e_518.1 hq_536
  refine v_widen (k := 21) (n := 1175) (Nat.le_of_ble_eq_true rfl) (Nat.le_of_ble_eq_true rfl) ?_
  refine v_dup hC dX0_init_103 rfl ?_
  refine v_xvN hC (rest := [.ref q_534, .int 1, .ref q_146]) rfl mi_X1_init (kt_X1 hW_541 m_542 t_543 hf_537) mx_X1_init mn_X0_49 (by decide) rfl (cells1 := 22) (slots1 := 1431) (by decide) (by decide) (Nat.le_of_ble_eq_true rfl) (Nat.le_of_ble_eq_true rfl) rfl (Nat.le_of_ble_eq_true rfl) dX0_init_104 (fun L_547 f_548 h_549 => ?_)
  obtain ⟨T_550, hy_551, hW_552, k_553⟩ := h_549
  have hx_554 := EX.ct hx_540 hq_536 hy_551
  have k_555 := k_505.mo (.inl rfl) hx_554.xt
  have k_556 := k_506.mo (.inl rfl) hx_554.xt
  have k_557 := k_507.mo (.inl rfl) hx_554.xt
  have k_558 := k_508.mo (.inl rfl) hx_554.xt
  have k_559 := k_509.mo (.inl rfl) hx_554.xt
  have k_560 := k_510.mo (.inl rfl) hx_554.xt
  have k_561 := k_511.mo (.inl rfl) hx_554.xt
  have k_562 := k_512.mo (.inl rfl) hx_554.xt
  have k_563 := k_513.mo (.inl rfl) hx_554.xt
  have k_564 := k_514.mo (.inl rfl) hx_554.xt
  have k_565 := k_503.mo (.inl rfl) hx_554.xt
  have t_566 := (hx_554 h e_518.1).2.1.trans t_515
  have t_567 := (hx_554 q_53 e_519.1).2.1.trans t_516
  have t_568 := (hx_554 q_146 e_520.1).2.1.trans t_517
  have e_569 := hx_554.at e_518.1 e_532
  have e_570 := hx_554.at e_519.1 e_533
  have e_571 := hx_554.at e_520.1 hf_528
  have x_572 := EXT.al x_531 hx_554
  obtain ⟨m_573, q_576, t_574, -⟩ := id k_553
  obtain ⟨v_577, e_575, -⟩ := hW_552.at m_573 t_574
  refine v_aast hC (r := (RX1, TX1, 2)) e_571.1 e_571.2 (t := 5) rfl m_573 e_575 rfl (by unfold vp_in; decide) dX0_init_107 (fun f_578 hf_579 hk_580 => ?_)
  have hf_579 : f_578 q_146 = aR E 5 4 (va_up (va_up (fun _ => none) 0 (some q_484)) 1 (some q_534)) := hf_579
  have e_583 := (hk_580 h (ne_kd e_569.2 e_571.2 rfl)).trans e_569.2
  have e_584 := (hk_580 q_53 (ne_kd e_570.2 e_571.2 rfl)).trans e_570.2
  have hW_581 := hW_552.up hf_579 hk_580 t_568 True.intro
  have x_582 := EXT.put2 x_572 ni_158 hk_580
  refine v_iinc hC dX0_init_108 (k := 0) rfl (v := 2) (by decide) (by decide) (lv' := [(1, .int 2), (0, .ref h)]) rfl ?_
  refine v_goto hC dX0_init_111 (tgt := 90) (by decide) ?_
  refine v_iload_n hC dX0_init_90 rfl ?_
  refine v_iconst hC dX0_init_91 (v := 4) (by decide) ?_
  refine v_icmp_ge_f hC dX0_init_92 (tgt := 114) (by decide) (by decide) ?_
  refine v_aload_n hC dX0_init_95 rfl ?_
  refine v_get hC fl_X0_44 e_569.1 e_583 rfl dX0_init_96 ?_
  refine v_iload_n hC dX0_init_99 rfl ?_
  refine v_new hC (ci := 1) (fs := [.null, .int 0]) rfl inX1 tyX1_ok kl_X0_42 in_X1 ii_X1 (fun j hj => by rcases (show j = 0 ∨ j = 1 by omega) with rfl | rfl <;> rfl) (Nat.le_of_ble_eq_true rfl) (Nat.le_of_ble_eq_true rfl) dX0_init_100 (fun q_585 f_586 hq_587 hf_588 hk_589 => ?_)
  obtain ⟨T_590, hx_591, hW_592, m_593, t_594⟩ := nw_t FREE hW_581 hq_587 hf_588 hk_589 True.intro
  obtain ⟨L_595, hs_596⟩ : ∃ L9, L9 = L_547 ++ [q_585] := ⟨_, rfl⟩
  rw [← hs_596] at hx_591 hW_592 m_593 ⊢
  have ni_597 := EXT.nin x_582 e_569.1 hq_587
  refine v_widen (k := 23) (n := 1433) (Nat.le_of_ble_eq_true rfl) (Nat.le_of_ble_eq_true rfl) ?_
  refine v_dup hC dX0_init_103 rfl ?_
  refine v_xvN hC (rest := [.ref q_585, .int 2, .ref q_146]) rfl mi_X1_init (kt_X1 hW_592 m_593 t_594 hf_588) mx_X1_init mn_X0_49 (by decide) rfl (cells1 := 24) (slots1 := 1689) (by decide) (by decide) (Nat.le_of_ble_eq_true rfl) (Nat.le_of_ble_eq_true rfl) rfl (Nat.le_of_ble_eq_true rfl) dX0_init_104 (fun L_598 f_599 h_600 => ?_)
  obtain ⟨T_601, hy_602, hW_603, k_604⟩ := h_600
  have hx_605 := EX.ct hx_591 hq_587 hy_602
  have k_606 := k_555.mo (.inl rfl) hx_605.xt
  have k_607 := k_556.mo (.inl rfl) hx_605.xt
  have k_608 := k_557.mo (.inl rfl) hx_605.xt
  have k_609 := k_558.mo (.inl rfl) hx_605.xt
  have k_610 := k_559.mo (.inl rfl) hx_605.xt
  have k_611 := k_560.mo (.inl rfl) hx_605.xt
  have k_612 := k_561.mo (.inl rfl) hx_605.xt
  have k_613 := k_562.mo (.inl rfl) hx_605.xt
  have k_614 := k_563.mo (.inl rfl) hx_605.xt
  have k_615 := k_564.mo (.inl rfl) hx_605.xt
  have k_616 := k_565.mo (.inl rfl) hx_605.xt
  have k_617 := k_553.mo (.inl rfl) hx_605.xt
  have t_618 := (hx_605 h e_569.1).2.1.trans t_566
  have t_619 := (hx_605 q_53 e_570.1).2.1.trans t_567
  have t_620 := (hx_605 q_146 e_571.1).2.1.trans t_568
  have e_621 := hx_605.at e_569.1 e_583
  have e_622 := hx_605.at e_570.1 e_584
  have e_623 := hx_605.at e_571.1 hf_579
  have x_624 := EXT.al x_582 hx_605
  obtain ⟨m_625, q_628, t_626, -⟩ := id k_604
  obtain ⟨v_629, e_627, -⟩ := hW_603.at m_625 t_626
  refine v_aast hC (r := (RX1, TX1, 2)) e_623.1 e_623.2 (t := 5) rfl m_625 e_627 rfl (by unfold vp_in; decide) dX0_init_107 (fun f_630 hf_631 hk_632 => ?_)
  have hf_631 : f_630 q_146 = aR E 5 4 (va_up (va_up (va_up (fun _ => none) 0 (some q_484)) 1 (some q_534)) 2 (some q_585)) := hf_631
  have e_635 := (hk_632 h (ne_kd e_621.2 e_623.2 rfl)).trans e_621.2
  have e_636 := (hk_632 q_53 (ne_kd e_622.2 e_623.2 rfl)).trans e_622.2
  have hW_633 := hW_603.up hf_631 hk_632 t_620 True.intro
  have x_634 := EXT.put2 x_624 ni_158 hk_632
  refine v_iinc hC dX0_init_108 (k := 0) rfl (v := 3) (by decide) (by decide) (lv' := [(1, .int 3), (0, .ref h)]) rfl ?_
  refine v_goto hC dX0_init_111 (tgt := 90) (by decide) ?_
  refine v_iload_n hC dX0_init_90 rfl ?_
  refine v_iconst hC dX0_init_91 (v := 4) (by decide) ?_
  refine v_icmp_ge_f hC dX0_init_92 (tgt := 114) (by decide) (by decide) ?_
  refine v_aload_n hC dX0_init_95 rfl ?_
  refine v_get hC fl_X0_44 e_621.1 e_635 rfl dX0_init_96 ?_
  refine v_iload_n hC dX0_init_99 rfl ?_
  refine v_new hC (ci := 1) (fs := [.null, .int 0]) rfl inX1 tyX1_ok kl_X0_42 in_X1 ii_X1 (fun j hj => by rcases (show j = 0 ∨ j = 1 by omega) with rfl | rfl <;> rfl) (Nat.le_of_ble_eq_true rfl) (Nat.le_of_ble_eq_true rfl) dX0_init_100 (fun q_637 f_638 hq_639 hf_640 hk_641 => ?_)
  obtain ⟨T_642, hx_643, hW_644, m_645, t_646⟩ := nw_t FREE hW_633 hq_639 hf_640 hk_641 True.intro
  obtain ⟨L_647, hs_648⟩ : ∃ L9, L9 = L_598 ++ [q_637] := ⟨_, rfl⟩
  rw [← hs_648] at hx_643 hW_644 m_645 ⊢
  have ni_649 := EXT.nin x_634 e_621.1 hq_639
  refine v_widen (k := 25) (n := 1691) (Nat.le_of_ble_eq_true rfl) (Nat.le_of_ble_eq_true rfl) ?_
  refine v_dup hC dX0_init_103 rfl ?_
  refine v_xvN hC (rest := [.ref q_637, .int 3, .ref q_146]) rfl mi_X1_init (kt_X1 hW_644 m_645 t_646 hf_640) mx_X1_init mn_X0_49 (by decide) rfl (cells1 := 26) (slots1 := 1947) (by decide) (by decide) (Nat.le_of_ble_eq_true rfl) (Nat.le_of_ble_eq_true rfl) rfl (Nat.le_of_ble_eq_true rfl) dX0_init_104 (fun L_650 f_651 h_652 => ?_)
  obtain ⟨T_653, hy_654, hW_655, k_656⟩ := h_652
  have hx_657 := EX.ct hx_643 hq_639 hy_654
  have k_658 := k_606.mo (.inl rfl) hx_657.xt
  have k_659 := k_607.mo (.inl rfl) hx_657.xt
  have k_660 := k_608.mo (.inl rfl) hx_657.xt
  have k_661 := k_609.mo (.inl rfl) hx_657.xt
  have k_662 := k_610.mo (.inl rfl) hx_657.xt
  have k_663 := k_611.mo (.inl rfl) hx_657.xt
  have k_664 := k_612.mo (.inl rfl) hx_657.xt
  have k_665 := k_613.mo (.inl rfl) hx_657.xt
  have k_666 := k_614.mo (.inl rfl) hx_657.xt
  have k_667 := k_615.mo (.inl rfl) hx_657.xt
  have k_668 := k_616.mo (.inl rfl) hx_657.xt
  have k_669 := k_617.mo (.inl rfl) hx_657.xt
  have k_670 := k_604.mo (.inl rfl) hx_657.xt
  have t_671 := (hx_657 h e_621.1).2.1.trans t_618
  have t_672 := (hx_657 q_53 e_622.1).2.1.trans t_619
  have t_673 := (hx_657 q_146 e_623.1).2.1.trans t_620
  have e_674 := hx_657.at e_621.1 e_635
  have e_675 := hx_657.at e_622.1 e_636
  have e_676 := hx_657.at e_623.1 hf_631
  have x_677 := EXT.al x_634 hx_657
  obtain ⟨m_678, q_681, t_679, -⟩ := id k_656
  obtain ⟨v_682, e_680, -⟩ := hW_655.at m_678 t_679
  refine v_aast hC (r := (RX1, TX1, 2)) e_676.1 e_676.2 (t := 5) rfl m_678 e_680 rfl (by unfold vp_in; decide) dX0_init_107 (fun f_683 hf_684 hk_685 => ?_)
  have hf_684 : f_683 q_146 = aR E 5 4 (va_up (va_up (va_up (va_up (fun _ => none) 0 (some q_484)) 1 (some q_534)) 2 (some q_585)) 3 (some q_637)) := hf_684
  have e_688 := (hk_685 h (ne_kd e_674.2 e_676.2 rfl)).trans e_674.2
  have e_689 := (hk_685 q_53 (ne_kd e_675.2 e_676.2 rfl)).trans e_675.2
  have hW_686 := hW_655.up hf_684 hk_685 t_673 True.intro
  have x_687 := EXT.put2 x_677 ni_158 hk_685
  refine v_iinc hC dX0_init_108 (k := 0) rfl (v := 4) (by decide) (by decide) (lv' := [(1, .int 4), (0, .ref h)]) rfl ?_
  refine v_goto hC dX0_init_111 (tgt := 90) (by decide) ?_
  refine v_iload_n hC dX0_init_90 rfl ?_
  refine v_iconst hC dX0_init_91 (v := 4) (by decide) ?_
  refine v_icmp_ge_t hC dX0_init_92 (tgt := 114) (by decide) (by decide) ?_
  obtain ⟨T_690, xt_691, hW_692, ta_693, tb_694⟩ := ty_ch (tR E 7 6 (va_up (va_up (va_up (va_up (va_up (va_up (fun _ => none) 0 (some q_175)) 1 (some q_224)) 2 (some q_274)) 3 (some q_325)) 4 (some q_377)) 5 (some q_430))) hW_686 (fr_sh t_672) e_689 rfl
  have k_695 := k_658.mo (.inl rfl) xt_691
  have k_696 := k_659.mo (.inl rfl) xt_691
  have k_697 := k_660.mo (.inl rfl) xt_691
  have k_698 := k_661.mo (.inl rfl) xt_691
  have k_699 := k_662.mo (.inl rfl) xt_691
  have k_700 := k_663.mo (.inl rfl) xt_691
  have k_701 := k_664.mo (.inl rfl) xt_691
  have k_702 := k_665.mo (.inl rfl) xt_691
  have k_703 := k_666.mo (.inl rfl) xt_691
  have k_704 := k_667.mo (.inl rfl) xt_691
  have k_705 := k_668.mo (.inl rfl) xt_691
  have k_706 := k_669.mo (.inl rfl) xt_691
  have k_707 := k_670.mo (.inl rfl) xt_691
  have k_708 := k_656.mo (.inl rfl) xt_691
  have t_709 := (tb_694 h (ne_kd e_688 e_689 rfl)).trans t_671
  have t_710 := (tb_694 q_146 (ne_kd hf_684 e_689 rfl)).trans t_673
  have x_711 := EXT.ty x_687 (.inr ni_65) tb_694
  have k_712 : isRWay T_690 L_650 E q_53 := ⟨e_675.1, (va_up (va_up (va_up (va_up (va_up (va_up (fun _ => none) 0 (some q_175)) 1 (some q_224)) 2 (some q_274)) 3 (some q_325)) 4 (some q_377)) 5 (some q_430)), ta_693, (fun j hj => by rcases (show j = 0 ∨ j = 1 ∨ j = 2 ∨ j = 3 ∨ j = 4 ∨ j = 5 by omega) with rfl | rfl | rfl | rfl | rfl | rfl; exact ⟨q_175, rfl, k_699⟩; exact ⟨q_224, rfl, k_700⟩; exact ⟨q_274, rfl, k_701⟩; exact ⟨q_325, rfl, k_702⟩; exact ⟨q_377, rfl, k_703⟩; exact ⟨q_430, rfl, k_704⟩)⟩
  obtain ⟨T_713, xt_714, hW_715, ta_716, tb_717⟩ := ty_ch (tR E 5 4 (va_up (va_up (va_up (va_up (fun _ => none) 0 (some q_484)) 1 (some q_534)) 2 (some q_585)) 3 (some q_637))) hW_692 (fr_sh t_710) hf_684 rfl
  have k_718 := k_695.mo (.inl rfl) xt_714
  have k_719 := k_696.mo (.inl rfl) xt_714
  have k_720 := k_697.mo (.inl rfl) xt_714
  have k_721 := k_698.mo (.inl rfl) xt_714
  have k_722 := k_705.mo (.inl rfl) xt_714
  have k_723 := k_706.mo (.inl rfl) xt_714
  have k_724 := k_707.mo (.inl rfl) xt_714
  have k_725 := k_708.mo (.inl rfl) xt_714
  have k_726 := k_712.mo (.inl rfl) xt_714
  have t_727 := (tb_717 h (ne_kd e_688 hf_684 rfl)).trans t_709
  have x_728 := EXT.ty x_711 (.inr ni_158) tb_717
  have k_729 : isRClo T_713 L_650 E q_146 := ⟨e_676.1, (va_up (va_up (va_up (va_up (fun _ => none) 0 (some q_484)) 1 (some q_534)) 2 (some q_585)) 3 (some q_637)), ta_716, (fun j hj => by rcases (show j = 0 ∨ j = 1 ∨ j = 2 ∨ j = 3 by omega) with rfl | rfl | rfl | rfl; exact ⟨q_484, rfl, k_722⟩; exact ⟨q_534, rfl, k_723⟩; exact ⟨q_585, rfl, k_724⟩; exact ⟨q_637, rfl, k_725⟩)⟩
  obtain ⟨T_730, xt_731, hW_732, ta_733, tb_734⟩ := ty_ch (tBas q_1 q_30 q_53 q_77 q_111 q_146) hW_715 (fr_sh t_727) e_688 rfl
  have k_735 := k_718.mo (.inl rfl) xt_731
  have k_736 := k_719.mo (.inl rfl) xt_731
  have k_737 := k_720.mo (.inl rfl) xt_731
  have k_738 := k_721.mo (.inl rfl) xt_731
  have k_739 := k_726.mo (.inl rfl) xt_731
  have k_740 := k_729.mo (.inl rfl) xt_731
  have x_741 := EXT.ty x_728 (.inl rfl) tb_734
  exact hR _ _ _ _ _ _ dX0_init_114 (Nat.le_of_ble_eq_true rfl) (Nat.le_of_ble_eq_true rfl) ⟨T_730, x_741, hW_732, ⟨e_674.1, q_1, q_30, q_53, q_77, q_111, q_146, ta_733, k_735, k_736, k_739, k_737, k_738, k_740⟩⟩
set_option maxRecDepth 100000 in
set_option maxHeartbeats 4000000 in
theorem kt_X11 {l : Launch} {E : Ez} {L : List Nat} {f : Nat → va_E} {T : Nat → va_E → Prop} {h : Nat} (hW : WT T L f) (m_h : h ∈ L) (t_h : T h = FREE) (e_h : f h = ob 11 [.null, .null, .null, .null, .null, .null, .null, .null, .null, .null, .null, .null, .null, .null]) : CV l yX11_init cX11_init 2 3 65 5115 E [.ref h] L f (fun L1 f1 => ∃ T1, EXT h T L f T1 L1 f1 ∧ WT T1 L1 f1 ∧ isX T1 L1 E h ∧ (∀ k : Nat, k < 4 → zsw f1 h k = -1) ∧ ∀ j k : Nat, j < 4 → k < 4 → zso f1 h j = zso f1 h k → j = k) := by
  refine cv_of (by decide) (Nat.le_of_ble_eq_true rfl) (fun z hz hnm hC hR => ?_)
  have hC : Cx z E cX11_init RX11 2 3 65 5115 := hC
  subst hz
  show V z E 2 0 0 L f 0 [(0, .ref h)] []
  have x_0 : EXT h T L f T L f := EXT.rf
  refine v_aload_n hC dX11_init_0 rfl ?_
  refine v_objinit hC mo_X11_3 mo_i mo_c (by decide) dX11_init_1 ?_
  refine v_aload_n hC dX11_init_4 rfl ?_
  refine v_new hC (ci := 7) (fs := [.null, .int 0, .int 0, .int 0, .int 0, .int 0, .int 0]) rfl inX7 tyX7_ok kl_X11_9 in_X7 ii_X7 (fun j hj => by rcases (show j = 0 ∨ j = 1 ∨ j = 2 ∨ j = 3 ∨ j = 4 ∨ j = 5 ∨ j = 6 by omega) with rfl | rfl | rfl | rfl | rfl | rfl | rfl <;> rfl) (Nat.le_of_ble_eq_true rfl) (Nat.le_of_ble_eq_true rfl) dX11_init_5 (fun q_1 f_2 hq_3 hf_4 hk_5 => ?_)
  obtain ⟨T_6, hx_7, hW_8, m_9, t_10⟩ := nw_t FREE hW hq_3 hf_4 hk_5 True.intro
  obtain ⟨L_11, hs_12⟩ : ∃ L9, L9 = L ++ [q_1] := ⟨_, rfl⟩
  rw [← hs_12] at hx_7 hW_8 m_9 ⊢
  have ni_13 := EXT.nin x_0 m_h hq_3
  refine v_widen (k := 1) (n := 7) (Nat.le_of_ble_eq_true rfl) (Nat.le_of_ble_eq_true rfl) ?_
  refine v_dup hC dX11_init_8 rfl ?_
  refine v_xvN hC (rest := [.ref q_1, .ref h]) rfl mi_X7_init (kt_X7 hW_8 m_9 t_10 hf_4) mx_X7_init mn_X11_11 (by decide) rfl (cells1 := 2) (slots1 := 607) (by decide) (by decide) (Nat.le_of_ble_eq_true rfl) (Nat.le_of_ble_eq_true rfl) rfl (Nat.le_of_ble_eq_true rfl) dX11_init_9 (fun L_14 f_15 h_16 => ?_)
  obtain ⟨T_17, hy_18, hW_19, k_20⟩ := h_16
  have hx_21 := EX.ct hx_7 hq_3 hy_18
  have t_22 := (hx_21 h m_h).2.1.trans t_h
  have e_23 := hx_21.at m_h e_h
  have x_24 := EXT.al x_0 hx_21
  refine v_putF hC (by rw [hnm]; rfl) fl_X11_12 e_23.1 e_23.2 rfl rfl (Nat.le_of_ble_eq_true rfl) (fs' := [.ref q_1, .null, .null, .null, .null, .null, .null, .null, .null, .null, .null, .null, .null, .null]) rfl dX11_init_12 (fun f_25 hf_26 hk_27 => ?_)
  have hW_28 := hW_19.up hf_26 hk_27 t_22 True.intro
  have x_29 := EXT.put x_24 hk_27
  refine v_aload_n hC dX11_init_15 rfl ?_
  refine v_new hC (ci := 0) (fs := [.null, .null, .null, .null, .null, .null]) rfl inX0 tyX0_ok kl_X11_16 in_X0 ii_X0 (fun j hj => by rcases (show j = 0 ∨ j = 1 ∨ j = 2 ∨ j = 3 ∨ j = 4 ∨ j = 5 by omega) with rfl | rfl | rfl | rfl | rfl | rfl <;> rfl) (Nat.le_of_ble_eq_true rfl) (Nat.le_of_ble_eq_true rfl) dX11_init_16 (fun q_30 f_31 hq_32 hf_33 hk_34 => ?_)
  obtain ⟨T_35, hx_36, hW_37, m_38, t_39⟩ := nw_t FREE hW_28 hq_32 hf_33 hk_34 True.intro
  obtain ⟨L_40, hs_41⟩ : ∃ L9, L9 = L_14 ++ [q_30] := ⟨_, rfl⟩
  rw [← hs_41] at hx_36 hW_37 m_38 ⊢
  have ni_42 := EXT.nin x_29 e_23.1 hq_32
  refine v_widen (k := 3) (n := 613) (Nat.le_of_ble_eq_true rfl) (Nat.le_of_ble_eq_true rfl) ?_
  refine v_dup hC dX11_init_19 rfl ?_
  refine v_xv hC (rest := [.ref q_30, .ref h]) rfl mi_X0_init (kt_X0 hW_37 m_38 t_39 hf_33) mx_X0_init ml_X11_18 (by decide) rfl (cells1 := 29) (slots1 := 2560) (by decide) (by decide) (Nat.le_of_ble_eq_true rfl) (Nat.le_of_ble_eq_true rfl) rfl (Nat.le_of_ble_eq_true rfl) dX11_init_20 (fun L_43 f_44 h_45 => ?_)
  obtain ⟨T_46, hy_47, hW_48, k_49⟩ := h_45
  have hx_50 := EX.ct hx_36 hq_32 hy_47
  have k_51 := k_20.mo (.inl rfl) hx_50.xt
  have t_52 := (hx_50 h e_23.1).2.1.trans t_22
  have e_53 := hx_50.at e_23.1 hf_26
  have x_54 := EXT.al x_29 hx_50
  refine v_putF hC (by rw [hnm]; rfl) fl_X11_19 e_53.1 e_53.2 rfl rfl (Nat.le_of_ble_eq_true rfl) (fs' := [.ref q_1, .ref q_30, .null, .null, .null, .null, .null, .null, .null, .null, .null, .null, .null, .null]) rfl dX11_init_23 (fun f_55 hf_56 hk_57 => ?_)
  have hW_58 := hW_48.up hf_56 hk_57 t_52 True.intro
  have x_59 := EXT.put x_54 hk_57
  refine v_aload_n hC dX11_init_26 rfl ?_
  refine v_iconst hC dX11_init_27 (v := 3) (by decide) ?_
  refine v_newq hC (t := 4) (N' := 3) kl_X11_16 ao_X0 rfl (by decide) (by decide) (by decide) (Nat.le_of_ble_eq_true rfl) (Nat.le_of_ble_eq_true rfl) dX11_init_28 (fun q_60 f_61 hq_62 hf_63 hk_64 => ?_)
  obtain ⟨T_65, hx_66, hW_67, m_68, t_69⟩ := nw_t FREE hW_58 hq_62 hf_63 hk_64 True.intro
  obtain ⟨L_70, hs_71⟩ : ∃ L9, L9 = L_43 ++ [q_60] := ⟨_, rfl⟩
  rw [← hs_71] at hx_66 hW_67 m_68 ⊢
  have ni_72 := EXT.nin x_59 e_53.1 hq_62
  refine v_widen (k := 30) (n := 2563) (Nat.le_of_ble_eq_true rfl) (Nat.le_of_ble_eq_true rfl) ?_
  have k_73 := k_51.mo (.inl rfl) hx_66.xt
  have k_74 := k_49.mo (.inl rfl) hx_66.xt
  have t_75 := (hx_66 h e_53.1).2.1.trans t_52
  have e_76 := hx_66.at e_53.1 hf_56
  have x_77 := EXT.al x_59 hx_66
  refine v_putF hC (by rw [hnm]; rfl) fl_X11_23 e_76.1 e_76.2 rfl rfl (Nat.le_of_ble_eq_true rfl) (fs' := [.ref q_1, .ref q_30, .ref q_60, .null, .null, .null, .null, .null, .null, .null, .null, .null, .null, .null]) rfl dX11_init_31 (fun f_78 hf_79 hk_80 => ?_)
  have e_83 := (hk_80 q_60 (ne_kd hf_63 e_76.2 rfl)).trans hf_63
  have hW_81 := hW_67.up hf_79 hk_80 t_75 True.intro
  have x_82 := EXT.put x_77 hk_80
  refine v_aload_n hC dX11_init_34 rfl ?_
  refine v_new hC (ci := 2) (fs := [.null, .int 0]) rfl inX2 tyX2_ok kl_X11_27 in_X2 ii_X2 (fun j hj => by rcases (show j = 0 ∨ j = 1 by omega) with rfl | rfl <;> rfl) (Nat.le_of_ble_eq_true rfl) (Nat.le_of_ble_eq_true rfl) dX11_init_35 (fun q_84 f_85 hq_86 hf_87 hk_88 => ?_)
  obtain ⟨T_89, hx_90, hW_91, m_92, t_93⟩ := nw_t FREE hW_81 hq_86 hf_87 hk_88 True.intro
  obtain ⟨L_94, hs_95⟩ : ∃ L9, L9 = L_70 ++ [q_84] := ⟨_, rfl⟩
  rw [← hs_95] at hx_90 hW_91 m_92 ⊢
  have ni_96 := EXT.nin x_82 e_76.1 hq_86
  refine v_widen (k := 31) (n := 2565) (Nat.le_of_ble_eq_true rfl) (Nat.le_of_ble_eq_true rfl) ?_
  refine v_dup hC dX11_init_38 rfl ?_
  refine v_xvN hC (rest := [.ref q_84, .ref h]) rfl mi_X2_init (kt_X2 hW_91 m_92 t_93 hf_87) mx_X2_init mn_X11_29 (by decide) rfl (cells1 := 32) (slots1 := 2616) (by decide) (by decide) (Nat.le_of_ble_eq_true rfl) (Nat.le_of_ble_eq_true rfl) rfl (Nat.le_of_ble_eq_true rfl) dX11_init_39 (fun L_97 f_98 h_99 => ?_)
  obtain ⟨T_100, hy_101, hW_102, k_103⟩ := h_99
  have hx_104 := EX.ct hx_90 hq_86 hy_101
  have k_105 := k_73.mo (.inl rfl) hx_104.xt
  have k_106 := k_74.mo (.inl rfl) hx_104.xt
  have t_107 := (hx_104 h e_76.1).2.1.trans t_75
  have t_108 := (hx_104 q_60 m_68).2.1.trans t_69
  have e_109 := hx_104.at e_76.1 hf_79
  have e_110 := hx_104.at m_68 e_83
  have x_111 := EXT.al x_82 hx_104
  refine v_putF hC (by rw [hnm]; rfl) fl_X11_30 e_109.1 e_109.2 rfl rfl (Nat.le_of_ble_eq_true rfl) (fs' := [.ref q_1, .ref q_30, .ref q_60, .ref q_84, .null, .null, .null, .null, .null, .null, .null, .null, .null, .null]) rfl dX11_init_42 (fun f_112 hf_113 hk_114 => ?_)
  have e_117 := (hk_114 q_60 (ne_kd e_110.2 e_109.2 rfl)).trans e_110.2
  have hW_115 := hW_102.up hf_113 hk_114 t_107 True.intro
  have x_116 := EXT.put x_111 hk_114
  refine v_aload_n hC dX11_init_45 rfl ?_
  refine v_iconst hC dX11_init_46 (v := 4) (by decide) ?_
  refine v_newq hC (t := 6) (N' := 4) kl_X11_34 ao_X5 rfl (by decide) (by decide) (by decide) (Nat.le_of_ble_eq_true rfl) (Nat.le_of_ble_eq_true rfl) dX11_init_47 (fun q_118 f_119 hq_120 hf_121 hk_122 => ?_)
  obtain ⟨T_123, hx_124, hW_125, m_126, t_127⟩ := nw_t FREE hW_115 hq_120 hf_121 hk_122 True.intro
  obtain ⟨L_128, hs_129⟩ : ∃ L9, L9 = L_97 ++ [q_118] := ⟨_, rfl⟩
  rw [← hs_129] at hx_124 hW_125 m_126 ⊢
  have ni_130 := EXT.nin x_116 e_109.1 hq_120
  refine v_widen (k := 33) (n := 2620) (Nat.le_of_ble_eq_true rfl) (Nat.le_of_ble_eq_true rfl) ?_
  have k_131 := k_105.mo (.inl rfl) hx_124.xt
  have k_132 := k_106.mo (.inl rfl) hx_124.xt
  have k_133 := k_103.mo (.inl rfl) hx_124.xt
  have t_134 := (hx_124 h e_109.1).2.1.trans t_107
  have t_135 := (hx_124 q_60 e_110.1).2.1.trans t_108
  have e_136 := hx_124.at e_109.1 hf_113
  have e_137 := hx_124.at e_110.1 e_117
  have x_138 := EXT.al x_116 hx_124
  refine v_putF hC (by rw [hnm]; rfl) fl_X11_36 e_136.1 e_136.2 rfl rfl (Nat.le_of_ble_eq_true rfl) (fs' := [.ref q_1, .ref q_30, .ref q_60, .ref q_84, .ref q_118, .null, .null, .null, .null, .null, .null, .null, .null, .null]) rfl dX11_init_50 (fun f_139 hf_140 hk_141 => ?_)
  have e_144 := (hk_141 q_60 (ne_kd e_137.2 e_136.2 rfl)).trans e_137.2
  have e_145 := (hk_141 q_118 (ne_kd hf_121 e_136.2 rfl)).trans hf_121
  have hW_142 := hW_125.up hf_140 hk_141 t_134 True.intro
  have x_143 := EXT.put x_138 hk_141
  refine v_aload_n hC dX11_init_53 rfl ?_
  refine v_new hC (ci := 4) (fs := [.null, .null, .int 0, .int 0, .int 0]) rfl inX4 tyX4_ok kl_X11_40 in_X4 ii_X4 (fun j hj => by rcases (show j = 0 ∨ j = 1 ∨ j = 2 ∨ j = 3 ∨ j = 4 by omega) with rfl | rfl | rfl | rfl | rfl <;> rfl) (Nat.le_of_ble_eq_true rfl) (Nat.le_of_ble_eq_true rfl) dX11_init_54 (fun q_146 f_147 hq_148 hf_149 hk_150 => ?_)
  obtain ⟨T_151, hx_152, hW_153, m_154, t_155⟩ := nw_t FREE hW_142 hq_148 hf_149 hk_150 True.intro
  obtain ⟨L_156, hs_157⟩ : ∃ L9, L9 = L_128 ++ [q_146] := ⟨_, rfl⟩
  rw [← hs_157] at hx_152 hW_153 m_154 ⊢
  have ni_158 := EXT.nin x_143 e_136.1 hq_148
  refine v_widen (k := 34) (n := 2625) (Nat.le_of_ble_eq_true rfl) (Nat.le_of_ble_eq_true rfl) ?_
  refine v_dup hC dX11_init_57 rfl ?_
  refine v_xvN hC (rest := [.ref q_146, .ref h]) rfl mi_X4_init (kt_X4 hW_153 m_154 t_155 hf_149) mx_X4_init mn_X11_42 (by decide) rfl (cells1 := 36) (slots1 := 3137) (by decide) (by decide) (Nat.le_of_ble_eq_true rfl) (Nat.le_of_ble_eq_true rfl) rfl (Nat.le_of_ble_eq_true rfl) dX11_init_58 (fun L_159 f_160 h_161 => ?_)
  obtain ⟨T_162, hy_163, hW_164, k_165⟩ := h_161
  have hx_166 := EX.ct hx_152 hq_148 hy_163
  have k_167 := k_131.mo (.inl rfl) hx_166.xt
  have k_168 := k_132.mo (.inl rfl) hx_166.xt
  have k_169 := k_133.mo (.inl rfl) hx_166.xt
  have t_170 := (hx_166 h e_136.1).2.1.trans t_134
  have t_171 := (hx_166 q_60 e_137.1).2.1.trans t_135
  have t_172 := (hx_166 q_118 m_126).2.1.trans t_127
  have e_173 := hx_166.at e_136.1 hf_140
  have e_174 := hx_166.at e_137.1 e_144
  have e_175 := hx_166.at m_126 e_145
  have x_176 := EXT.al x_143 hx_166
  refine v_putF hC (by rw [hnm]; rfl) fl_X11_43 e_173.1 e_173.2 rfl rfl (Nat.le_of_ble_eq_true rfl) (fs' := [.ref q_1, .ref q_30, .ref q_60, .ref q_84, .ref q_118, .ref q_146, .null, .null, .null, .null, .null, .null, .null, .null]) rfl dX11_init_61 (fun f_177 hf_178 hk_179 => ?_)
  have e_182 := (hk_179 q_60 (ne_kd e_174.2 e_173.2 rfl)).trans e_174.2
  have e_183 := (hk_179 q_118 (ne_kd e_175.2 e_173.2 rfl)).trans e_175.2
  have hW_180 := hW_164.up hf_178 hk_179 t_170 True.intro
  have x_181 := EXT.put x_176 hk_179
  refine v_aload_n hC dX11_init_64 rfl ?_
  refine v_iconst hC dX11_init_65 (v := 3) (by decide) ?_
  refine v_newaG hC (t := 1) (ty := .int) (N' := 3) (a0 := (3, .inl (fun _ => 0))) rfl ac_int rfl (fun _ => rfl) (by decide) (by decide) (by decide) (Nat.le_of_ble_eq_true rfl) (Nat.le_of_ble_eq_true rfl) dX11_init_66 (fun q_184 f_185 hq_186 hf_187 hk_188 => ?_)
  obtain ⟨T_189, hx_190, hW_191, m_192, t_193⟩ := nw_t (tI E 3) hW_180 hq_186 hf_187 hk_188 ⟨_, rfl⟩
  obtain ⟨L_194, hs_195⟩ : ∃ L9, L9 = L_159 ++ [q_184] := ⟨_, rfl⟩
  rw [← hs_195] at hx_190 hW_191 m_192 ⊢
  have ni_196 := EXT.nin x_181 e_173.1 hq_186
  refine v_widen (k := 37) (n := 3140) (Nat.le_of_ble_eq_true rfl) (Nat.le_of_ble_eq_true rfl) ?_
  have k_197 := k_167.mo (.inl rfl) hx_190.xt
  have k_198 := k_168.mo (.inl rfl) hx_190.xt
  have k_199 := k_169.mo (.inl rfl) hx_190.xt
  have k_200 := k_165.mo (.inl rfl) hx_190.xt
  have t_201 := (hx_190 h e_173.1).2.1.trans t_170
  have t_202 := (hx_190 q_60 e_174.1).2.1.trans t_171
  have t_203 := (hx_190 q_118 e_175.1).2.1.trans t_172
  have e_204 := hx_190.at e_173.1 hf_178
  have e_205 := hx_190.at e_174.1 e_182
  have e_206 := hx_190.at e_175.1 e_183
  have x_207 := EXT.al x_181 hx_190
  have k_208 : isI T_189 L_194 E 3 q_184 := ⟨m_192, t_193⟩
  refine v_putF hC (by rw [hnm]; rfl) fl_X11_47 e_204.1 e_204.2 rfl rfl (Nat.le_of_ble_eq_true rfl) (fs' := [.ref q_1, .ref q_30, .ref q_60, .ref q_84, .ref q_118, .ref q_146, .ref q_184, .null, .null, .null, .null, .null, .null, .null]) rfl dX11_init_68 (fun f_209 hf_210 hk_211 => ?_)
  have e_214 := (hk_211 q_60 (ne_kd e_205.2 e_204.2 rfl)).trans e_205.2
  have e_215 := (hk_211 q_118 (ne_kd e_206.2 e_204.2 rfl)).trans e_206.2
  have hW_212 := hW_191.up hf_210 hk_211 t_201 True.intro
  have x_213 := EXT.put x_207 hk_211
  refine v_aload_n hC dX11_init_71 rfl ?_
  refine v_new hC (ci := 10) (fs := [.int 0, .int 0, .int 0, .int 0, .int 0, .int 0, .int 0]) rfl inX10 tyX10_ok kl_X11_51 in_X10 ii_X10 (fun j hj => by rcases (show j = 0 ∨ j = 1 ∨ j = 2 ∨ j = 3 ∨ j = 4 ∨ j = 5 ∨ j = 6 by omega) with rfl | rfl | rfl | rfl | rfl | rfl | rfl <;> rfl) (Nat.le_of_ble_eq_true rfl) (Nat.le_of_ble_eq_true rfl) dX11_init_72 (fun q_216 f_217 hq_218 hf_219 hk_220 => ?_)
  obtain ⟨T_221, hx_222, hW_223, m_224, t_225⟩ := nw_t FREE hW_212 hq_218 hf_219 hk_220 True.intro
  obtain ⟨L_226, hs_227⟩ : ∃ L9, L9 = L_194 ++ [q_216] := ⟨_, rfl⟩
  rw [← hs_227] at hx_222 hW_223 m_224 ⊢
  have ni_228 := EXT.nin x_213 e_204.1 hq_218
  refine v_widen (k := 38) (n := 3147) (Nat.le_of_ble_eq_true rfl) (Nat.le_of_ble_eq_true rfl) ?_
  refine v_dup hC dX11_init_75 rfl ?_
  refine v_xvN hC (rest := [.ref q_216, .ref h]) rfl mi_X10_init (kt_X10 hW_223 m_224 t_225 hf_219) mx_X10_init mn_X11_53 (by decide) rfl (cells1 := 38) (slots1 := 3147) (by decide) (by decide) (Nat.le_of_ble_eq_true rfl) (Nat.le_of_ble_eq_true rfl) rfl (Nat.le_of_ble_eq_true rfl) dX11_init_76 (fun L_229 f_230 h_231 => ?_)
  obtain ⟨T_232, hy_233, hW_234, k_235⟩ := h_231
  have hx_236 := EX.ct hx_222 hq_218 hy_233
  have k_237 := k_197.mo (.inl rfl) hx_236.xt
  have k_238 := k_198.mo (.inl rfl) hx_236.xt
  have k_239 := k_199.mo (.inl rfl) hx_236.xt
  have k_240 := k_200.mo (.inl rfl) hx_236.xt
  have k_241 := k_208.mo (.inl rfl) hx_236.xt
  have t_242 := (hx_236 h e_204.1).2.1.trans t_201
  have t_243 := (hx_236 q_60 e_205.1).2.1.trans t_202
  have t_244 := (hx_236 q_118 e_206.1).2.1.trans t_203
  have e_245 := hx_236.at e_204.1 hf_210
  have e_246 := hx_236.at e_205.1 e_214
  have e_247 := hx_236.at e_206.1 e_215
  have x_248 := EXT.al x_213 hx_236
  refine v_putF hC (by rw [hnm]; rfl) fl_X11_54 e_245.1 e_245.2 rfl rfl (Nat.le_of_ble_eq_true rfl) (fs' := [.ref q_1, .ref q_30, .ref q_60, .ref q_84, .ref q_118, .ref q_146, .ref q_184, .ref q_216, .null, .null, .null, .null, .null, .null]) rfl dX11_init_79 (fun f_249 hf_250 hk_251 => ?_)
  have e_254 := (hk_251 q_60 (ne_kd e_246.2 e_245.2 rfl)).trans e_246.2
  have e_255 := (hk_251 q_118 (ne_kd e_247.2 e_245.2 rfl)).trans e_247.2
  have hW_252 := hW_234.up hf_250 hk_251 t_242 True.intro
  have x_253 := EXT.put x_248 hk_251
  refine v_aload_n hC dX11_init_82 rfl ?_
  refine v_new hC (ci := 9) (fs := [.null, .int 0, .int 0]) rfl inX9 tyX9_ok kl_X11_58 in_X9 ii_X9 (fun j hj => by rcases (show j = 0 ∨ j = 1 ∨ j = 2 by omega) with rfl | rfl | rfl <;> rfl) (Nat.le_of_ble_eq_true rfl) (Nat.le_of_ble_eq_true rfl) dX11_init_83 (fun q_256 f_257 hq_258 hf_259 hk_260 => ?_)
  obtain ⟨T_261, hx_262, hW_263, m_264, t_265⟩ := nw_t FREE hW_252 hq_258 hf_259 hk_260 True.intro
  obtain ⟨L_266, hs_267⟩ : ∃ L9, L9 = L_229 ++ [q_256] := ⟨_, rfl⟩
  rw [← hs_267] at hx_262 hW_263 m_264 ⊢
  have ni_268 := EXT.nin x_253 e_245.1 hq_258
  refine v_widen (k := 39) (n := 3150) (Nat.le_of_ble_eq_true rfl) (Nat.le_of_ble_eq_true rfl) ?_
  refine v_dup hC dX11_init_86 rfl ?_
  refine v_xvN hC (rest := [.ref q_256, .ref h]) rfl mi_X9_init (kt_X9 hW_263 m_264 t_265 hf_259) mx_X9_init mn_X11_60 (by decide) rfl (cells1 := 40) (slots1 := 3450) (by decide) (by decide) (Nat.le_of_ble_eq_true rfl) (Nat.le_of_ble_eq_true rfl) rfl (Nat.le_of_ble_eq_true rfl) dX11_init_87 (fun L_269 f_270 h_271 => ?_)
  obtain ⟨T_272, hy_273, hW_274, k_275⟩ := h_271
  have hx_276 := EX.ct hx_262 hq_258 hy_273
  have k_277 := k_237.mo (.inl rfl) hx_276.xt
  have k_278 := k_238.mo (.inl rfl) hx_276.xt
  have k_279 := k_239.mo (.inl rfl) hx_276.xt
  have k_280 := k_240.mo (.inl rfl) hx_276.xt
  have k_281 := k_241.mo (.inl rfl) hx_276.xt
  have k_282 := k_235.mo (.inl rfl) hx_276.xt
  have t_283 := (hx_276 h e_245.1).2.1.trans t_242
  have t_284 := (hx_276 q_60 e_246.1).2.1.trans t_243
  have t_285 := (hx_276 q_118 e_247.1).2.1.trans t_244
  have e_286 := hx_276.at e_245.1 hf_250
  have e_287 := hx_276.at e_246.1 e_254
  have e_288 := hx_276.at e_247.1 e_255
  have x_289 := EXT.al x_253 hx_276
  refine v_putF hC (by rw [hnm]; rfl) fl_X11_61 e_286.1 e_286.2 rfl rfl (Nat.le_of_ble_eq_true rfl) (fs' := [.ref q_1, .ref q_30, .ref q_60, .ref q_84, .ref q_118, .ref q_146, .ref q_184, .ref q_216, .ref q_256, .null, .null, .null, .null, .null]) rfl dX11_init_90 (fun f_290 hf_291 hk_292 => ?_)
  have e_295 := (hk_292 q_60 (ne_kd e_287.2 e_286.2 rfl)).trans e_287.2
  have e_296 := (hk_292 q_118 (ne_kd e_288.2 e_286.2 rfl)).trans e_288.2
  have hW_293 := hW_274.up hf_291 hk_292 t_283 True.intro
  have x_294 := EXT.put x_289 hk_292
  refine v_aload_n hC dX11_init_93 rfl ?_
  refine v_new hC (ci := 3) (fs := [.null, .null, .null, .int 0]) rfl inX3 tyX3_ok kl_X11_65 in_X3 ii_X3 (fun j hj => by rcases (show j = 0 ∨ j = 1 ∨ j = 2 ∨ j = 3 by omega) with rfl | rfl | rfl | rfl <;> rfl) (Nat.le_of_ble_eq_true rfl) (Nat.le_of_ble_eq_true rfl) dX11_init_94 (fun q_297 f_298 hq_299 hf_300 hk_301 => ?_)
  obtain ⟨T_302, hx_303, hW_304, m_305, t_306⟩ := nw_t FREE hW_293 hq_299 hf_300 hk_301 True.intro
  obtain ⟨L_307, hs_308⟩ : ∃ L9, L9 = L_269 ++ [q_297] := ⟨_, rfl⟩
  rw [← hs_308] at hx_303 hW_304 m_305 ⊢
  have ni_309 := EXT.nin x_294 e_286.1 hq_299
  refine v_widen (k := 41) (n := 3454) (Nat.le_of_ble_eq_true rfl) (Nat.le_of_ble_eq_true rfl) ?_
  refine v_dup hC dX11_init_97 rfl ?_
  refine v_xvN hC (rest := [.ref q_297, .ref h]) rfl mi_X3_init (kt_X3 hW_304 m_305 t_306 hf_300) mx_X3_init mn_X11_67 (by decide) rfl (cells1 := 44) (slots1 := 3490) (by decide) (by decide) (Nat.le_of_ble_eq_true rfl) (Nat.le_of_ble_eq_true rfl) rfl (Nat.le_of_ble_eq_true rfl) dX11_init_98 (fun L_310 f_311 h_312 => ?_)
  obtain ⟨T_313, hy_314, hW_315, k_316⟩ := h_312
  have hx_317 := EX.ct hx_303 hq_299 hy_314
  have k_318 := k_277.mo (.inl rfl) hx_317.xt
  have k_319 := k_278.mo (.inl rfl) hx_317.xt
  have k_320 := k_279.mo (.inl rfl) hx_317.xt
  have k_321 := k_280.mo (.inl rfl) hx_317.xt
  have k_322 := k_281.mo (.inl rfl) hx_317.xt
  have k_323 := k_282.mo (.inl rfl) hx_317.xt
  have k_324 := k_275.mo (.inl rfl) hx_317.xt
  have t_325 := (hx_317 h e_286.1).2.1.trans t_283
  have t_326 := (hx_317 q_60 e_287.1).2.1.trans t_284
  have t_327 := (hx_317 q_118 e_288.1).2.1.trans t_285
  have e_328 := hx_317.at e_286.1 hf_291
  have e_329 := hx_317.at e_287.1 e_295
  have e_330 := hx_317.at e_288.1 e_296
  have x_331 := EXT.al x_294 hx_317
  refine v_putF hC (by rw [hnm]; rfl) fl_X11_68 e_328.1 e_328.2 rfl rfl (Nat.le_of_ble_eq_true rfl) (fs' := [.ref q_1, .ref q_30, .ref q_60, .ref q_84, .ref q_118, .ref q_146, .ref q_184, .ref q_216, .ref q_256, .ref q_297, .null, .null, .null, .null]) rfl dX11_init_101 (fun f_332 hf_333 hk_334 => ?_)
  have e_337 := (hk_334 q_60 (ne_kd e_329.2 e_328.2 rfl)).trans e_329.2
  have e_338 := (hk_334 q_118 (ne_kd e_330.2 e_328.2 rfl)).trans e_330.2
  have hW_335 := hW_315.up hf_333 hk_334 t_325 True.intro
  have x_336 := EXT.put x_331 hk_334
  refine v_aload_n hC dX11_init_104 rfl ?_
  refine v_new hC (ci := 2) (fs := [.null, .int 0]) rfl inX2 tyX2_ok kl_X11_27 in_X2 ii_X2 (fun j hj => by rcases (show j = 0 ∨ j = 1 by omega) with rfl | rfl <;> rfl) (Nat.le_of_ble_eq_true rfl) (Nat.le_of_ble_eq_true rfl) dX11_init_105 (fun q_339 f_340 hq_341 hf_342 hk_343 => ?_)
  obtain ⟨T_344, hx_345, hW_346, m_347, t_348⟩ := nw_t FREE hW_335 hq_341 hf_342 hk_343 True.intro
  obtain ⟨L_349, hs_350⟩ : ∃ L9, L9 = L_310 ++ [q_339] := ⟨_, rfl⟩
  rw [← hs_350] at hx_345 hW_346 m_347 ⊢
  have ni_351 := EXT.nin x_336 e_328.1 hq_341
  refine v_widen (k := 45) (n := 3492) (Nat.le_of_ble_eq_true rfl) (Nat.le_of_ble_eq_true rfl) ?_
  refine v_dup hC dX11_init_108 rfl ?_
  refine v_xvN hC (rest := [.ref q_339, .ref h]) rfl mi_X2_init (kt_X2 hW_346 m_347 t_348 hf_342) mx_X2_init mn_X11_29 (by decide) rfl (cells1 := 46) (slots1 := 3543) (by decide) (by decide) (Nat.le_of_ble_eq_true rfl) (Nat.le_of_ble_eq_true rfl) rfl (Nat.le_of_ble_eq_true rfl) dX11_init_109 (fun L_352 f_353 h_354 => ?_)
  obtain ⟨T_355, hy_356, hW_357, k_358⟩ := h_354
  have hx_359 := EX.ct hx_345 hq_341 hy_356
  have k_360 := k_318.mo (.inl rfl) hx_359.xt
  have k_361 := k_319.mo (.inl rfl) hx_359.xt
  have k_362 := k_320.mo (.inl rfl) hx_359.xt
  have k_363 := k_321.mo (.inl rfl) hx_359.xt
  have k_364 := k_322.mo (.inl rfl) hx_359.xt
  have k_365 := k_323.mo (.inl rfl) hx_359.xt
  have k_366 := k_324.mo (.inl rfl) hx_359.xt
  have k_367 := k_316.mo (.inl rfl) hx_359.xt
  have t_368 := (hx_359 h e_328.1).2.1.trans t_325
  have t_369 := (hx_359 q_60 e_329.1).2.1.trans t_326
  have t_370 := (hx_359 q_118 e_330.1).2.1.trans t_327
  have e_371 := hx_359.at e_328.1 hf_333
  have e_372 := hx_359.at e_329.1 e_337
  have e_373 := hx_359.at e_330.1 e_338
  have x_374 := EXT.al x_336 hx_359
  refine v_putF hC (by rw [hnm]; rfl) fl_X11_72 e_371.1 e_371.2 rfl rfl (Nat.le_of_ble_eq_true rfl) (fs' := [.ref q_1, .ref q_30, .ref q_60, .ref q_84, .ref q_118, .ref q_146, .ref q_184, .ref q_216, .ref q_256, .ref q_297, .ref q_339, .null, .null, .null]) rfl dX11_init_112 (fun f_375 hf_376 hk_377 => ?_)
  have e_380 := (hk_377 q_60 (ne_kd e_372.2 e_371.2 rfl)).trans e_372.2
  have e_381 := (hk_377 q_118 (ne_kd e_373.2 e_371.2 rfl)).trans e_373.2
  have hW_378 := hW_357.up hf_376 hk_377 t_368 True.intro
  have x_379 := EXT.put x_374 hk_377
  refine v_aload_n hC dX11_init_115 rfl ?_
  refine v_new hC (ci := 8) (fs := [.null, .int 0, .int 0, .int 0, .int 0]) rfl inX8 tyX8_ok kl_X11_75 in_X8 ii_X8 (fun j hj => by rcases (show j = 0 ∨ j = 1 ∨ j = 2 ∨ j = 3 ∨ j = 4 by omega) with rfl | rfl | rfl | rfl | rfl <;> rfl) (Nat.le_of_ble_eq_true rfl) (Nat.le_of_ble_eq_true rfl) dX11_init_116 (fun q_382 f_383 hq_384 hf_385 hk_386 => ?_)
  obtain ⟨T_387, hx_388, hW_389, m_390, t_391⟩ := nw_t FREE hW_378 hq_384 hf_385 hk_386 True.intro
  obtain ⟨L_392, hs_393⟩ : ∃ L9, L9 = L_352 ++ [q_382] := ⟨_, rfl⟩
  rw [← hs_393] at hx_388 hW_389 m_390 ⊢
  have ni_394 := EXT.nin x_379 e_371.1 hq_384
  refine v_widen (k := 47) (n := 3548) (Nat.le_of_ble_eq_true rfl) (Nat.le_of_ble_eq_true rfl) ?_
  refine v_dup hC dX11_init_119 rfl ?_
  refine v_xvN hC (rest := [.ref q_382, .ref h]) rfl mi_X8_init (kt_X8 hW_389 m_390 t_391 hf_385) mx_X8_init mn_X11_77 (by decide) rfl (cells1 := 48) (slots1 := 3804) (by decide) (by decide) (Nat.le_of_ble_eq_true rfl) (Nat.le_of_ble_eq_true rfl) rfl (Nat.le_of_ble_eq_true rfl) dX11_init_120 (fun L_395 f_396 h_397 => ?_)
  obtain ⟨T_398, hy_399, hW_400, k_401⟩ := h_397
  have hx_402 := EX.ct hx_388 hq_384 hy_399
  have k_403 := k_360.mo (.inl rfl) hx_402.xt
  have k_404 := k_361.mo (.inl rfl) hx_402.xt
  have k_405 := k_362.mo (.inl rfl) hx_402.xt
  have k_406 := k_363.mo (.inl rfl) hx_402.xt
  have k_407 := k_364.mo (.inl rfl) hx_402.xt
  have k_408 := k_365.mo (.inl rfl) hx_402.xt
  have k_409 := k_366.mo (.inl rfl) hx_402.xt
  have k_410 := k_367.mo (.inl rfl) hx_402.xt
  have k_411 := k_358.mo (.inl rfl) hx_402.xt
  have t_412 := (hx_402 h e_371.1).2.1.trans t_368
  have t_413 := (hx_402 q_60 e_372.1).2.1.trans t_369
  have t_414 := (hx_402 q_118 e_373.1).2.1.trans t_370
  have e_415 := hx_402.at e_371.1 hf_376
  have e_416 := hx_402.at e_372.1 e_380
  have e_417 := hx_402.at e_373.1 e_381
  have x_418 := EXT.al x_379 hx_402
  refine v_putF hC (by rw [hnm]; rfl) fl_X11_78 e_415.1 e_415.2 rfl rfl (Nat.le_of_ble_eq_true rfl) (fs' := [.ref q_1, .ref q_30, .ref q_60, .ref q_84, .ref q_118, .ref q_146, .ref q_184, .ref q_216, .ref q_256, .ref q_297, .ref q_339, .ref q_382, .null, .null]) rfl dX11_init_123 (fun f_419 hf_420 hk_421 => ?_)
  have e_424 := (hk_421 q_60 (ne_kd e_416.2 e_415.2 rfl)).trans e_416.2
  have e_425 := (hk_421 q_118 (ne_kd e_417.2 e_415.2 rfl)).trans e_417.2
  have hW_422 := hW_400.up hf_420 hk_421 t_412 True.intro
  have x_423 := EXT.put x_418 hk_421
  refine v_aload_n hC dX11_init_126 rfl ?_
  refine v_new hC (ci := 1) (fs := [.null, .int 0]) rfl inX1 tyX1_ok kl_X11_82 in_X1 ii_X1 (fun j hj => by rcases (show j = 0 ∨ j = 1 by omega) with rfl | rfl <;> rfl) (Nat.le_of_ble_eq_true rfl) (Nat.le_of_ble_eq_true rfl) dX11_init_127 (fun q_426 f_427 hq_428 hf_429 hk_430 => ?_)
  obtain ⟨T_431, hx_432, hW_433, m_434, t_435⟩ := nw_t FREE hW_422 hq_428 hf_429 hk_430 True.intro
  obtain ⟨L_436, hs_437⟩ : ∃ L9, L9 = L_395 ++ [q_426] := ⟨_, rfl⟩
  rw [← hs_437] at hx_432 hW_433 m_434 ⊢
  have ni_438 := EXT.nin x_423 e_415.1 hq_428
  refine v_widen (k := 49) (n := 3806) (Nat.le_of_ble_eq_true rfl) (Nat.le_of_ble_eq_true rfl) ?_
  refine v_dup hC dX11_init_130 rfl ?_
  refine v_xvN hC (rest := [.ref q_426, .ref h]) rfl mi_X1_init (kt_X1 hW_433 m_434 t_435 hf_429) mx_X1_init mn_X11_84 (by decide) rfl (cells1 := 50) (slots1 := 4062) (by decide) (by decide) (Nat.le_of_ble_eq_true rfl) (Nat.le_of_ble_eq_true rfl) rfl (Nat.le_of_ble_eq_true rfl) dX11_init_131 (fun L_439 f_440 h_441 => ?_)
  obtain ⟨T_442, hy_443, hW_444, k_445⟩ := h_441
  have hx_446 := EX.ct hx_432 hq_428 hy_443
  have k_447 := k_403.mo (.inl rfl) hx_446.xt
  have k_448 := k_404.mo (.inl rfl) hx_446.xt
  have k_449 := k_405.mo (.inl rfl) hx_446.xt
  have k_450 := k_406.mo (.inl rfl) hx_446.xt
  have k_451 := k_407.mo (.inl rfl) hx_446.xt
  have k_452 := k_408.mo (.inl rfl) hx_446.xt
  have k_453 := k_409.mo (.inl rfl) hx_446.xt
  have k_454 := k_410.mo (.inl rfl) hx_446.xt
  have k_455 := k_411.mo (.inl rfl) hx_446.xt
  have k_456 := k_401.mo (.inl rfl) hx_446.xt
  have t_457 := (hx_446 h e_415.1).2.1.trans t_412
  have t_458 := (hx_446 q_60 e_416.1).2.1.trans t_413
  have t_459 := (hx_446 q_118 e_417.1).2.1.trans t_414
  have e_460 := hx_446.at e_415.1 hf_420
  have e_461 := hx_446.at e_416.1 e_424
  have e_462 := hx_446.at e_417.1 e_425
  have x_463 := EXT.al x_423 hx_446
  refine v_putF hC (by rw [hnm]; rfl) fl_X11_85 e_460.1 e_460.2 rfl rfl (Nat.le_of_ble_eq_true rfl) (fs' := [.ref q_1, .ref q_30, .ref q_60, .ref q_84, .ref q_118, .ref q_146, .ref q_184, .ref q_216, .ref q_256, .ref q_297, .ref q_339, .ref q_382, .ref q_426, .null]) rfl dX11_init_134 (fun f_464 hf_465 hk_466 => ?_)
  have e_469 := (hk_466 q_60 (ne_kd e_461.2 e_460.2 rfl)).trans e_461.2
  have e_470 := (hk_466 q_118 (ne_kd e_462.2 e_460.2 rfl)).trans e_462.2
  have hW_467 := hW_444.up hf_465 hk_466 t_457 True.intro
  have x_468 := EXT.put x_463 hk_466
  refine v_aload_n hC dX11_init_137 rfl ?_
  refine v_new hC (ci := 6) (fs := [.null, .null, .null, .null, .null, .int 0, .int 0, .int 0, .int 0, .int 0]) rfl inX6 tyX6_ok kl_X11_89 in_X6 ii_X6 (fun j hj => by rcases (show j = 0 ∨ j = 1 ∨ j = 2 ∨ j = 3 ∨ j = 4 ∨ j = 5 ∨ j = 6 ∨ j = 7 ∨ j = 8 ∨ j = 9 by omega) with rfl | rfl | rfl | rfl | rfl | rfl | rfl | rfl | rfl | rfl <;> rfl) (Nat.le_of_ble_eq_true rfl) (Nat.le_of_ble_eq_true rfl) dX11_init_138 (fun q_471 f_472 hq_473 hf_474 hk_475 => ?_)
  obtain ⟨T_476, hx_477, hW_478, m_479, t_480⟩ := nw_t FREE hW_467 hq_473 hf_474 hk_475 True.intro
  obtain ⟨L_481, hs_482⟩ : ∃ L9, L9 = L_439 ++ [q_471] := ⟨_, rfl⟩
  rw [← hs_482] at hx_477 hW_478 m_479 ⊢
  have ni_483 := EXT.nin x_468 e_460.1 hq_473
  refine v_widen (k := 51) (n := 4072) (Nat.le_of_ble_eq_true rfl) (Nat.le_of_ble_eq_true rfl) ?_
  refine v_dup hC dX11_init_141 rfl ?_
  refine v_xvN hC (rest := [.ref q_471, .ref h]) rfl mi_X6_init (kt_X6 hW_478 m_479 t_480 hf_474) mx_X6_init mn_X11_91 (by decide) rfl (cells1 := 57) (slots1 := 4863) (by decide) (by decide) (Nat.le_of_ble_eq_true rfl) (Nat.le_of_ble_eq_true rfl) rfl (Nat.le_of_ble_eq_true rfl) dX11_init_142 (fun L_484 f_485 h_486 => ?_)
  obtain ⟨T_487, hy_488, hW_489, k_490⟩ := h_486
  have hx_491 := EX.ct hx_477 hq_473 hy_488
  have k_492 := k_447.mo (.inl rfl) hx_491.xt
  have k_493 := k_448.mo (.inl rfl) hx_491.xt
  have k_494 := k_449.mo (.inl rfl) hx_491.xt
  have k_495 := k_450.mo (.inl rfl) hx_491.xt
  have k_496 := k_451.mo (.inl rfl) hx_491.xt
  have k_497 := k_452.mo (.inl rfl) hx_491.xt
  have k_498 := k_453.mo (.inl rfl) hx_491.xt
  have k_499 := k_454.mo (.inl rfl) hx_491.xt
  have k_500 := k_455.mo (.inl rfl) hx_491.xt
  have k_501 := k_456.mo (.inl rfl) hx_491.xt
  have k_502 := k_445.mo (.inl rfl) hx_491.xt
  have t_503 := (hx_491 h e_460.1).2.1.trans t_457
  have t_504 := (hx_491 q_60 e_461.1).2.1.trans t_458
  have t_505 := (hx_491 q_118 e_462.1).2.1.trans t_459
  have e_506 := hx_491.at e_460.1 hf_465
  have e_507 := hx_491.at e_461.1 e_469
  have e_508 := hx_491.at e_462.1 e_470
  have x_509 := EXT.al x_468 hx_491
  refine v_putF hC (by rw [hnm]; rfl) fl_X11_92 e_506.1 e_506.2 rfl rfl (Nat.le_of_ble_eq_true rfl) (fs' := [.ref q_1, .ref q_30, .ref q_60, .ref q_84, .ref q_118, .ref q_146, .ref q_184, .ref q_216, .ref q_256, .ref q_297, .ref q_339, .ref q_382, .ref q_426, .ref q_471]) rfl dX11_init_145 (fun f_510 hf_511 hk_512 => ?_)
  have e_515 := (hk_512 q_60 (ne_kd e_507.2 e_506.2 rfl)).trans e_507.2
  have e_516 := (hk_512 q_118 (ne_kd e_508.2 e_506.2 rfl)).trans e_508.2
  have hW_513 := hW_489.up hf_511 hk_512 t_503 True.intro
  have x_514 := EXT.put x_509 hk_512
  refine v_iconst hC dX11_init_148 (v := 0) (by decide) ?_
  refine v_istore_n hC dX11_init_149 (by decide) (lv' := [(1, .int 0), (0, .ref h)]) rfl ?_
  refine v_iload_n hC dX11_init_150 rfl ?_
  refine v_iconst hC dX11_init_151 (v := 4) (by decide) ?_
  refine v_icmp_ge_f hC dX11_init_152 (tgt := 174) (by decide) (by decide) ?_
  refine v_aload_n hC dX11_init_155 rfl ?_
  refine v_get hC fl_X11_36 e_506.1 hf_511 rfl dX11_init_156 ?_
  refine v_iload_n hC dX11_init_159 rfl ?_
  refine v_new hC (ci := 5) (fs := [.null, .int 0, .int 0]) rfl inX5 tyX5_ok kl_X11_34 in_X5 ii_X5 (fun j hj => by rcases (show j = 0 ∨ j = 1 ∨ j = 2 by omega) with rfl | rfl | rfl <;> rfl) (Nat.le_of_ble_eq_true rfl) (Nat.le_of_ble_eq_true rfl) dX11_init_160 (fun q_517 f_518 hq_519 hf_520 hk_521 => ?_)
  obtain ⟨T_522, hx_523, hW_524, m_525, t_526⟩ := nw_t FREE hW_513 hq_519 hf_520 hk_521 True.intro
  obtain ⟨L_527, hs_528⟩ : ∃ L9, L9 = L_484 ++ [q_517] := ⟨_, rfl⟩
  rw [← hs_528] at hx_523 hW_524 m_525 ⊢
  have ni_529 := EXT.nin x_514 e_506.1 hq_519
  refine v_widen (k := 58) (n := 4866) (Nat.le_of_ble_eq_true rfl) (Nat.le_of_ble_eq_true rfl) ?_
  refine v_dup hC dX11_init_163 rfl ?_
  refine v_xvN hC (rest := [.ref q_517, .int 0, .ref q_118]) rfl mi_X5_init (kt_X5 hW_524 m_525 t_526 hf_520) mx_X5_init mn_X11_96 (by decide) rfl (cells1 := 59) (slots1 := 4926) (by decide) (by decide) (Nat.le_of_ble_eq_true rfl) (Nat.le_of_ble_eq_true rfl) rfl (Nat.le_of_ble_eq_true rfl) dX11_init_164 (fun L_530 f_531 h_532 => ?_)
  obtain ⟨T_533, hy_534, hW_535, k_536, n_538, e_539⟩ := h_532
  have hx_537 := EX.ct hx_523 hq_519 hy_534
  have k_540 := k_492.mo (.inl rfl) hx_537.xt
  have k_541 := k_493.mo (.inl rfl) hx_537.xt
  have k_542 := k_494.mo (.inl rfl) hx_537.xt
  have k_543 := k_495.mo (.inl rfl) hx_537.xt
  have k_544 := k_496.mo (.inl rfl) hx_537.xt
  have k_545 := k_497.mo (.inl rfl) hx_537.xt
  have k_546 := k_498.mo (.inl rfl) hx_537.xt
  have k_547 := k_499.mo (.inl rfl) hx_537.xt
  have k_548 := k_500.mo (.inl rfl) hx_537.xt
  have k_549 := k_501.mo (.inl rfl) hx_537.xt
  have k_550 := k_502.mo (.inl rfl) hx_537.xt
  have k_551 := k_490.mo (.inl rfl) hx_537.xt
  have t_552 := (hx_537 h e_506.1).2.1.trans t_503
  have t_553 := (hx_537 q_60 e_507.1).2.1.trans t_504
  have t_554 := (hx_537 q_118 e_508.1).2.1.trans t_505
  have e_555 := hx_537.at e_506.1 hf_511
  have e_556 := hx_537.at e_507.1 e_515
  have e_557 := hx_537.at e_508.1 e_516
  have x_558 := EXT.al x_514 hx_537
  obtain ⟨m_559, q_562, t_560, -⟩ := id k_536
  obtain ⟨v_563, v_564, e_561, -, -⟩ := hW_535.at m_559 t_560
  refine v_aast hC (r := (RX5, TX5, 3)) e_557.1 e_557.2 (t := 6) rfl m_559 e_561 rfl (by unfold vp_in; decide) dX11_init_167 (fun f_565 hf_566 hk_567 => ?_)
  have hf_566 : f_565 q_118 = aR E 6 4 (va_up (fun _ => none) 0 (some q_517)) := hf_566
  have e_570 := (hk_567 h (ne_kd e_555.2 e_557.2 rfl)).trans e_555.2
  have e_571 := (hk_567 q_60 (ne_kd e_556.2 e_557.2 rfl)).trans e_556.2
  have e_572 := (hk_567 q_517 (ne_kd e_539 e_557.2 rfl)).trans e_539
  have hW_568 := hW_535.up hf_566 hk_567 t_554 True.intro
  have x_569 := EXT.put2 x_558 ni_130 hk_567
  refine v_iinc hC dX11_init_168 (k := 0) rfl (v := 1) (by decide) (by decide) (lv' := [(1, .int 1), (0, .ref h)]) rfl ?_
  refine v_goto hC dX11_init_171 (tgt := 150) (by decide) ?_
  refine v_iload_n hC dX11_init_150 rfl ?_
  refine v_iconst hC dX11_init_151 (v := 4) (by decide) ?_
  refine v_icmp_ge_f hC dX11_init_152 (tgt := 174) (by decide) (by decide) ?_
  refine v_aload_n hC dX11_init_155 rfl ?_
  refine v_get hC fl_X11_36 e_555.1 e_570 rfl dX11_init_156 ?_
  refine v_iload_n hC dX11_init_159 rfl ?_
  refine v_new hC (ci := 5) (fs := [.null, .int 0, .int 0]) rfl inX5 tyX5_ok kl_X11_34 in_X5 ii_X5 (fun j hj => by rcases (show j = 0 ∨ j = 1 ∨ j = 2 by omega) with rfl | rfl | rfl <;> rfl) (Nat.le_of_ble_eq_true rfl) (Nat.le_of_ble_eq_true rfl) dX11_init_160 (fun q_573 f_574 hq_575 hf_576 hk_577 => ?_)
  obtain ⟨T_578, hx_579, hW_580, m_581, t_582⟩ := nw_t FREE hW_568 hq_575 hf_576 hk_577 True.intro
  obtain ⟨L_583, hs_584⟩ : ∃ L9, L9 = L_530 ++ [q_573] := ⟨_, rfl⟩
  rw [← hs_584] at hx_579 hW_580 m_581 ⊢
  have ni_585 := EXT.nin x_569 e_555.1 hq_575
  refine v_widen (k := 60) (n := 4929) (Nat.le_of_ble_eq_true rfl) (Nat.le_of_ble_eq_true rfl) ?_
  have ne_586 : q_517 ≠ q_573 := ne_in k_536.1 hq_575
  refine v_dup hC dX11_init_163 rfl ?_
  refine v_xvN hC (rest := [.ref q_573, .int 1, .ref q_118]) rfl mi_X5_init (kt_X5 hW_580 m_581 t_582 hf_576) mx_X5_init mn_X11_96 (by decide) rfl (cells1 := 61) (slots1 := 4989) (by decide) (by decide) (Nat.le_of_ble_eq_true rfl) (Nat.le_of_ble_eq_true rfl) rfl (Nat.le_of_ble_eq_true rfl) dX11_init_164 (fun L_587 f_588 h_589 => ?_)
  obtain ⟨T_590, hy_591, hW_592, k_593, n_595, e_596⟩ := h_589
  have hx_594 := EX.ct hx_579 hq_575 hy_591
  have k_597 := k_540.mo (.inl rfl) hx_594.xt
  have k_598 := k_541.mo (.inl rfl) hx_594.xt
  have k_599 := k_542.mo (.inl rfl) hx_594.xt
  have k_600 := k_543.mo (.inl rfl) hx_594.xt
  have k_601 := k_544.mo (.inl rfl) hx_594.xt
  have k_602 := k_545.mo (.inl rfl) hx_594.xt
  have k_603 := k_546.mo (.inl rfl) hx_594.xt
  have k_604 := k_547.mo (.inl rfl) hx_594.xt
  have k_605 := k_548.mo (.inl rfl) hx_594.xt
  have k_606 := k_549.mo (.inl rfl) hx_594.xt
  have k_607 := k_550.mo (.inl rfl) hx_594.xt
  have k_608 := k_551.mo (.inl rfl) hx_594.xt
  have k_609 := k_536.mo (.inl rfl) hx_594.xt
  have t_610 := (hx_594 h e_555.1).2.1.trans t_552
  have t_611 := (hx_594 q_60 e_556.1).2.1.trans t_553
  have t_612 := (hx_594 q_118 e_557.1).2.1.trans t_554
  have e_613 := hx_594.at e_555.1 e_570
  have e_614 := hx_594.at e_556.1 e_571
  have e_615 := hx_594.at e_557.1 hf_566
  have e_616 := hx_594.at k_536.1 e_572
  have x_617 := EXT.al x_569 hx_594
  obtain ⟨m_618, q_621, t_619, -⟩ := id k_593
  obtain ⟨v_622, v_623, e_620, -, -⟩ := hW_592.at m_618 t_619
  refine v_aast hC (r := (RX5, TX5, 3)) e_615.1 e_615.2 (t := 6) rfl m_618 e_620 rfl (by unfold vp_in; decide) dX11_init_167 (fun f_624 hf_625 hk_626 => ?_)
  have hf_625 : f_624 q_118 = aR E 6 4 (va_up (va_up (fun _ => none) 0 (some q_517)) 1 (some q_573)) := hf_625
  have e_629 := (hk_626 h (ne_kd e_613.2 e_615.2 rfl)).trans e_613.2
  have e_630 := (hk_626 q_60 (ne_kd e_614.2 e_615.2 rfl)).trans e_614.2
  have e_631 := (hk_626 q_517 (ne_kd e_616.2 e_615.2 rfl)).trans e_616.2
  have e_632 := (hk_626 q_573 (ne_kd e_596 e_615.2 rfl)).trans e_596
  have hW_627 := hW_592.up hf_625 hk_626 t_612 True.intro
  have x_628 := EXT.put2 x_617 ni_130 hk_626
  refine v_iinc hC dX11_init_168 (k := 0) rfl (v := 2) (by decide) (by decide) (lv' := [(1, .int 2), (0, .ref h)]) rfl ?_
  refine v_goto hC dX11_init_171 (tgt := 150) (by decide) ?_
  refine v_iload_n hC dX11_init_150 rfl ?_
  refine v_iconst hC dX11_init_151 (v := 4) (by decide) ?_
  refine v_icmp_ge_f hC dX11_init_152 (tgt := 174) (by decide) (by decide) ?_
  refine v_aload_n hC dX11_init_155 rfl ?_
  refine v_get hC fl_X11_36 e_613.1 e_629 rfl dX11_init_156 ?_
  refine v_iload_n hC dX11_init_159 rfl ?_
  refine v_new hC (ci := 5) (fs := [.null, .int 0, .int 0]) rfl inX5 tyX5_ok kl_X11_34 in_X5 ii_X5 (fun j hj => by rcases (show j = 0 ∨ j = 1 ∨ j = 2 by omega) with rfl | rfl | rfl <;> rfl) (Nat.le_of_ble_eq_true rfl) (Nat.le_of_ble_eq_true rfl) dX11_init_160 (fun q_633 f_634 hq_635 hf_636 hk_637 => ?_)
  obtain ⟨T_638, hx_639, hW_640, m_641, t_642⟩ := nw_t FREE hW_627 hq_635 hf_636 hk_637 True.intro
  obtain ⟨L_643, hs_644⟩ : ∃ L9, L9 = L_587 ++ [q_633] := ⟨_, rfl⟩
  rw [← hs_644] at hx_639 hW_640 m_641 ⊢
  have ni_645 := EXT.nin x_628 e_613.1 hq_635
  refine v_widen (k := 62) (n := 4992) (Nat.le_of_ble_eq_true rfl) (Nat.le_of_ble_eq_true rfl) ?_
  have ne_646 : q_517 ≠ q_633 := ne_in e_616.1 hq_635
  have ne_647 : q_573 ≠ q_633 := ne_in k_593.1 hq_635
  refine v_dup hC dX11_init_163 rfl ?_
  refine v_xvN hC (rest := [.ref q_633, .int 2, .ref q_118]) rfl mi_X5_init (kt_X5 hW_640 m_641 t_642 hf_636) mx_X5_init mn_X11_96 (by decide) rfl (cells1 := 63) (slots1 := 5052) (by decide) (by decide) (Nat.le_of_ble_eq_true rfl) (Nat.le_of_ble_eq_true rfl) rfl (Nat.le_of_ble_eq_true rfl) dX11_init_164 (fun L_648 f_649 h_650 => ?_)
  obtain ⟨T_651, hy_652, hW_653, k_654, n_656, e_657⟩ := h_650
  have hx_655 := EX.ct hx_639 hq_635 hy_652
  have k_658 := k_597.mo (.inl rfl) hx_655.xt
  have k_659 := k_598.mo (.inl rfl) hx_655.xt
  have k_660 := k_599.mo (.inl rfl) hx_655.xt
  have k_661 := k_600.mo (.inl rfl) hx_655.xt
  have k_662 := k_601.mo (.inl rfl) hx_655.xt
  have k_663 := k_602.mo (.inl rfl) hx_655.xt
  have k_664 := k_603.mo (.inl rfl) hx_655.xt
  have k_665 := k_604.mo (.inl rfl) hx_655.xt
  have k_666 := k_605.mo (.inl rfl) hx_655.xt
  have k_667 := k_606.mo (.inl rfl) hx_655.xt
  have k_668 := k_607.mo (.inl rfl) hx_655.xt
  have k_669 := k_608.mo (.inl rfl) hx_655.xt
  have k_670 := k_609.mo (.inl rfl) hx_655.xt
  have k_671 := k_593.mo (.inl rfl) hx_655.xt
  have t_672 := (hx_655 h e_613.1).2.1.trans t_610
  have t_673 := (hx_655 q_60 e_614.1).2.1.trans t_611
  have t_674 := (hx_655 q_118 e_615.1).2.1.trans t_612
  have e_675 := hx_655.at e_613.1 e_629
  have e_676 := hx_655.at e_614.1 e_630
  have e_677 := hx_655.at e_615.1 hf_625
  have e_678 := hx_655.at e_616.1 e_631
  have e_679 := hx_655.at k_593.1 e_632
  have x_680 := EXT.al x_628 hx_655
  obtain ⟨m_681, q_684, t_682, -⟩ := id k_654
  obtain ⟨v_685, v_686, e_683, -, -⟩ := hW_653.at m_681 t_682
  refine v_aast hC (r := (RX5, TX5, 3)) e_677.1 e_677.2 (t := 6) rfl m_681 e_683 rfl (by unfold vp_in; decide) dX11_init_167 (fun f_687 hf_688 hk_689 => ?_)
  have hf_688 : f_687 q_118 = aR E 6 4 (va_up (va_up (va_up (fun _ => none) 0 (some q_517)) 1 (some q_573)) 2 (some q_633)) := hf_688
  have e_692 := (hk_689 h (ne_kd e_675.2 e_677.2 rfl)).trans e_675.2
  have e_693 := (hk_689 q_60 (ne_kd e_676.2 e_677.2 rfl)).trans e_676.2
  have e_694 := (hk_689 q_517 (ne_kd e_678.2 e_677.2 rfl)).trans e_678.2
  have e_695 := (hk_689 q_573 (ne_kd e_679.2 e_677.2 rfl)).trans e_679.2
  have e_696 := (hk_689 q_633 (ne_kd e_657 e_677.2 rfl)).trans e_657
  have hW_690 := hW_653.up hf_688 hk_689 t_674 True.intro
  have x_691 := EXT.put2 x_680 ni_130 hk_689
  refine v_iinc hC dX11_init_168 (k := 0) rfl (v := 3) (by decide) (by decide) (lv' := [(1, .int 3), (0, .ref h)]) rfl ?_
  refine v_goto hC dX11_init_171 (tgt := 150) (by decide) ?_
  refine v_iload_n hC dX11_init_150 rfl ?_
  refine v_iconst hC dX11_init_151 (v := 4) (by decide) ?_
  refine v_icmp_ge_f hC dX11_init_152 (tgt := 174) (by decide) (by decide) ?_
  refine v_aload_n hC dX11_init_155 rfl ?_
  refine v_get hC fl_X11_36 e_675.1 e_692 rfl dX11_init_156 ?_
  refine v_iload_n hC dX11_init_159 rfl ?_
  refine v_new hC (ci := 5) (fs := [.null, .int 0, .int 0]) rfl inX5 tyX5_ok kl_X11_34 in_X5 ii_X5 (fun j hj => by rcases (show j = 0 ∨ j = 1 ∨ j = 2 by omega) with rfl | rfl | rfl <;> rfl) (Nat.le_of_ble_eq_true rfl) (Nat.le_of_ble_eq_true rfl) dX11_init_160 (fun q_697 f_698 hq_699 hf_700 hk_701 => ?_)
  obtain ⟨T_702, hx_703, hW_704, m_705, t_706⟩ := nw_t FREE hW_690 hq_699 hf_700 hk_701 True.intro
  obtain ⟨L_707, hs_708⟩ : ∃ L9, L9 = L_648 ++ [q_697] := ⟨_, rfl⟩
  rw [← hs_708] at hx_703 hW_704 m_705 ⊢
  have ni_709 := EXT.nin x_691 e_675.1 hq_699
  refine v_widen (k := 64) (n := 5055) (Nat.le_of_ble_eq_true rfl) (Nat.le_of_ble_eq_true rfl) ?_
  have ne_710 : q_517 ≠ q_697 := ne_in e_678.1 hq_699
  have ne_711 : q_573 ≠ q_697 := ne_in e_679.1 hq_699
  have ne_712 : q_633 ≠ q_697 := ne_in k_654.1 hq_699
  refine v_dup hC dX11_init_163 rfl ?_
  refine v_xvN hC (rest := [.ref q_697, .int 3, .ref q_118]) rfl mi_X5_init (kt_X5 hW_704 m_705 t_706 hf_700) mx_X5_init mn_X11_96 (by decide) rfl (cells1 := 65) (slots1 := 5115) (by decide) (by decide) (Nat.le_of_ble_eq_true rfl) (Nat.le_of_ble_eq_true rfl) rfl (Nat.le_of_ble_eq_true rfl) dX11_init_164 (fun L_713 f_714 h_715 => ?_)
  obtain ⟨T_716, hy_717, hW_718, k_719, n_721, e_722⟩ := h_715
  have hx_720 := EX.ct hx_703 hq_699 hy_717
  have k_723 := k_658.mo (.inl rfl) hx_720.xt
  have k_724 := k_659.mo (.inl rfl) hx_720.xt
  have k_725 := k_660.mo (.inl rfl) hx_720.xt
  have k_726 := k_661.mo (.inl rfl) hx_720.xt
  have k_727 := k_662.mo (.inl rfl) hx_720.xt
  have k_728 := k_663.mo (.inl rfl) hx_720.xt
  have k_729 := k_664.mo (.inl rfl) hx_720.xt
  have k_730 := k_665.mo (.inl rfl) hx_720.xt
  have k_731 := k_666.mo (.inl rfl) hx_720.xt
  have k_732 := k_667.mo (.inl rfl) hx_720.xt
  have k_733 := k_668.mo (.inl rfl) hx_720.xt
  have k_734 := k_669.mo (.inl rfl) hx_720.xt
  have k_735 := k_670.mo (.inl rfl) hx_720.xt
  have k_736 := k_671.mo (.inl rfl) hx_720.xt
  have k_737 := k_654.mo (.inl rfl) hx_720.xt
  have t_738 := (hx_720 h e_675.1).2.1.trans t_672
  have t_739 := (hx_720 q_60 e_676.1).2.1.trans t_673
  have t_740 := (hx_720 q_118 e_677.1).2.1.trans t_674
  have e_741 := hx_720.at e_675.1 e_692
  have e_742 := hx_720.at e_676.1 e_693
  have e_743 := hx_720.at e_677.1 hf_688
  have e_744 := hx_720.at e_678.1 e_694
  have e_745 := hx_720.at e_679.1 e_695
  have e_746 := hx_720.at k_654.1 e_696
  have x_747 := EXT.al x_691 hx_720
  obtain ⟨m_748, q_751, t_749, -⟩ := id k_719
  obtain ⟨v_752, v_753, e_750, -, -⟩ := hW_718.at m_748 t_749
  refine v_aast hC (r := (RX5, TX5, 3)) e_743.1 e_743.2 (t := 6) rfl m_748 e_750 rfl (by unfold vp_in; decide) dX11_init_167 (fun f_754 hf_755 hk_756 => ?_)
  have hf_755 : f_754 q_118 = aR E 6 4 (va_up (va_up (va_up (va_up (fun _ => none) 0 (some q_517)) 1 (some q_573)) 2 (some q_633)) 3 (some q_697)) := hf_755
  have e_759 := (hk_756 h (ne_kd e_741.2 e_743.2 rfl)).trans e_741.2
  have e_760 := (hk_756 q_60 (ne_kd e_742.2 e_743.2 rfl)).trans e_742.2
  have e_761 := (hk_756 q_517 (ne_kd e_744.2 e_743.2 rfl)).trans e_744.2
  have e_762 := (hk_756 q_573 (ne_kd e_745.2 e_743.2 rfl)).trans e_745.2
  have e_763 := (hk_756 q_633 (ne_kd e_746.2 e_743.2 rfl)).trans e_746.2
  have e_764 := (hk_756 q_697 (ne_kd e_722 e_743.2 rfl)).trans e_722
  have hW_757 := hW_718.up hf_755 hk_756 t_740 True.intro
  have x_758 := EXT.put2 x_747 ni_130 hk_756
  refine v_iinc hC dX11_init_168 (k := 0) rfl (v := 4) (by decide) (by decide) (lv' := [(1, .int 4), (0, .ref h)]) rfl ?_
  refine v_goto hC dX11_init_171 (tgt := 150) (by decide) ?_
  refine v_iload_n hC dX11_init_150 rfl ?_
  refine v_iconst hC dX11_init_151 (v := 4) (by decide) ?_
  refine v_icmp_ge_t hC dX11_init_152 (tgt := 174) (by decide) (by decide) ?_
  have hz_765 : ∀ k : Nat, k < 4 → zsw f_754 h k = -1 := by
    intro k hk
    unfold zsw
    rcases (show k = 0 ∨ k = 1 ∨ k = 2 ∨ k = 3 by omega) with rfl | rfl | rfl | rfl
    · rw [(zso_eq (k := 0) f_754 h (by rw [e_759]; rfl) hf_755 rfl), e_761]; rfl
    · rw [(zso_eq (k := 1) f_754 h (by rw [e_759]; rfl) hf_755 rfl), e_762]; rfl
    · rw [(zso_eq (k := 2) f_754 h (by rw [e_759]; rfl) hf_755 rfl), e_763]; rfl
    · rw [(zso_eq (k := 3) f_754 h (by rw [e_759]; rfl) hf_755 rfl), e_764]; rfl
  have hz_766 : ∀ j k : Nat, j < 4 → k < 4 → zso f_754 h j = zso f_754 h k → j = k := inj4 (zso_eq (k := 0) f_754 h (by rw [e_759]; rfl) hf_755 rfl) (zso_eq (k := 1) f_754 h (by rw [e_759]; rfl) hf_755 rfl) (zso_eq (k := 2) f_754 h (by rw [e_759]; rfl) hf_755 rfl) (zso_eq (k := 3) f_754 h (by rw [e_759]; rfl) hf_755 rfl) ne_586 ne_646 ne_710 ne_647 ne_711 ne_712
  obtain ⟨T_768, xt_769, hW_770, ta_771, tb_772⟩ := ty_ch (tR E 4 3 (fun _ => none)) hW_757 (fr_sh t_739) e_760 rfl
  have k_773 := k_723.mo (.inl rfl) xt_769
  have k_774 := k_724.mo (.inl rfl) xt_769
  have k_775 := k_725.mo (.inl rfl) xt_769
  have k_776 := k_726.mo (.inl rfl) xt_769
  have k_777 := k_727.mo (.inl rfl) xt_769
  have k_778 := k_728.mo (.inl rfl) xt_769
  have k_779 := k_729.mo (.inl rfl) xt_769
  have k_780 := k_730.mo (.inl rfl) xt_769
  have k_781 := k_731.mo (.inl rfl) xt_769
  have k_782 := k_732.mo (.inl rfl) xt_769
  have k_783 := k_733.mo (.inl rfl) xt_769
  have k_784 := k_734.mo (.inl rfl) xt_769
  have k_785 := k_735.mo (.inl rfl) xt_769
  have k_786 := k_736.mo (.inl rfl) xt_769
  have k_787 := k_737.mo (.inl rfl) xt_769
  have k_788 := k_719.mo (.inl rfl) xt_769
  have t_789 := (tb_772 h (ne_kd e_759 e_760 rfl)).trans t_738
  have t_790 := (tb_772 q_118 (ne_kd hf_755 e_760 rfl)).trans t_740
  have x_791 := EXT.ty x_758 (.inr ni_72) tb_772
  have k_792 : isRImg T_768 L_713 E q_60 := ⟨e_742.1, (fun _ => none), ta_771, (fun _ _ => .inl rfl)⟩
  obtain ⟨T_793, xt_794, hW_795, ta_796, tb_797⟩ := ty_ch (tR E 6 4 (va_up (va_up (va_up (va_up (fun _ => none) 0 (some q_517)) 1 (some q_573)) 2 (some q_633)) 3 (some q_697))) hW_770 (fr_sh t_790) hf_755 rfl
  have k_798 := k_773.mo (.inl rfl) xt_794
  have k_799 := k_774.mo (.inl rfl) xt_794
  have k_800 := k_775.mo (.inl rfl) xt_794
  have k_801 := k_776.mo (.inl rfl) xt_794
  have k_802 := k_777.mo (.inl rfl) xt_794
  have k_803 := k_778.mo (.inl rfl) xt_794
  have k_804 := k_779.mo (.inl rfl) xt_794
  have k_805 := k_780.mo (.inl rfl) xt_794
  have k_806 := k_781.mo (.inl rfl) xt_794
  have k_807 := k_782.mo (.inl rfl) xt_794
  have k_808 := k_783.mo (.inl rfl) xt_794
  have k_809 := k_784.mo (.inl rfl) xt_794
  have k_810 := k_785.mo (.inl rfl) xt_794
  have k_811 := k_786.mo (.inl rfl) xt_794
  have k_812 := k_787.mo (.inl rfl) xt_794
  have k_813 := k_788.mo (.inl rfl) xt_794
  have k_814 := k_792.mo rfl xt_794
  have t_815 := (tb_797 h (ne_kd e_759 hf_755 rfl)).trans t_789
  have x_816 := EXT.ty x_791 (.inr ni_130) tb_797
  have k_817 : isRSlot T_793 L_713 E q_118 := ⟨e_743.1, (va_up (va_up (va_up (va_up (fun _ => none) 0 (some q_517)) 1 (some q_573)) 2 (some q_633)) 3 (some q_697)), ta_796, (fun j hj => by rcases (show j = 0 ∨ j = 1 ∨ j = 2 ∨ j = 3 by omega) with rfl | rfl | rfl | rfl; exact ⟨q_517, rfl, k_810⟩; exact ⟨q_573, rfl, k_811⟩; exact ⟨q_633, rfl, k_812⟩; exact ⟨q_697, rfl, k_813⟩)⟩
  obtain ⟨T_818, xt_819, hW_820, ta_821, tb_822⟩ := ty_ch (tX q_1 q_30 q_60 q_84 q_118 q_146 q_184 q_216 q_256 q_297 q_339 q_382 q_426 q_471) hW_795 (fr_sh t_815) e_759 rfl
  have k_823 := k_798.mo (.inl rfl) xt_819
  have k_824 := k_799.mo (.inl rfl) xt_819
  have k_825 := k_800.mo (.inl rfl) xt_819
  have k_826 := k_801.mo (.inl rfl) xt_819
  have k_827 := k_802.mo (.inl rfl) xt_819
  have k_828 := k_803.mo (.inl rfl) xt_819
  have k_829 := k_804.mo (.inl rfl) xt_819
  have k_830 := k_805.mo (.inl rfl) xt_819
  have k_831 := k_806.mo (.inl rfl) xt_819
  have k_832 := k_807.mo (.inl rfl) xt_819
  have k_833 := k_808.mo (.inl rfl) xt_819
  have k_834 := k_809.mo (.inl rfl) xt_819
  have k_835 := k_814.mo rfl xt_819
  have k_836 := k_817.mo (.inl rfl) xt_819
  have x_837 := EXT.ty x_816 (.inl rfl) tb_822
  exact hR _ _ _ _ _ _ dX11_init_174 (Nat.le_of_ble_eq_true rfl) (Nat.le_of_ble_eq_true rfl) ⟨T_818, x_837, hW_820, ⟨e_741.1, q_1, q_30, q_60, q_84, q_118, q_146, q_184, q_216, q_256, q_297, q_339, q_382, q_426, q_471, ta_821, k_823, k_824, k_835, k_825, k_836, k_826, k_827, k_828, k_829, k_830, k_831, k_832, k_833, k_834⟩, hz_765, hz_766⟩
set_option maxRecDepth 100000 in
set_option maxHeartbeats 4000000 in
theorem kt_X12 {l : Launch} {E : Ez} {L : List Nat} {f : Nat → va_E} {T : Nat → va_E → Prop} {h : Nat} (hW : WT T L f) (m_h : h ∈ L) (t_h : T h = FREE) (e_h : f h = ob 12 [.int 0, .null, .null, .null, .null, .int 0, .null, .int 0, .int 0, .int 0, .int 0, .int 0, .int 0, .int 0, .null, .null, .null, .int 0, .null, .null, .int 0, .null, .null, .null, .null, .null, .null, .null, .null]) : CV l yX12_init cX12_init 1 1 18 13128 E [.ref h] L f (fun L1 f1 => ∃ T1, EXT h T L f T1 L1 f1 ∧ WT T1 L1 f1 ∧ ∃ q, isM T1 L1 E h q ∧ ∀ k : Nat, k < 4 → zmn f1 h k = -1) := by
  refine cv_of (by decide) (Nat.le_of_ble_eq_true rfl) (fun z hz hnm hC hR => ?_)
  have hC : Cx z E cX12_init RX12 1 1 18 13128 := hC
  subst hz
  show V z E 1 0 0 L f 0 [(0, .ref h)] []
  have x_0 : EXT h T L f T L f := EXT.rf
  refine v_aload_n hC dX12_init_0 rfl ?_
  refine v_objinit hC mo_X12_7 mo_i mo_c (by decide) dX12_init_1 ?_
  refine v_aload_n hC dX12_init_4 rfl ?_
  refine v_sipush hC dX12_init_5 (v := 2076) (by decide) ?_
  refine v_newaG hC (t := 1) (ty := .int) (N' := 2076) (a0 := (2076, .inl (fun _ => 0))) rfl ac_int rfl (fun _ => rfl) (by decide) (by decide) (by decide) (Nat.le_of_ble_eq_true rfl) (Nat.le_of_ble_eq_true rfl) dX12_init_8 (fun q_1 f_2 hq_3 hf_4 hk_5 => ?_)
  obtain ⟨T_6, hx_7, hW_8, m_9, t_10⟩ := nw_t (tC E 2076 WOK) hW hq_3 hf_4 hk_5 ⟨_, rfl, WOK.zero⟩
  obtain ⟨L_11, hs_12⟩ : ∃ L9, L9 = L ++ [q_1] := ⟨_, rfl⟩
  rw [← hs_12] at hx_7 hW_8 m_9 ⊢
  have ni_13 := EXT.nin x_0 m_h hq_3
  refine v_widen (k := 1) (n := 2076) (Nat.le_of_ble_eq_true rfl) (Nat.le_of_ble_eq_true rfl) ?_
  have t_14 := (hx_7 h m_h).2.1.trans t_h
  have e_15 := hx_7.at m_h e_h
  have x_16 := EXT.al x_0 hx_7
  have k_17 : isC T_6 L_11 E 2076 WOK q_1 := ⟨m_9, t_10⟩
  refine v_putF hC (by rw [hnm]; rfl) fl_X12_13 e_15.1 e_15.2 rfl rfl (Nat.le_of_ble_eq_true rfl) (fs' := [.int 0, .ref q_1, .null, .null, .null, .int 0, .null, .int 0, .int 0, .int 0, .int 0, .int 0, .int 0, .int 0, .null, .null, .null, .int 0, .null, .null, .int 0, .null, .null, .null, .null, .null, .null, .null, .null]) rfl dX12_init_10 (fun f_18 hf_19 hk_20 => ?_)
  have hW_21 := hW_8.up hf_19 hk_20 t_14 True.intro
  have x_22 := EXT.put x_16 hk_20
  refine v_aload_n hC dX12_init_13 rfl ?_
  refine v_sipush hC dX12_init_14 (v := 6228) (by decide) ?_
  refine v_newaG hC (t := 1) (ty := .int) (N' := 6228) (a0 := (6228, .inl (fun _ => 0))) rfl ac_int rfl (fun _ => rfl) (by decide) (by decide) (by decide) (Nat.le_of_ble_eq_true rfl) (Nat.le_of_ble_eq_true rfl) dX12_init_17 (fun q_23 f_24 hq_25 hf_26 hk_27 => ?_)
  obtain ⟨T_28, hx_29, hW_30, m_31, t_32⟩ := nw_t (tC E 6228 IOK) hW_21 hq_25 hf_26 hk_27 ⟨_, rfl, (fun _ _ => WOK.zero)⟩
  obtain ⟨L_33, hs_34⟩ : ∃ L9, L9 = L_11 ++ [q_23] := ⟨_, rfl⟩
  rw [← hs_34] at hx_29 hW_30 m_31 ⊢
  have ni_35 := EXT.nin x_22 e_15.1 hq_25
  refine v_widen (k := 2) (n := 8304) (Nat.le_of_ble_eq_true rfl) (Nat.le_of_ble_eq_true rfl) ?_
  have k_36 := k_17.mo (.inl rfl) hx_29.xt
  have t_37 := (hx_29 h e_15.1).2.1.trans t_14
  have e_38 := hx_29.at e_15.1 hf_19
  have x_39 := EXT.al x_22 hx_29
  have k_40 : isC T_28 L_33 E 6228 IOK q_23 := ⟨m_31, t_32⟩
  refine v_putF hC (by rw [hnm]; rfl) fl_X12_17 e_38.1 e_38.2 rfl rfl (Nat.le_of_ble_eq_true rfl) (fs' := [.int 0, .ref q_1, .ref q_23, .null, .null, .int 0, .null, .int 0, .int 0, .int 0, .int 0, .int 0, .int 0, .int 0, .null, .null, .null, .int 0, .null, .null, .int 0, .null, .null, .null, .null, .null, .null, .null, .null]) rfl dX12_init_19 (fun f_41 hf_42 hk_43 => ?_)
  have hW_44 := hW_30.up hf_42 hk_43 t_37 True.intro
  have x_45 := EXT.put x_39 hk_43
  refine v_aload_n hC dX12_init_22 rfl ?_
  refine v_iconst hC dX12_init_23 (v := 3) (by decide) ?_
  refine v_newaG hC (t := 3) (ty := .boolean) (N' := 3) (a0 := (3, .inl (fun _ => 0))) rfl ac_boolean rfl (fun _ => rfl) (by decide) (by decide) (by decide) (Nat.le_of_ble_eq_true rfl) (Nat.le_of_ble_eq_true rfl) dX12_init_24 (fun q_46 f_47 hq_48 hf_49 hk_50 => ?_)
  obtain ⟨T_51, hx_52, hW_53, m_54, t_55⟩ := nw_t (tZ E 3) hW_44 hq_48 hf_49 hk_50 ⟨_, rfl⟩
  obtain ⟨L_56, hs_57⟩ : ∃ L9, L9 = L_33 ++ [q_46] := ⟨_, rfl⟩
  rw [← hs_57] at hx_52 hW_53 m_54 ⊢
  have ni_58 := EXT.nin x_45 e_38.1 hq_48
  refine v_widen (k := 3) (n := 8307) (Nat.le_of_ble_eq_true rfl) (Nat.le_of_ble_eq_true rfl) ?_
  have k_59 := k_36.mo (.inl rfl) hx_52.xt
  have k_60 := k_40.mo (.inl rfl) hx_52.xt
  have t_61 := (hx_52 h e_38.1).2.1.trans t_37
  have e_62 := hx_52.at e_38.1 hf_42
  have x_63 := EXT.al x_45 hx_52
  have k_64 : isZ T_51 L_56 E 3 q_46 := ⟨m_54, t_55⟩
  refine v_putF hC (by rw [hnm]; rfl) fl_X12_20 e_62.1 e_62.2 rfl rfl (Nat.le_of_ble_eq_true rfl) (fs' := [.int 0, .ref q_1, .ref q_23, .ref q_46, .null, .int 0, .null, .int 0, .int 0, .int 0, .int 0, .int 0, .int 0, .int 0, .null, .null, .null, .int 0, .null, .null, .int 0, .null, .null, .null, .null, .null, .null, .null, .null]) rfl dX12_init_26 (fun f_65 hf_66 hk_67 => ?_)
  have hW_68 := hW_53.up hf_66 hk_67 t_61 True.intro
  have x_69 := EXT.put x_63 hk_67
  refine v_aload_n hC dX12_init_29 rfl ?_
  refine v_sipush hC dX12_init_30 (v := 600) (by decide) ?_
  refine v_newaG hC (t := 0) (ty := .byte) (N' := 600) (a0 := (600, .inl (fun _ => 0))) rfl ac_byte rfl (fun _ => rfl) (by decide) (by decide) (by decide) (Nat.le_of_ble_eq_true rfl) (Nat.le_of_ble_eq_true rfl) dX12_init_33 (fun q_70 f_71 hq_72 hf_73 hk_74 => ?_)
  obtain ⟨T_75, hx_76, hW_77, m_78, t_79⟩ := nw_t (tB E 600) hW_68 hq_72 hf_73 hk_74 ⟨_, rfl, fun _ => rfl⟩
  obtain ⟨L_80, hs_81⟩ : ∃ L9, L9 = L_56 ++ [q_70] := ⟨_, rfl⟩
  rw [← hs_81] at hx_76 hW_77 m_78 ⊢
  have ni_82 := EXT.nin x_69 e_62.1 hq_72
  refine v_widen (k := 4) (n := 8907) (Nat.le_of_ble_eq_true rfl) (Nat.le_of_ble_eq_true rfl) ?_
  have k_83 := k_59.mo (.inl rfl) hx_76.xt
  have k_84 := k_60.mo (.inl rfl) hx_76.xt
  have k_85 := k_64.mo (.inl rfl) hx_76.xt
  have t_86 := (hx_76 h e_62.1).2.1.trans t_61
  have e_87 := hx_76.at e_62.1 hf_66
  have x_88 := EXT.al x_69 hx_76
  have k_89 : isB T_75 L_80 E 600 q_70 := ⟨m_78, t_79⟩
  refine v_putF hC (by rw [hnm]; rfl) fl_X12_24 e_87.1 e_87.2 rfl rfl (Nat.le_of_ble_eq_true rfl) (fs' := [.int 0, .ref q_1, .ref q_23, .ref q_46, .ref q_70, .int 0, .null, .int 0, .int 0, .int 0, .int 0, .int 0, .int 0, .int 0, .null, .null, .null, .int 0, .null, .null, .int 0, .null, .null, .null, .null, .null, .null, .null, .null]) rfl dX12_init_35 (fun f_90 hf_91 hk_92 => ?_)
  have hW_93 := hW_77.up hf_91 hk_92 t_86 True.intro
  have x_94 := EXT.put x_88 hk_92
  refine v_aload_n hC dX12_init_38 rfl ?_
  refine v_iconst hC dX12_init_39 (v := 5) (by decide) ?_
  refine v_newaG hC (t := 1) (ty := .int) (N' := 5) (a0 := (5, .inl (fun _ => 0))) rfl ac_int rfl (fun _ => rfl) (by decide) (by decide) (by decide) (Nat.le_of_ble_eq_true rfl) (Nat.le_of_ble_eq_true rfl) dX12_init_40 (fun q_95 f_96 hq_97 hf_98 hk_99 => ?_)
  obtain ⟨T_100, hx_101, hW_102, m_103, t_104⟩ := nw_t (tI E 5) hW_93 hq_97 hf_98 hk_99 ⟨_, rfl⟩
  obtain ⟨L_105, hs_106⟩ : ∃ L9, L9 = L_80 ++ [q_95] := ⟨_, rfl⟩
  rw [← hs_106] at hx_101 hW_102 m_103 ⊢
  have ni_107 := EXT.nin x_94 e_87.1 hq_97
  refine v_widen (k := 5) (n := 8912) (Nat.le_of_ble_eq_true rfl) (Nat.le_of_ble_eq_true rfl) ?_
  have k_108 := k_83.mo (.inl rfl) hx_101.xt
  have k_109 := k_84.mo (.inl rfl) hx_101.xt
  have k_110 := k_85.mo (.inl rfl) hx_101.xt
  have k_111 := k_89.mo (.inl rfl) hx_101.xt
  have t_112 := (hx_101 h e_87.1).2.1.trans t_86
  have e_113 := hx_101.at e_87.1 hf_91
  have x_114 := EXT.al x_94 hx_101
  have k_115 : isI T_100 L_105 E 5 q_95 := ⟨m_103, t_104⟩
  refine v_putF hC (by rw [hnm]; rfl) fl_X12_28 e_113.1 e_113.2 rfl rfl (Nat.le_of_ble_eq_true rfl) (fs' := [.int 0, .ref q_1, .ref q_23, .ref q_46, .ref q_70, .int 0, .ref q_95, .int 0, .int 0, .int 0, .int 0, .int 0, .int 0, .int 0, .null, .null, .null, .int 0, .null, .null, .int 0, .null, .null, .null, .null, .null, .null, .null, .null]) rfl dX12_init_42 (fun f_116 hf_117 hk_118 => ?_)
  have hW_119 := hW_102.up hf_117 hk_118 t_112 True.intro
  have x_120 := EXT.put x_114 hk_118
  refine v_aload_n hC dX12_init_45 rfl ?_
  refine v_iconst hC dX12_init_46 (v := (-1)) (by decide) ?_
  refine v_put hC fl_X12_31 e_113.1 hf_117 rfl rfl (Nat.le_of_ble_eq_true rfl) (fs' := [.int 0, .ref q_1, .ref q_23, .ref q_46, .ref q_70, .int 0, .ref q_95, .int 0, .int 0, .int 0, .int 0, .int 0, .int 0, .int (-1), .null, .null, .null, .int 0, .null, .null, .int 0, .null, .null, .null, .null, .null, .null, .null, .null]) rfl dX12_init_47 (fun f_121 hf_122 hk_123 => ?_)
  have hW_124 := hW_119.up hf_122 hk_123 t_112 True.intro
  have x_125 := EXT.put x_120 hk_123
  refine v_aload_n hC dX12_init_50 rfl ?_
  refine v_sipush hC dX12_init_51 (v := 2076) (by decide) ?_
  refine v_newaG hC (t := 1) (ty := .int) (N' := 2076) (a0 := (2076, .inl (fun _ => 0))) rfl ac_int rfl (fun _ => rfl) (by decide) (by decide) (by decide) (Nat.le_of_ble_eq_true rfl) (Nat.le_of_ble_eq_true rfl) dX12_init_54 (fun q_126 f_127 hq_128 hf_129 hk_130 => ?_)
  have nq_131 := ne_in k_108.1 hq_128
  obtain ⟨T_132, hx_133, hW_134, m_135, t_136⟩ := nw_t (tC E 2076 FOK) hW_124 hq_128 hf_129 hk_130 ⟨_, rfl, FOK.zero⟩
  obtain ⟨L_137, hs_138⟩ : ∃ L9, L9 = L_105 ++ [q_126] := ⟨_, rfl⟩
  rw [← hs_138] at hx_133 hW_134 m_135 ⊢
  have ni_139 := EXT.nin x_125 e_113.1 hq_128
  refine v_widen (k := 6) (n := 10988) (Nat.le_of_ble_eq_true rfl) (Nat.le_of_ble_eq_true rfl) ?_
  have k_140 := k_108.mo (.inl rfl) hx_133.xt
  have k_141 := k_109.mo (.inl rfl) hx_133.xt
  have k_142 := k_110.mo (.inl rfl) hx_133.xt
  have k_143 := k_111.mo (.inl rfl) hx_133.xt
  have k_144 := k_115.mo (.inl rfl) hx_133.xt
  have t_145 := (hx_133 h e_113.1).2.1.trans t_112
  have e_146 := hx_133.at e_113.1 hf_122
  have x_147 := EXT.al x_125 hx_133
  have k_148 : isC T_132 L_137 E 2076 FOK q_126 := ⟨m_135, t_136⟩
  refine v_putF hC (by rw [hnm]; rfl) fl_X12_34 e_146.1 e_146.2 rfl rfl (Nat.le_of_ble_eq_true rfl) (fs' := [.int 0, .ref q_1, .ref q_23, .ref q_46, .ref q_70, .int 0, .ref q_95, .int 0, .int 0, .int 0, .int 0, .int 0, .int 0, .int (-1), .ref q_126, .null, .null, .int 0, .null, .null, .int 0, .null, .null, .null, .null, .null, .null, .null, .null]) rfl dX12_init_56 (fun f_149 hf_150 hk_151 => ?_)
  have hW_152 := hW_134.up hf_150 hk_151 t_145 True.intro
  have x_153 := EXT.put x_147 hk_151
  refine v_aload_n hC dX12_init_59 rfl ?_
  refine v_sipush hC dX12_init_60 (v := 256) (by decide) ?_
  refine v_newaG hC (t := 1) (ty := .int) (N' := 256) (a0 := (256, .inl (fun _ => 0))) rfl ac_int rfl (fun _ => rfl) (by decide) (by decide) (by decide) (Nat.le_of_ble_eq_true rfl) (Nat.le_of_ble_eq_true rfl) dX12_init_63 (fun q_154 f_155 hq_156 hf_157 hk_158 => ?_)
  obtain ⟨T_159, hx_160, hW_161, m_162, t_163⟩ := nw_t (tI E 256) hW_152 hq_156 hf_157 hk_158 ⟨_, rfl⟩
  obtain ⟨L_164, hs_165⟩ : ∃ L9, L9 = L_137 ++ [q_154] := ⟨_, rfl⟩
  rw [← hs_165] at hx_160 hW_161 m_162 ⊢
  have ni_166 := EXT.nin x_153 e_146.1 hq_156
  refine v_widen (k := 7) (n := 11244) (Nat.le_of_ble_eq_true rfl) (Nat.le_of_ble_eq_true rfl) ?_
  have k_167 := k_140.mo (.inl rfl) hx_160.xt
  have k_168 := k_141.mo (.inl rfl) hx_160.xt
  have k_169 := k_142.mo (.inl rfl) hx_160.xt
  have k_170 := k_143.mo (.inl rfl) hx_160.xt
  have k_171 := k_144.mo (.inl rfl) hx_160.xt
  have k_172 := k_148.mo (.inl rfl) hx_160.xt
  have t_173 := (hx_160 h e_146.1).2.1.trans t_145
  have e_174 := hx_160.at e_146.1 hf_150
  have x_175 := EXT.al x_153 hx_160
  have k_176 : isI T_159 L_164 E 256 q_154 := ⟨m_162, t_163⟩
  refine v_putF hC (by rw [hnm]; rfl) fl_X12_37 e_174.1 e_174.2 rfl rfl (Nat.le_of_ble_eq_true rfl) (fs' := [.int 0, .ref q_1, .ref q_23, .ref q_46, .ref q_70, .int 0, .ref q_95, .int 0, .int 0, .int 0, .int 0, .int 0, .int 0, .int (-1), .ref q_126, .ref q_154, .null, .int 0, .null, .null, .int 0, .null, .null, .null, .null, .null, .null, .null, .null]) rfl dX12_init_65 (fun f_177 hf_178 hk_179 => ?_)
  have hW_180 := hW_161.up hf_178 hk_179 t_173 True.intro
  have x_181 := EXT.put x_175 hk_179
  refine v_aload_n hC dX12_init_68 rfl ?_
  refine v_sipush hC dX12_init_69 (v := 256) (by decide) ?_
  refine v_newaG hC (t := 1) (ty := .int) (N' := 256) (a0 := (256, .inl (fun _ => 0))) rfl ac_int rfl (fun _ => rfl) (by decide) (by decide) (by decide) (Nat.le_of_ble_eq_true rfl) (Nat.le_of_ble_eq_true rfl) dX12_init_72 (fun q_182 f_183 hq_184 hf_185 hk_186 => ?_)
  obtain ⟨T_187, hx_188, hW_189, m_190, t_191⟩ := nw_t (tC E 256 POK) hW_180 hq_184 hf_185 hk_186 ⟨_, rfl, (fun _ => (by decide : 0 ≤ (0 : Int32).toInt ∧ (0 : Int32).toInt ≤ 255))⟩
  obtain ⟨L_192, hs_193⟩ : ∃ L9, L9 = L_164 ++ [q_182] := ⟨_, rfl⟩
  rw [← hs_193] at hx_188 hW_189 m_190 ⊢
  have ni_194 := EXT.nin x_181 e_174.1 hq_184
  refine v_widen (k := 8) (n := 11500) (Nat.le_of_ble_eq_true rfl) (Nat.le_of_ble_eq_true rfl) ?_
  have k_195 := k_167.mo (.inl rfl) hx_188.xt
  have k_196 := k_168.mo (.inl rfl) hx_188.xt
  have k_197 := k_169.mo (.inl rfl) hx_188.xt
  have k_198 := k_170.mo (.inl rfl) hx_188.xt
  have k_199 := k_171.mo (.inl rfl) hx_188.xt
  have k_200 := k_172.mo (.inl rfl) hx_188.xt
  have k_201 := k_176.mo (.inl rfl) hx_188.xt
  have t_202 := (hx_188 h e_174.1).2.1.trans t_173
  have e_203 := hx_188.at e_174.1 hf_178
  have x_204 := EXT.al x_181 hx_188
  have k_205 : isC T_187 L_192 E 256 POK q_182 := ⟨m_190, t_191⟩
  refine v_putF hC (by rw [hnm]; rfl) fl_X12_40 e_203.1 e_203.2 rfl rfl (Nat.le_of_ble_eq_true rfl) (fs' := [.int 0, .ref q_1, .ref q_23, .ref q_46, .ref q_70, .int 0, .ref q_95, .int 0, .int 0, .int 0, .int 0, .int 0, .int 0, .int (-1), .ref q_126, .ref q_154, .ref q_182, .int 0, .null, .null, .int 0, .null, .null, .null, .null, .null, .null, .null, .null]) rfl dX12_init_74 (fun f_206 hf_207 hk_208 => ?_)
  have hW_209 := hW_189.up hf_207 hk_208 t_202 True.intro
  have x_210 := EXT.put x_204 hk_208
  refine v_aload_n hC dX12_init_77 rfl ?_
  refine v_sipush hC dX12_init_78 (v := 600) (by decide) ?_
  refine v_newaG hC (t := 1) (ty := .int) (N' := 600) (a0 := (600, .inl (fun _ => 0))) rfl ac_int rfl (fun _ => rfl) (by decide) (by decide) (by decide) (Nat.le_of_ble_eq_true rfl) (Nat.le_of_ble_eq_true rfl) dX12_init_81 (fun q_211 f_212 hq_213 hf_214 hk_215 => ?_)
  obtain ⟨T_216, hx_217, hW_218, m_219, t_220⟩ := nw_t (tI E 600) hW_209 hq_213 hf_214 hk_215 ⟨_, rfl⟩
  obtain ⟨L_221, hs_222⟩ : ∃ L9, L9 = L_192 ++ [q_211] := ⟨_, rfl⟩
  rw [← hs_222] at hx_217 hW_218 m_219 ⊢
  have ni_223 := EXT.nin x_210 e_203.1 hq_213
  refine v_widen (k := 9) (n := 12100) (Nat.le_of_ble_eq_true rfl) (Nat.le_of_ble_eq_true rfl) ?_
  have k_224 := k_195.mo (.inl rfl) hx_217.xt
  have k_225 := k_196.mo (.inl rfl) hx_217.xt
  have k_226 := k_197.mo (.inl rfl) hx_217.xt
  have k_227 := k_198.mo (.inl rfl) hx_217.xt
  have k_228 := k_199.mo (.inl rfl) hx_217.xt
  have k_229 := k_200.mo (.inl rfl) hx_217.xt
  have k_230 := k_201.mo (.inl rfl) hx_217.xt
  have k_231 := k_205.mo (.inl rfl) hx_217.xt
  have t_232 := (hx_217 h e_203.1).2.1.trans t_202
  have e_233 := hx_217.at e_203.1 hf_207
  have x_234 := EXT.al x_210 hx_217
  have k_235 : isI T_216 L_221 E 600 q_211 := ⟨m_219, t_220⟩
  refine v_putF hC (by rw [hnm]; rfl) fl_X12_43 e_233.1 e_233.2 rfl rfl (Nat.le_of_ble_eq_true rfl) (fs' := [.int 0, .ref q_1, .ref q_23, .ref q_46, .ref q_70, .int 0, .ref q_95, .int 0, .int 0, .int 0, .int 0, .int 0, .int 0, .int (-1), .ref q_126, .ref q_154, .ref q_182, .int 0, .ref q_211, .null, .int 0, .null, .null, .null, .null, .null, .null, .null, .null]) rfl dX12_init_83 (fun f_236 hf_237 hk_238 => ?_)
  have hW_239 := hW_218.up hf_237 hk_238 t_232 True.intro
  have x_240 := EXT.put x_234 hk_238
  refine v_aload_n hC dX12_init_86 rfl ?_
  refine v_bipush hC dX12_init_87 (v := 100) (by decide) ?_
  refine v_newaG hC (t := 1) (ty := .int) (N' := 100) (a0 := (100, .inl (fun _ => 0))) rfl ac_int rfl (fun _ => rfl) (by decide) (by decide) (by decide) (Nat.le_of_ble_eq_true rfl) (Nat.le_of_ble_eq_true rfl) dX12_init_89 (fun q_241 f_242 hq_243 hf_244 hk_245 => ?_)
  obtain ⟨T_246, hx_247, hW_248, m_249, t_250⟩ := nw_t (tI E 100) hW_239 hq_243 hf_244 hk_245 ⟨_, rfl⟩
  obtain ⟨L_251, hs_252⟩ : ∃ L9, L9 = L_221 ++ [q_241] := ⟨_, rfl⟩
  rw [← hs_252] at hx_247 hW_248 m_249 ⊢
  have ni_253 := EXT.nin x_240 e_233.1 hq_243
  refine v_widen (k := 10) (n := 12200) (Nat.le_of_ble_eq_true rfl) (Nat.le_of_ble_eq_true rfl) ?_
  have k_254 := k_224.mo (.inl rfl) hx_247.xt
  have k_255 := k_225.mo (.inl rfl) hx_247.xt
  have k_256 := k_226.mo (.inl rfl) hx_247.xt
  have k_257 := k_227.mo (.inl rfl) hx_247.xt
  have k_258 := k_228.mo (.inl rfl) hx_247.xt
  have k_259 := k_229.mo (.inl rfl) hx_247.xt
  have k_260 := k_230.mo (.inl rfl) hx_247.xt
  have k_261 := k_231.mo (.inl rfl) hx_247.xt
  have k_262 := k_235.mo (.inl rfl) hx_247.xt
  have t_263 := (hx_247 h e_233.1).2.1.trans t_232
  have e_264 := hx_247.at e_233.1 hf_237
  have x_265 := EXT.al x_240 hx_247
  have k_266 : isI T_246 L_251 E 100 q_241 := ⟨m_249, t_250⟩
  refine v_putF hC (by rw [hnm]; rfl) fl_X12_46 e_264.1 e_264.2 rfl rfl (Nat.le_of_ble_eq_true rfl) (fs' := [.int 0, .ref q_1, .ref q_23, .ref q_46, .ref q_70, .int 0, .ref q_95, .int 0, .int 0, .int 0, .int 0, .int 0, .int 0, .int (-1), .ref q_126, .ref q_154, .ref q_182, .int 0, .ref q_211, .ref q_241, .int 0, .null, .null, .null, .null, .null, .null, .null, .null]) rfl dX12_init_91 (fun f_267 hf_268 hk_269 => ?_)
  have hW_270 := hW_248.up hf_268 hk_269 t_263 True.intro
  have x_271 := EXT.put x_265 hk_269
  refine v_aload_n hC dX12_init_94 rfl ?_
  refine v_iconst hC dX12_init_95 (v := (-1)) (by decide) ?_
  refine v_put hC fl_X12_49 e_264.1 hf_268 rfl rfl (Nat.le_of_ble_eq_true rfl) (fs' := [.int 0, .ref q_1, .ref q_23, .ref q_46, .ref q_70, .int 0, .ref q_95, .int 0, .int 0, .int 0, .int 0, .int 0, .int 0, .int (-1), .ref q_126, .ref q_154, .ref q_182, .int 0, .ref q_211, .ref q_241, .int (-1), .null, .null, .null, .null, .null, .null, .null, .null]) rfl dX12_init_96 (fun f_272 hf_273 hk_274 => ?_)
  have hW_275 := hW_270.up hf_273 hk_274 t_263 True.intro
  have x_276 := EXT.put x_271 hk_274
  refine v_aload_n hC dX12_init_99 rfl ?_
  refine v_bipush hC dX12_init_100 (v := 100) (by decide) ?_
  refine v_newaG hC (t := 1) (ty := .int) (N' := 100) (a0 := (100, .inl (fun _ => 0))) rfl ac_int rfl (fun _ => rfl) (by decide) (by decide) (by decide) (Nat.le_of_ble_eq_true rfl) (Nat.le_of_ble_eq_true rfl) dX12_init_102 (fun q_277 f_278 hq_279 hf_280 hk_281 => ?_)
  obtain ⟨T_282, hx_283, hW_284, m_285, t_286⟩ := nw_t (tI E 100) hW_275 hq_279 hf_280 hk_281 ⟨_, rfl⟩
  obtain ⟨L_287, hs_288⟩ : ∃ L9, L9 = L_251 ++ [q_277] := ⟨_, rfl⟩
  rw [← hs_288] at hx_283 hW_284 m_285 ⊢
  have ni_289 := EXT.nin x_276 e_264.1 hq_279
  refine v_widen (k := 11) (n := 12300) (Nat.le_of_ble_eq_true rfl) (Nat.le_of_ble_eq_true rfl) ?_
  have k_290 := k_254.mo (.inl rfl) hx_283.xt
  have k_291 := k_255.mo (.inl rfl) hx_283.xt
  have k_292 := k_256.mo (.inl rfl) hx_283.xt
  have k_293 := k_257.mo (.inl rfl) hx_283.xt
  have k_294 := k_258.mo (.inl rfl) hx_283.xt
  have k_295 := k_259.mo (.inl rfl) hx_283.xt
  have k_296 := k_260.mo (.inl rfl) hx_283.xt
  have k_297 := k_261.mo (.inl rfl) hx_283.xt
  have k_298 := k_262.mo (.inl rfl) hx_283.xt
  have k_299 := k_266.mo (.inl rfl) hx_283.xt
  have t_300 := (hx_283 h e_264.1).2.1.trans t_263
  have e_301 := hx_283.at e_264.1 hf_273
  have x_302 := EXT.al x_276 hx_283
  have k_303 : isI T_282 L_287 E 100 q_277 := ⟨m_285, t_286⟩
  refine v_putF hC (by rw [hnm]; rfl) fl_X12_52 e_301.1 e_301.2 rfl rfl (Nat.le_of_ble_eq_true rfl) (fs' := [.int 0, .ref q_1, .ref q_23, .ref q_46, .ref q_70, .int 0, .ref q_95, .int 0, .int 0, .int 0, .int 0, .int 0, .int 0, .int (-1), .ref q_126, .ref q_154, .ref q_182, .int 0, .ref q_211, .ref q_241, .int (-1), .ref q_277, .null, .null, .null, .null, .null, .null, .null]) rfl dX12_init_104 (fun f_304 hf_305 hk_306 => ?_)
  have hW_307 := hW_284.up hf_305 hk_306 t_300 True.intro
  have x_308 := EXT.put x_302 hk_306
  refine v_aload_n hC dX12_init_107 rfl ?_
  refine v_bipush hC dX12_init_108 (v := 8) (by decide) ?_
  refine v_newaG hC (t := 1) (ty := .int) (N' := 8) (a0 := (8, .inl (fun _ => 0))) rfl ac_int rfl (fun _ => rfl) (by decide) (by decide) (by decide) (Nat.le_of_ble_eq_true rfl) (Nat.le_of_ble_eq_true rfl) dX12_init_110 (fun q_309 f_310 hq_311 hf_312 hk_313 => ?_)
  obtain ⟨T_314, hx_315, hW_316, m_317, t_318⟩ := nw_t (tI E 8) hW_307 hq_311 hf_312 hk_313 ⟨_, rfl⟩
  obtain ⟨L_319, hs_320⟩ : ∃ L9, L9 = L_287 ++ [q_309] := ⟨_, rfl⟩
  rw [← hs_320] at hx_315 hW_316 m_317 ⊢
  have ni_321 := EXT.nin x_308 e_301.1 hq_311
  refine v_widen (k := 12) (n := 12308) (Nat.le_of_ble_eq_true rfl) (Nat.le_of_ble_eq_true rfl) ?_
  have k_322 := k_290.mo (.inl rfl) hx_315.xt
  have k_323 := k_291.mo (.inl rfl) hx_315.xt
  have k_324 := k_292.mo (.inl rfl) hx_315.xt
  have k_325 := k_293.mo (.inl rfl) hx_315.xt
  have k_326 := k_294.mo (.inl rfl) hx_315.xt
  have k_327 := k_295.mo (.inl rfl) hx_315.xt
  have k_328 := k_296.mo (.inl rfl) hx_315.xt
  have k_329 := k_297.mo (.inl rfl) hx_315.xt
  have k_330 := k_298.mo (.inl rfl) hx_315.xt
  have k_331 := k_299.mo (.inl rfl) hx_315.xt
  have k_332 := k_303.mo (.inl rfl) hx_315.xt
  have t_333 := (hx_315 h e_301.1).2.1.trans t_300
  have e_334 := hx_315.at e_301.1 hf_305
  have x_335 := EXT.al x_308 hx_315
  have k_336 : isI T_314 L_319 E 8 q_309 := ⟨m_317, t_318⟩
  refine v_putF hC (by rw [hnm]; rfl) fl_X12_55 e_334.1 e_334.2 rfl rfl (Nat.le_of_ble_eq_true rfl) (fs' := [.int 0, .ref q_1, .ref q_23, .ref q_46, .ref q_70, .int 0, .ref q_95, .int 0, .int 0, .int 0, .int 0, .int 0, .int 0, .int (-1), .ref q_126, .ref q_154, .ref q_182, .int 0, .ref q_211, .ref q_241, .int (-1), .ref q_277, .ref q_309, .null, .null, .null, .null, .null, .null]) rfl dX12_init_112 (fun f_337 hf_338 hk_339 => ?_)
  have hW_340 := hW_316.up hf_338 hk_339 t_333 True.intro
  have x_341 := EXT.put x_335 hk_339
  refine v_aload_n hC dX12_init_115 rfl ?_
  refine v_sipush hC dX12_init_116 (v := 256) (by decide) ?_
  refine v_newaG hC (t := 1) (ty := .int) (N' := 256) (a0 := (256, .inl (fun _ => 0))) rfl ac_int rfl (fun _ => rfl) (by decide) (by decide) (by decide) (Nat.le_of_ble_eq_true rfl) (Nat.le_of_ble_eq_true rfl) dX12_init_119 (fun q_342 f_343 hq_344 hf_345 hk_346 => ?_)
  obtain ⟨T_347, hx_348, hW_349, m_350, t_351⟩ := nw_t (tI E 256) hW_340 hq_344 hf_345 hk_346 ⟨_, rfl⟩
  obtain ⟨L_352, hs_353⟩ : ∃ L9, L9 = L_319 ++ [q_342] := ⟨_, rfl⟩
  rw [← hs_353] at hx_348 hW_349 m_350 ⊢
  have ni_354 := EXT.nin x_341 e_334.1 hq_344
  refine v_widen (k := 13) (n := 12564) (Nat.le_of_ble_eq_true rfl) (Nat.le_of_ble_eq_true rfl) ?_
  have k_355 := k_322.mo (.inl rfl) hx_348.xt
  have k_356 := k_323.mo (.inl rfl) hx_348.xt
  have k_357 := k_324.mo (.inl rfl) hx_348.xt
  have k_358 := k_325.mo (.inl rfl) hx_348.xt
  have k_359 := k_326.mo (.inl rfl) hx_348.xt
  have k_360 := k_327.mo (.inl rfl) hx_348.xt
  have k_361 := k_328.mo (.inl rfl) hx_348.xt
  have k_362 := k_329.mo (.inl rfl) hx_348.xt
  have k_363 := k_330.mo (.inl rfl) hx_348.xt
  have k_364 := k_331.mo (.inl rfl) hx_348.xt
  have k_365 := k_332.mo (.inl rfl) hx_348.xt
  have k_366 := k_336.mo (.inl rfl) hx_348.xt
  have t_367 := (hx_348 h e_334.1).2.1.trans t_333
  have e_368 := hx_348.at e_334.1 hf_338
  have x_369 := EXT.al x_341 hx_348
  have k_370 : isI T_347 L_352 E 256 q_342 := ⟨m_350, t_351⟩
  refine v_putF hC (by rw [hnm]; rfl) fl_X12_58 e_368.1 e_368.2 rfl rfl (Nat.le_of_ble_eq_true rfl) (fs' := [.int 0, .ref q_1, .ref q_23, .ref q_46, .ref q_70, .int 0, .ref q_95, .int 0, .int 0, .int 0, .int 0, .int 0, .int 0, .int (-1), .ref q_126, .ref q_154, .ref q_182, .int 0, .ref q_211, .ref q_241, .int (-1), .ref q_277, .ref q_309, .ref q_342, .null, .null, .null, .null, .null]) rfl dX12_init_121 (fun f_371 hf_372 hk_373 => ?_)
  have hW_374 := hW_349.up hf_372 hk_373 t_367 True.intro
  have x_375 := EXT.put x_369 hk_373
  refine v_aload_n hC dX12_init_124 rfl ?_
  refine v_sipush hC dX12_init_125 (v := 256) (by decide) ?_
  refine v_newaG hC (t := 1) (ty := .int) (N' := 256) (a0 := (256, .inl (fun _ => 0))) rfl ac_int rfl (fun _ => rfl) (by decide) (by decide) (by decide) (Nat.le_of_ble_eq_true rfl) (Nat.le_of_ble_eq_true rfl) dX12_init_128 (fun q_376 f_377 hq_378 hf_379 hk_380 => ?_)
  obtain ⟨T_381, hx_382, hW_383, m_384, t_385⟩ := nw_t (tI E 256) hW_374 hq_378 hf_379 hk_380 ⟨_, rfl⟩
  obtain ⟨L_386, hs_387⟩ : ∃ L9, L9 = L_352 ++ [q_376] := ⟨_, rfl⟩
  rw [← hs_387] at hx_382 hW_383 m_384 ⊢
  have ni_388 := EXT.nin x_375 e_368.1 hq_378
  refine v_widen (k := 14) (n := 12820) (Nat.le_of_ble_eq_true rfl) (Nat.le_of_ble_eq_true rfl) ?_
  have k_389 := k_355.mo (.inl rfl) hx_382.xt
  have k_390 := k_356.mo (.inl rfl) hx_382.xt
  have k_391 := k_357.mo (.inl rfl) hx_382.xt
  have k_392 := k_358.mo (.inl rfl) hx_382.xt
  have k_393 := k_359.mo (.inl rfl) hx_382.xt
  have k_394 := k_360.mo (.inl rfl) hx_382.xt
  have k_395 := k_361.mo (.inl rfl) hx_382.xt
  have k_396 := k_362.mo (.inl rfl) hx_382.xt
  have k_397 := k_363.mo (.inl rfl) hx_382.xt
  have k_398 := k_364.mo (.inl rfl) hx_382.xt
  have k_399 := k_365.mo (.inl rfl) hx_382.xt
  have k_400 := k_366.mo (.inl rfl) hx_382.xt
  have k_401 := k_370.mo (.inl rfl) hx_382.xt
  have t_402 := (hx_382 h e_368.1).2.1.trans t_367
  have e_403 := hx_382.at e_368.1 hf_372
  have x_404 := EXT.al x_375 hx_382
  have k_405 : isI T_381 L_386 E 256 q_376 := ⟨m_384, t_385⟩
  refine v_putF hC (by rw [hnm]; rfl) fl_X12_61 e_403.1 e_403.2 rfl rfl (Nat.le_of_ble_eq_true rfl) (fs' := [.int 0, .ref q_1, .ref q_23, .ref q_46, .ref q_70, .int 0, .ref q_95, .int 0, .int 0, .int 0, .int 0, .int 0, .int 0, .int (-1), .ref q_126, .ref q_154, .ref q_182, .int 0, .ref q_211, .ref q_241, .int (-1), .ref q_277, .ref q_309, .ref q_342, .ref q_376, .null, .null, .null, .null]) rfl dX12_init_130 (fun f_406 hf_407 hk_408 => ?_)
  have hW_409 := hW_383.up hf_407 hk_408 t_402 True.intro
  have x_410 := EXT.put x_404 hk_408
  refine v_aload_n hC dX12_init_133 rfl ?_
  refine v_iconst hC dX12_init_134 (v := 4) (by decide) ?_
  refine v_newaG hC (t := 1) (ty := .int) (N' := 4) (a0 := (4, .inl (fun _ => 0))) rfl ac_int rfl (fun _ => rfl) (by decide) (by decide) (by decide) (Nat.le_of_ble_eq_true rfl) (Nat.le_of_ble_eq_true rfl) dX12_init_135 (fun q_411 f_412 hq_413 hf_414 hk_415 => ?_)
  obtain ⟨T_416, hx_417, hW_418, m_419, t_420⟩ := nw_t (tC E 4 MOK) hW_409 hq_413 hf_414 hk_415 ⟨_, rfl, (fun _ _ => (by decide : -1 ≤ (0 : Int32).toInt ∧ (0 : Int32).toInt ≤ 60))⟩
  obtain ⟨L_421, hs_422⟩ : ∃ L9, L9 = L_386 ++ [q_411] := ⟨_, rfl⟩
  rw [← hs_422] at hx_417 hW_418 m_419 ⊢
  have ni_423 := EXT.nin x_410 e_403.1 hq_413
  refine v_widen (k := 15) (n := 12824) (Nat.le_of_ble_eq_true rfl) (Nat.le_of_ble_eq_true rfl) ?_
  have k_424 := k_389.mo (.inl rfl) hx_417.xt
  have k_425 := k_390.mo (.inl rfl) hx_417.xt
  have k_426 := k_391.mo (.inl rfl) hx_417.xt
  have k_427 := k_392.mo (.inl rfl) hx_417.xt
  have k_428 := k_393.mo (.inl rfl) hx_417.xt
  have k_429 := k_394.mo (.inl rfl) hx_417.xt
  have k_430 := k_395.mo (.inl rfl) hx_417.xt
  have k_431 := k_396.mo (.inl rfl) hx_417.xt
  have k_432 := k_397.mo (.inl rfl) hx_417.xt
  have k_433 := k_398.mo (.inl rfl) hx_417.xt
  have k_434 := k_399.mo (.inl rfl) hx_417.xt
  have k_435 := k_400.mo (.inl rfl) hx_417.xt
  have k_436 := k_401.mo (.inl rfl) hx_417.xt
  have k_437 := k_405.mo (.inl rfl) hx_417.xt
  have t_438 := (hx_417 h e_403.1).2.1.trans t_402
  have e_439 := hx_417.at e_403.1 hf_407
  have x_440 := EXT.al x_410 hx_417
  have k_441 : isC T_416 L_421 E 4 MOK q_411 := ⟨m_419, t_420⟩
  refine v_dup hC dX12_init_137 rfl ?_
  refine v_iconst hC dX12_init_138 (v := 0) (by decide) ?_
  refine v_iconst hC dX12_init_139 (v := (-1)) (by decide) ?_
  obtain ⟨m_442, t_443⟩ := id k_441
  obtain ⟨g_444, e_445, ok_446⟩ := hW_418.at m_442 t_443
  have gg_452 := ai_inj (e_445.symm.trans hf_414)
  subst gg_452
  refine v_iast hC m_442 e_445 (by unfold vp_in; decide) dX12_init_140 (fun f_447 hf_448 hk_449 => ?_)
  have e_453 := (hk_449 h (ne_kd e_439.2 e_445 rfl)).trans e_439.2
  have hW_450 := hW_418.up hf_448 hk_449 t_443 ⟨_, rfl, ok_446.up (by decide)⟩
  have x_451 := EXT.put2 x_440 ni_423 hk_449
  have hf_454 : f_447 q_411 = aI E 4 (upd (fun _ => 0) (0 : Int32).toNatClampNeg (-1)) := hf_448
  refine v_dup hC dX12_init_141 rfl ?_
  refine v_iconst hC dX12_init_142 (v := 1) (by decide) ?_
  refine v_iconst hC dX12_init_143 (v := (-1)) (by decide) ?_
  obtain ⟨m_455, t_456⟩ := id k_441
  obtain ⟨g_457, e_458, ok_459⟩ := hW_450.at m_455 t_456
  have gg_465 := ai_inj (e_458.symm.trans hf_454)
  subst gg_465
  refine v_iast hC m_455 e_458 (by unfold vp_in; decide) dX12_init_144 (fun f_460 hf_461 hk_462 => ?_)
  have e_466 := (hk_462 h (ne_kd e_453 e_458 rfl)).trans e_453
  have hW_463 := hW_450.up hf_461 hk_462 t_456 ⟨_, rfl, ok_459.up (by decide)⟩
  have x_464 := EXT.put2 x_451 ni_423 hk_462
  have hf_467 : f_460 q_411 = aI E 4 (upd (upd (fun _ => 0) (0 : Int32).toNatClampNeg (-1)) (1 : Int32).toNatClampNeg (-1)) := hf_461
  refine v_dup hC dX12_init_145 rfl ?_
  refine v_iconst hC dX12_init_146 (v := 2) (by decide) ?_
  refine v_iconst hC dX12_init_147 (v := (-1)) (by decide) ?_
  obtain ⟨m_468, t_469⟩ := id k_441
  obtain ⟨g_470, e_471, ok_472⟩ := hW_463.at m_468 t_469
  have gg_478 := ai_inj (e_471.symm.trans hf_467)
  subst gg_478
  refine v_iast hC m_468 e_471 (by unfold vp_in; decide) dX12_init_148 (fun f_473 hf_474 hk_475 => ?_)
  have e_479 := (hk_475 h (ne_kd e_466 e_471 rfl)).trans e_466
  have hW_476 := hW_463.up hf_474 hk_475 t_469 ⟨_, rfl, ok_472.up (by decide)⟩
  have x_477 := EXT.put2 x_464 ni_423 hk_475
  have hf_480 : f_473 q_411 = aI E 4 (upd (upd (upd (fun _ => 0) (0 : Int32).toNatClampNeg (-1)) (1 : Int32).toNatClampNeg (-1)) (2 : Int32).toNatClampNeg (-1)) := hf_474
  refine v_dup hC dX12_init_149 rfl ?_
  refine v_iconst hC dX12_init_150 (v := 3) (by decide) ?_
  refine v_iconst hC dX12_init_151 (v := (-1)) (by decide) ?_
  obtain ⟨m_481, t_482⟩ := id k_441
  obtain ⟨g_483, e_484, ok_485⟩ := hW_476.at m_481 t_482
  have gg_491 := ai_inj (e_484.symm.trans hf_480)
  subst gg_491
  refine v_iast hC m_481 e_484 (by unfold vp_in; decide) dX12_init_152 (fun f_486 hf_487 hk_488 => ?_)
  have e_492 := (hk_488 h (ne_kd e_479 e_484 rfl)).trans e_479
  have hW_489 := hW_476.up hf_487 hk_488 t_482 ⟨_, rfl, ok_485.up (by decide)⟩
  have x_490 := EXT.put2 x_477 ni_423 hk_488
  have hf_493 : f_486 q_411 = aI E 4 (upd (upd (upd (upd (fun _ => 0) (0 : Int32).toNatClampNeg (-1)) (1 : Int32).toNatClampNeg (-1)) (2 : Int32).toNatClampNeg (-1)) (3 : Int32).toNatClampNeg (-1)) := hf_487
  refine v_putF hC (by rw [hnm]; rfl) fl_X12_64 e_439.1 e_492 rfl rfl (Nat.le_of_ble_eq_true rfl) (fs' := [.int 0, .ref q_1, .ref q_23, .ref q_46, .ref q_70, .int 0, .ref q_95, .int 0, .int 0, .int 0, .int 0, .int 0, .int 0, .int (-1), .ref q_126, .ref q_154, .ref q_182, .int 0, .ref q_211, .ref q_241, .int (-1), .ref q_277, .ref q_309, .ref q_342, .ref q_376, .ref q_411, .null, .null, .null]) rfl dX12_init_153 (fun f_494 hf_495 hk_496 => ?_)
  have e_499 := (hk_496 q_411 (ne_kd hf_493 e_492 rfl)).trans hf_493
  have hW_497 := hW_489.up hf_495 hk_496 t_438 True.intro
  have x_498 := EXT.put x_490 hk_496
  refine v_aload_n hC dX12_init_156 rfl ?_
  refine v_iconst hC dX12_init_157 (v := 4) (by decide) ?_
  refine v_newaG hC (t := 1) (ty := .int) (N' := 4) (a0 := (4, .inl (fun _ => 0))) rfl ac_int rfl (fun _ => rfl) (by decide) (by decide) (by decide) (Nat.le_of_ble_eq_true rfl) (Nat.le_of_ble_eq_true rfl) dX12_init_158 (fun q_500 f_501 hq_502 hf_503 hk_504 => ?_)
  obtain ⟨T_505, hx_506, hW_507, m_508, t_509⟩ := nw_t (tI E 4) hW_497 hq_502 hf_503 hk_504 ⟨_, rfl⟩
  obtain ⟨L_510, hs_511⟩ : ∃ L9, L9 = L_421 ++ [q_500] := ⟨_, rfl⟩
  rw [← hs_511] at hx_506 hW_507 m_508 ⊢
  have ni_512 := EXT.nin x_498 e_439.1 hq_502
  refine v_widen (k := 16) (n := 12828) (Nat.le_of_ble_eq_true rfl) (Nat.le_of_ble_eq_true rfl) ?_
  have k_513 := k_424.mo (.inl rfl) hx_506.xt
  have k_514 := k_425.mo (.inl rfl) hx_506.xt
  have k_515 := k_426.mo (.inl rfl) hx_506.xt
  have k_516 := k_427.mo (.inl rfl) hx_506.xt
  have k_517 := k_428.mo (.inl rfl) hx_506.xt
  have k_518 := k_429.mo (.inl rfl) hx_506.xt
  have k_519 := k_430.mo (.inl rfl) hx_506.xt
  have k_520 := k_431.mo (.inl rfl) hx_506.xt
  have k_521 := k_432.mo (.inl rfl) hx_506.xt
  have k_522 := k_433.mo (.inl rfl) hx_506.xt
  have k_523 := k_434.mo (.inl rfl) hx_506.xt
  have k_524 := k_435.mo (.inl rfl) hx_506.xt
  have k_525 := k_436.mo (.inl rfl) hx_506.xt
  have k_526 := k_437.mo (.inl rfl) hx_506.xt
  have k_527 := k_441.mo (.inl rfl) hx_506.xt
  have t_528 := (hx_506 h e_439.1).2.1.trans t_438
  have e_529 := hx_506.at e_439.1 hf_495
  have e_530 := hx_506.at m_481 e_499
  have x_531 := EXT.al x_498 hx_506
  have k_532 : isI T_505 L_510 E 4 q_500 := ⟨m_508, t_509⟩
  refine v_putF hC (by rw [hnm]; rfl) fl_X12_67 e_529.1 e_529.2 rfl rfl (Nat.le_of_ble_eq_true rfl) (fs' := [.int 0, .ref q_1, .ref q_23, .ref q_46, .ref q_70, .int 0, .ref q_95, .int 0, .int 0, .int 0, .int 0, .int 0, .int 0, .int (-1), .ref q_126, .ref q_154, .ref q_182, .int 0, .ref q_211, .ref q_241, .int (-1), .ref q_277, .ref q_309, .ref q_342, .ref q_376, .ref q_411, .ref q_500, .null, .null]) rfl dX12_init_160 (fun f_533 hf_534 hk_535 => ?_)
  have e_538 := (hk_535 q_411 (ne_kd e_530.2 e_529.2 rfl)).trans e_530.2
  have hW_536 := hW_507.up hf_534 hk_535 t_528 True.intro
  have x_537 := EXT.put x_531 hk_535
  refine v_aload_n hC dX12_init_163 rfl ?_
  refine v_sipush hC dX12_init_164 (v := 240) (by decide) ?_
  refine v_newaG hC (t := 2) (ty := .long) (N' := 240) (a0 := (240, .inr (.inl (fun _ => 0)))) rfl ac_long rfl (fun _ => rfl) (by decide) (by decide) (by decide) (Nat.le_of_ble_eq_true rfl) (Nat.le_of_ble_eq_true rfl) dX12_init_167 (fun q_539 f_540 hq_541 hf_542 hk_543 => ?_)
  obtain ⟨T_544, hx_545, hW_546, m_547, t_548⟩ := nw_t (tJ E 240) hW_536 hq_541 hf_542 hk_543 ⟨_, rfl⟩
  obtain ⟨L_549, hs_550⟩ : ∃ L9, L9 = L_510 ++ [q_539] := ⟨_, rfl⟩
  rw [← hs_550] at hx_545 hW_546 m_547 ⊢
  have ni_551 := EXT.nin x_537 e_529.1 hq_541
  refine v_widen (k := 17) (n := 13068) (Nat.le_of_ble_eq_true rfl) (Nat.le_of_ble_eq_true rfl) ?_
  have k_552 := k_513.mo (.inl rfl) hx_545.xt
  have k_553 := k_514.mo (.inl rfl) hx_545.xt
  have k_554 := k_515.mo (.inl rfl) hx_545.xt
  have k_555 := k_516.mo (.inl rfl) hx_545.xt
  have k_556 := k_517.mo (.inl rfl) hx_545.xt
  have k_557 := k_518.mo (.inl rfl) hx_545.xt
  have k_558 := k_519.mo (.inl rfl) hx_545.xt
  have k_559 := k_520.mo (.inl rfl) hx_545.xt
  have k_560 := k_521.mo (.inl rfl) hx_545.xt
  have k_561 := k_522.mo (.inl rfl) hx_545.xt
  have k_562 := k_523.mo (.inl rfl) hx_545.xt
  have k_563 := k_524.mo (.inl rfl) hx_545.xt
  have k_564 := k_525.mo (.inl rfl) hx_545.xt
  have k_565 := k_526.mo (.inl rfl) hx_545.xt
  have k_566 := k_527.mo (.inl rfl) hx_545.xt
  have k_567 := k_532.mo (.inl rfl) hx_545.xt
  have t_568 := (hx_545 h e_529.1).2.1.trans t_528
  have e_569 := hx_545.at e_529.1 hf_534
  have e_570 := hx_545.at e_530.1 e_538
  have x_571 := EXT.al x_537 hx_545
  have k_572 : isJ T_544 L_549 E 240 q_539 := ⟨m_547, t_548⟩
  refine v_putF hC (by rw [hnm]; rfl) fl_X12_70 e_569.1 e_569.2 rfl rfl (Nat.le_of_ble_eq_true rfl) (fs' := [.int 0, .ref q_1, .ref q_23, .ref q_46, .ref q_70, .int 0, .ref q_95, .int 0, .int 0, .int 0, .int 0, .int 0, .int 0, .int (-1), .ref q_126, .ref q_154, .ref q_182, .int 0, .ref q_211, .ref q_241, .int (-1), .ref q_277, .ref q_309, .ref q_342, .ref q_376, .ref q_411, .ref q_500, .ref q_539, .null]) rfl dX12_init_169 (fun f_573 hf_574 hk_575 => ?_)
  have e_578 := (hk_575 q_411 (ne_kd e_570.2 e_569.2 rfl)).trans e_570.2
  have hW_576 := hW_546.up hf_574 hk_575 t_568 True.intro
  have x_577 := EXT.put x_571 hk_575
  refine v_aload_n hC dX12_init_172 rfl ?_
  refine v_bipush hC dX12_init_173 (v := 60) (by decide) ?_
  refine v_newaG hC (t := 2) (ty := .long) (N' := 60) (a0 := (60, .inr (.inl (fun _ => 0)))) rfl ac_long rfl (fun _ => rfl) (by decide) (by decide) (by decide) (Nat.le_of_ble_eq_true rfl) (Nat.le_of_ble_eq_true rfl) dX12_init_175 (fun q_579 f_580 hq_581 hf_582 hk_583 => ?_)
  obtain ⟨T_584, hx_585, hW_586, m_587, t_588⟩ := nw_t (tJ E 60) hW_576 hq_581 hf_582 hk_583 ⟨_, rfl⟩
  obtain ⟨L_589, hs_590⟩ : ∃ L9, L9 = L_549 ++ [q_579] := ⟨_, rfl⟩
  rw [← hs_590] at hx_585 hW_586 m_587 ⊢
  have ni_591 := EXT.nin x_577 e_569.1 hq_581
  refine v_widen (k := 18) (n := 13128) (Nat.le_of_ble_eq_true rfl) (Nat.le_of_ble_eq_true rfl) ?_
  have k_592 := k_552.mo (.inl rfl) hx_585.xt
  have k_593 := k_553.mo (.inl rfl) hx_585.xt
  have k_594 := k_554.mo (.inl rfl) hx_585.xt
  have k_595 := k_555.mo (.inl rfl) hx_585.xt
  have k_596 := k_556.mo (.inl rfl) hx_585.xt
  have k_597 := k_557.mo (.inl rfl) hx_585.xt
  have k_598 := k_558.mo (.inl rfl) hx_585.xt
  have k_599 := k_559.mo (.inl rfl) hx_585.xt
  have k_600 := k_560.mo (.inl rfl) hx_585.xt
  have k_601 := k_561.mo (.inl rfl) hx_585.xt
  have k_602 := k_562.mo (.inl rfl) hx_585.xt
  have k_603 := k_563.mo (.inl rfl) hx_585.xt
  have k_604 := k_564.mo (.inl rfl) hx_585.xt
  have k_605 := k_565.mo (.inl rfl) hx_585.xt
  have k_606 := k_566.mo (.inl rfl) hx_585.xt
  have k_607 := k_567.mo (.inl rfl) hx_585.xt
  have k_608 := k_572.mo (.inl rfl) hx_585.xt
  have t_609 := (hx_585 h e_569.1).2.1.trans t_568
  have e_610 := hx_585.at e_569.1 hf_574
  have e_611 := hx_585.at e_570.1 e_578
  have x_612 := EXT.al x_577 hx_585
  have k_613 : isJ T_584 L_589 E 60 q_579 := ⟨m_587, t_588⟩
  refine v_putF hC (by rw [hnm]; rfl) fl_X12_74 e_610.1 e_610.2 rfl rfl (Nat.le_of_ble_eq_true rfl) (fs' := [.int 0, .ref q_1, .ref q_23, .ref q_46, .ref q_70, .int 0, .ref q_95, .int 0, .int 0, .int 0, .int 0, .int 0, .int 0, .int (-1), .ref q_126, .ref q_154, .ref q_182, .int 0, .ref q_211, .ref q_241, .int (-1), .ref q_277, .ref q_309, .ref q_342, .ref q_376, .ref q_411, .ref q_500, .ref q_539, .ref q_579]) rfl dX12_init_177 (fun f_614 hf_615 hk_616 => ?_)
  have e_619 := (hk_616 q_411 (ne_kd e_611.2 e_610.2 rfl)).trans e_611.2
  have hW_617 := hW_586.up hf_615 hk_616 t_609 True.intro
  have x_618 := EXT.put x_612 hk_616
  have hz_620 : ∀ k : Nat, k < 4 → zmn f_614 h k = -1 := by
    intro k hk
    rw [zmn_eq f_614 h (by rw [hf_615]; rfl) e_619 k]
    rcases (show k = 0 ∨ k = 1 ∨ k = 2 ∨ k = 3 by omega) with rfl | rfl | rfl | rfl <;> first | rfl | decide
  obtain ⟨T_621, xt_622, hW_623, ta_624, tb_625⟩ := ty_ch (tM (fun i : Nat => match i with | 1 => q_1 | 2 => q_23 | 3 => q_46 | 4 => q_70 | 6 => q_95 | 14 => q_126 | 15 => q_154 | 16 => q_182 | 18 => q_211 | 19 => q_241 | 21 => q_277 | 22 => q_309 | 23 => q_342 | 24 => q_376 | 25 => q_411 | 26 => q_500 | 27 => q_539 | 28 => q_579 | _ => 0)) hW_617 (fr_sh t_609) hf_615 ⟨0, 0, 0, 0, 0, 0, 0, 0, (-1), 0, (-1), rfl, by decide, by decide, by decide, by decide, by decide, by decide, by decide⟩
  have k_626 := k_592.mo (.inl rfl) xt_622
  have k_627 := k_593.mo (.inl rfl) xt_622
  have k_628 := k_594.mo (.inl rfl) xt_622
  have k_629 := k_595.mo (.inl rfl) xt_622
  have k_630 := k_596.mo (.inl rfl) xt_622
  have k_631 := k_597.mo (.inl rfl) xt_622
  have k_632 := k_598.mo (.inl rfl) xt_622
  have k_633 := k_599.mo (.inl rfl) xt_622
  have k_634 := k_600.mo (.inl rfl) xt_622
  have k_635 := k_601.mo (.inl rfl) xt_622
  have k_636 := k_602.mo (.inl rfl) xt_622
  have k_637 := k_603.mo (.inl rfl) xt_622
  have k_638 := k_604.mo (.inl rfl) xt_622
  have k_639 := k_605.mo (.inl rfl) xt_622
  have k_640 := k_606.mo (.inl rfl) xt_622
  have k_641 := k_607.mo (.inl rfl) xt_622
  have k_642 := k_608.mo (.inl rfl) xt_622
  have k_643 := k_613.mo (.inl rfl) xt_622
  have x_644 := EXT.ty x_618 (.inl rfl) tb_625
  exact hR _ _ _ _ _ _ dX12_init_180 (Nat.le_of_ble_eq_true rfl) (Nat.le_of_ble_eq_true rfl) ⟨T_621, x_644, hW_623, (fun i : Nat => match i with | 1 => q_1 | 2 => q_23 | 3 => q_46 | 4 => q_70 | 6 => q_95 | 14 => q_126 | 15 => q_154 | 16 => q_182 | 18 => q_211 | 19 => q_241 | 21 => q_277 | 22 => q_309 | 23 => q_342 | 24 => q_376 | 25 => q_411 | 26 => q_500 | 27 => q_539 | 28 => q_579 | _ => 0), ⟨e_610.1, ta_624, nq_131, k_626, k_627, k_628, k_629, k_630, k_631, k_632, k_633, k_634, k_635, k_636, k_637, k_638, k_639, k_640, k_641, k_642, k_643⟩, hz_620⟩
set_option maxRecDepth 100000 in
set_option maxHeartbeats 8000000 in
theorem p_X11_keep {l : Launch} {E : Ez} {L : List Nat} {f : Nat → va_E} {T : Nat → va_E → Prop} {a_0 : Nat} {a_1 : Int32} (hW : WT T L f) (k_0 : isX T L E a_0) : CI l yX11_keep cX11_keep 2 .int 3 27 1953 E [.ref a_0, .int a_1] L f (fun r L1 f1 => ((r.toInt = 0 ∧ 0 ≤ a_1.toInt ∧ a_1.toInt ≤ 2) ∨ (r.toInt = -2 ∧ (a_1.toInt < 0 ∨ 2 < a_1.toInt))) ∧ ∃ T1, WT T1 L1 f1 ∧ isX T1 L1 E a_0 ∧ ∀ b : Nat, b ∈ L → ∀ c : va_E, (kd c = 5 ∨ kd c = 11 ∨ kd c = 104) → f b = c → b ∈ L1 ∧ f1 b = c) := by
  refine ci_of (by decide) (Nat.le_of_ble_eq_true rfl) (fun z hz hnm hC hR => ?_)
  have hC : Cx z E cX11_keep RX11 2 3 27 1953 := hC
  subst hz
  show V z E 2 0 0 L f 0 [(0, .ref a_0), (1, .int a_1)] []
  refine v_iload_n hC dX11_keep_0 rfl ?_
  refine v_if_lt hC dX11_keep_1 (tgt := 9) (by decide) (fun h_1 => ?_) (fun h_1 => ?_)
  · simp only [Int32.lt_iff_toInt_lt, Int32.le_iff_toInt_le, Int32.reduceToInt, ← Int32.toInt_inj] at h_1
    refine v_bipush hC dX11_keep_9 (v := (-2)) (by decide) ?_
    exact hR _ _ _ _ _ _ _ dX11_keep_11 rfl (Nat.le_of_ble_eq_true rfl) (Nat.le_of_ble_eq_true rfl) ⟨(by simp only [Int32.lt_iff_toInt_lt, Int32.le_iff_toInt_le, Int32.reduceToInt, ← Int32.toInt_inj, true_and, and_true, or_true, true_or, false_or, or_false, false_and, and_false, not_true_eq_false, not_false_eq_true] <;> omega), T, hW, k_0, (fun b9 m9 c9 k9 e9 => ⟨m9, e9⟩)⟩
  · simp only [Int32.lt_iff_toInt_lt, Int32.le_iff_toInt_le, Int32.reduceToInt, ← Int32.toInt_inj] at h_1
    refine v_iload_n hC dX11_keep_4 rfl ?_
    refine v_iconst hC dX11_keep_5 (v := 3) (by decide) ?_
    refine v_icmp_lt hC dX11_keep_6 (tgt := 12) (by decide) (fun h_2 => ?_) (fun h_2 => ?_)
    · simp only [Int32.lt_iff_toInt_lt, Int32.le_iff_toInt_le, Int32.reduceToInt, ← Int32.toInt_inj] at h_2
      refine v_aload_n hC dX11_keep_12 rfl ?_
      obtain ⟨m_3, q_5, q_6, q_7, q_8, q_9, q_10, q_11, q_12, q_13, q_14, q_15, q_16, q_17, q_18, t_4, k_19, k_20, k_21, k_22, k_23, k_24, k_25, k_26, k_27, k_28, k_29, k_30, k_31, k_32⟩ := id k_0
      have e_33 : f a_0 = ob 11 [.ref q_5, .ref q_6, .ref q_7, .ref q_8, .ref q_9, .ref q_10, .ref q_11, .ref q_12, .ref q_13, .ref q_14, .ref q_15, .ref q_16, .ref q_17, .ref q_18] := hW.at m_3 t_4
      refine v_get hC fl_X11_23 m_3 e_33 rfl dX11_keep_13 ?_
      refine v_iload_n hC dX11_keep_16 rfl ?_
      obtain ⟨m_34, g_36, t_35, k_37⟩ := id k_21
      have e_38 : f q_7 = aR E 4 3 g_36 := hW.at m_34 t_35
      rcases k_37 (a_1 : Int32).toNatClampNeg (clamp_lt (vp_in_iff.mpr (by first | omega | (simp only [Int32.lt_iff_toInt_lt, Int32.le_iff_toInt_le, Int32.reduceToInt, ← Int32.toInt_inj, true_and, and_true, or_true, true_or, false_or, or_false, false_and, and_false, not_true_eq_false, not_false_eq_true] <;> omega)))) with h_40 | ⟨q_39, h_40, k_41⟩
      · refine v_aald hC m_34 e_38 rfl (vp_in_iff.mpr (by first | omega | (simp only [Int32.lt_iff_toInt_lt, Int32.le_iff_toInt_le, Int32.reduceToInt, ← Int32.toInt_inj, true_and, and_true, or_true, true_or, false_or, or_false, false_and, and_false, not_true_eq_false, not_false_eq_true] <;> omega))) (v := .null) (by rw [h_40]; rfl) dX11_keep_17 ?_
        refine v_ifnonnullN hC dX11_keep_18 ?_
        refine v_aload_n hC dX11_keep_21 rfl ?_
        refine v_get hC fl_X11_23 m_3 e_33 rfl dX11_keep_22 ?_
        refine v_iload_n hC dX11_keep_25 rfl ?_
        refine v_new hC (ci := 0) (fs := [.null, .null, .null, .null, .null, .null]) rfl inX0 tyX0_ok kl_X11_16 in_X0 ii_X0 (fun j hj => by rcases (show j = 0 ∨ j = 1 ∨ j = 2 ∨ j = 3 ∨ j = 4 ∨ j = 5 by omega) with rfl | rfl | rfl | rfl | rfl | rfl <;> rfl) (Nat.le_of_ble_eq_true rfl) (Nat.le_of_ble_eq_true rfl) dX11_keep_26 (fun q_45 f_46 hq_47 hf_48 hk_49 => ?_)
        obtain ⟨T_50, hx_51, hW_52, m_53, t_54⟩ := nw_t FREE hW hq_47 hf_48 hk_49 True.intro
        obtain ⟨L_55, hs_56⟩ : ∃ L9, L9 = L ++ [q_45] := ⟨_, rfl⟩
        rw [← hs_56] at hx_51 hW_52 m_53 ⊢
        refine v_widen (k := 1) (n := 6) (Nat.le_of_ble_eq_true rfl) (Nat.le_of_ble_eq_true rfl) ?_
        refine v_dup hC dX11_keep_29 rfl ?_
        refine v_xv hC (rest := [.ref q_45, .int a_1, .ref q_7]) rfl mi_X0_init (kt_X0 hW_52 m_53 t_54 hf_48) mx_X0_init ml_X11_18 (by decide) rfl (cells1 := 27) (slots1 := 1953) (by decide) (by decide) (Nat.le_of_ble_eq_true rfl) (Nat.le_of_ble_eq_true rfl) rfl (Nat.le_of_ble_eq_true rfl) dX11_keep_30 (fun L_57 f_58 h_59 => ?_)
        obtain ⟨T_60, hy_61, hW_62, k_63⟩ := h_59
        have hx_64 := EX.ct hx_51 hq_47 hy_61
        have e_65 := hx_64.at m_34 e_38
        have m_66 := (hx_64 a_0 m_3).1
        have t_67 := (hx_64 a_0 m_3).2.1.trans t_4
        have t_68 := (hx_64 q_7 m_34).2.1.trans t_35
        obtain ⟨m_69, q_79, q_80, q_81, q_82, q_83, q_84, t_70, -, -, -, -, -, -⟩ := id k_63
        have e_71 := hW_62.at m_69 t_70
        refine v_aast hC (r := (RX0, TX0, 6)) e_65.1 e_65.2 (t := 4) rfl m_69 e_71 rfl (vp_in_iff.mpr (by first | omega | (simp only [Int32.lt_iff_toInt_lt, Int32.le_iff_toInt_le, Int32.reduceToInt, ← Int32.toInt_inj, true_and, and_true, or_true, true_or, false_or, or_false, false_and, and_false, not_true_eq_false, not_false_eq_true] <;> omega))) dX11_keep_33 (fun f_72 hf_73 hk_74 => ?_)
        obtain ⟨g_85, hg_86⟩ : ∃ g9, g9 = va_up g_36 (a_1 : Int32).toNatClampNeg (some q_45) := ⟨_, rfl⟩
        rw [← hg_86] at hf_73
        have gw_87 : g_85 (a_1 : Int32).toNatClampNeg = some q_45 := by rw [hg_86]; unfold va_up; rw [if_pos rfl]
        obtain ⟨T_75, xt_76, hW_77, t_78⟩ := ty_up (κ := 103) (tR E 4 3 g_85) hW_62 ⟨aR E 4 3 g_36, by rw [t_68]; rfl, rfl⟩ hf_73 hk_74 rfl
        have t_88 := (isX_at xt_76 m_66 t_67).2
        have k_89 := k_63.mo (.inr rfl) xt_76
        have k_90 := (k_19.mo (.inl rfl) hx_64.xt).mo (.inr rfl) xt_76
        have k_91 := (k_20.mo (.inl rfl) hx_64.xt).mo (.inr rfl) xt_76
        have k_92 : isRImg T_75 L_57 E q_7 := RImg_up e_65.1 t_78 hg_86 (fun i9 h9 => (k_37 i9 h9).imp id (fun ⟨w9, a9, b9⟩ => ⟨w9, a9, (b9.mo (.inl rfl) hx_64.xt).mo (.inr rfl) xt_76⟩)) k_89
        have k_93 := (k_22.mo (.inl rfl) hx_64.xt).mo (.inr rfl) xt_76
        have k_94 := (k_23.mo (.inl rfl) hx_64.xt).mo (.inr rfl) xt_76
        have k_95 := (k_24.mo (.inl rfl) hx_64.xt).mo (.inr rfl) xt_76
        have k_96 := (k_25.mo (.inl rfl) hx_64.xt).mo (.inr rfl) xt_76
        have k_97 := (k_26.mo (.inl rfl) hx_64.xt).mo (.inr rfl) xt_76
        have k_98 := (k_27.mo (.inl rfl) hx_64.xt).mo (.inr rfl) xt_76
        have k_99 := (k_28.mo (.inl rfl) hx_64.xt).mo (.inr rfl) xt_76
        have k_100 := (k_29.mo (.inl rfl) hx_64.xt).mo (.inr rfl) xt_76
        have k_101 := (k_30.mo (.inl rfl) hx_64.xt).mo (.inr rfl) xt_76
        have k_102 := (k_31.mo (.inl rfl) hx_64.xt).mo (.inr rfl) xt_76
        have k_103 := (k_32.mo (.inl rfl) hx_64.xt).mo (.inr rfl) xt_76
        have k_104 : isX T_75 L_57 E a_0 := ⟨m_66, q_5, q_6, q_7, q_8, q_9, q_10, q_11, q_12, q_13, q_14, q_15, q_16, q_17, q_18, t_88, k_90, k_91, k_92, k_93, k_94, k_95, k_96, k_97, k_98, k_99, k_100, k_101, k_102, k_103⟩
        refine v_aload_n hC dX11_keep_34 rfl ?_
        have e_105 : f_72 a_0 = ob 11 [.ref q_5, .ref q_6, .ref q_7, .ref q_8, .ref q_9, .ref q_10, .ref q_11, .ref q_12, .ref q_13, .ref q_14, .ref q_15, .ref q_16, .ref q_17, .ref q_18] := hW_77.at m_66 t_88
        refine v_get hC fl_X11_23 m_66 e_105 rfl dX11_keep_35 ?_
        refine v_iload_n hC dX11_keep_38 rfl ?_
        refine v_aald hC e_65.1 hf_73 rfl (vp_in_iff.mpr (by first | omega | (simp only [Int32.lt_iff_toInt_lt, Int32.le_iff_toInt_le, Int32.reduceToInt, ← Int32.toInt_inj, true_and, and_true, or_true, true_or, false_or, or_false, false_and, and_false, not_true_eq_false, not_false_eq_true] <;> omega))) (v := .ref q_45) (by rw [gw_87]; rfl) dX11_keep_39 ?_
        refine v_aload_n hC dX11_keep_40 rfl ?_
        refine v_get hC fl_X11_19 m_66 e_105 rfl dX11_keep_41 ?_
        obtain ⟨m_109, q_111, q_112, q_113, q_114, q_115, q_116, t_110, k_117, k_118, k_119, k_120, k_121, k_122⟩ := id k_89
        have e_123 : f_72 q_45 = ob 0 [.ref q_111, .ref q_112, .ref q_113, .ref q_114, .ref q_115, .ref q_116] := hW_77.at m_109 t_110
        refine v_vv hC (rest := []) m_109 e_123 rfl mi_X0_takeFrom ms_X0_takeFrom (p_X0_takeFrom hW_77 k_89 k_91) mx_X0_takeFrom ml_X11_350 (by decide) rfl (cells1 := 27) (slots1 := 1953) (by decide) (by decide) (Nat.le_of_ble_eq_true rfl) (Nat.le_of_ble_eq_true rfl) rfl (Nat.le_of_ble_eq_true rfl) dX11_keep_44 (fun L_125 f_126 h_127 => ?_)
        obtain ⟨rfl, hW_128, hF_129⟩ := h_127
        have hf_130 := hF_129.at e_105 rfl
        have hf_131 := hF_129.at e_123 rfl
        refine v_iconst hC dX11_keep_47 (v := 0) (by decide) ?_
        exact hR _ _ _ _ _ _ _ dX11_keep_48 rfl (Nat.le_of_ble_eq_true rfl) (Nat.le_of_ble_eq_true rfl) ⟨(by simp only [Int32.lt_iff_toInt_lt, Int32.le_iff_toInt_le, Int32.reduceToInt, ← Int32.toInt_inj, true_and, and_true, or_true, true_or, false_or, or_false, false_and, and_false, not_true_eq_false, not_false_eq_true] <;> omega), T_75, hW_128, k_104, (fun b9 m9 c9 k9 e9 => ⟨(hx_64 b9 m9).1, kfr (S := [1, 3, 4, 9, 10, 103, 112, 356, 400]) (hF_129.mono rfl) rfl rfl rfl k9 ((hk_74 b9 (kne (((hx_64 b9 m9).2.2).trans e9) e_65.2 rfl k9)).trans (((hx_64 b9 m9).2.2).trans e9))⟩)⟩
      · refine v_aald hC m_34 e_38 rfl (vp_in_iff.mpr (by first | omega | (simp only [Int32.lt_iff_toInt_lt, Int32.le_iff_toInt_le, Int32.reduceToInt, ← Int32.toInt_inj, true_and, and_true, or_true, true_or, false_or, or_false, false_and, and_false, not_true_eq_false, not_false_eq_true] <;> omega))) (v := .ref q_39) (by rw [h_40]; rfl) dX11_keep_17 ?_
        refine v_ifnonnull hC dX11_keep_18 (tgt := 34) (by decide) ?_
        refine v_aload_n hC dX11_keep_34 rfl ?_
        refine v_get hC fl_X11_23 m_3 e_33 rfl dX11_keep_35 ?_
        refine v_iload_n hC dX11_keep_38 rfl ?_
        refine v_aald hC m_34 e_38 rfl (vp_in_iff.mpr (by first | omega | (simp only [Int32.lt_iff_toInt_lt, Int32.le_iff_toInt_le, Int32.reduceToInt, ← Int32.toInt_inj, true_and, and_true, or_true, true_or, false_or, or_false, false_and, and_false, not_true_eq_false, not_false_eq_true] <;> omega))) (v := .ref q_39) (by rw [h_40]; rfl) dX11_keep_39 ?_
        refine v_aload_n hC dX11_keep_40 rfl ?_
        refine v_get hC fl_X11_19 m_3 e_33 rfl dX11_keep_41 ?_
        obtain ⟨m_138, q_140, q_141, q_142, q_143, q_144, q_145, t_139, k_146, k_147, k_148, k_149, k_150, k_151⟩ := id k_41
        have e_152 : f q_39 = ob 0 [.ref q_140, .ref q_141, .ref q_142, .ref q_143, .ref q_144, .ref q_145] := hW.at m_138 t_139
        refine v_vv hC (rest := []) m_138 e_152 rfl mi_X0_takeFrom ms_X0_takeFrom (p_X0_takeFrom hW k_41 k_20) mx_X0_takeFrom ml_X11_350 (by decide) rfl (cells1 := 0) (slots1 := 0) (by decide) (by decide) (Nat.le_of_ble_eq_true rfl) (Nat.le_of_ble_eq_true rfl) rfl (Nat.le_of_ble_eq_true rfl) dX11_keep_44 (fun L_154 f_155 h_156 => ?_)
        obtain ⟨rfl, hW_157, hF_158⟩ := h_156
        have hf_159 := hF_158.at e_33 rfl
        have hf_160 := hF_158.at e_152 rfl
        refine v_iconst hC dX11_keep_47 (v := 0) (by decide) ?_
        exact hR _ _ _ _ _ _ _ dX11_keep_48 rfl (Nat.le_of_ble_eq_true rfl) (Nat.le_of_ble_eq_true rfl) ⟨(by simp only [Int32.lt_iff_toInt_lt, Int32.le_iff_toInt_le, Int32.reduceToInt, ← Int32.toInt_inj, true_and, and_true, or_true, true_or, false_or, or_false, false_and, and_false, not_true_eq_false, not_false_eq_true] <;> omega), T, hW_157, k_0, (fun b9 m9 c9 k9 e9 => ⟨m9, kfr (S := [1, 3, 4, 9, 10, 103, 112, 356, 400]) (hF_158.mono rfl) rfl rfl rfl k9 e9⟩)⟩
    · simp only [Int32.lt_iff_toInt_lt, Int32.le_iff_toInt_le, Int32.reduceToInt, ← Int32.toInt_inj] at h_2
      refine v_bipush hC dX11_keep_9 (v := (-2)) (by decide) ?_
      exact hR _ _ _ _ _ _ _ dX11_keep_11 rfl (Nat.le_of_ble_eq_true rfl) (Nat.le_of_ble_eq_true rfl) ⟨(by simp only [Int32.lt_iff_toInt_lt, Int32.le_iff_toInt_le, Int32.reduceToInt, ← Int32.toInt_inj, true_and, and_true, or_true, true_or, false_or, or_false, false_and, and_false, not_true_eq_false, not_false_eq_true] <;> omega), T, hW, k_0, (fun b9 m9 c9 k9 e9 => ⟨m9, e9⟩)⟩
