set_option maxRecDepth 100000 in
set_option maxHeartbeats 4000000 in
theorem a292_X4_takeFrom {l : Launch} {E : Ez} {L : List Nat} {f : Nat → va_E} {aa_0 aa_1 aa_2 aa_3 aa_4 aa_5 : Nat} (m_aa_1 : aa_1 ∈ L) (e_aa_1 : f aa_1 = ob 4 [.ref aa_4, .ref aa_5, .int 0, .int 0, .int 0]) (m_aa_0 : aa_0 ∈ L) (e_aa_0 : f aa_0 = ob 4 [.ref aa_2, .ref aa_3, .int 0, .int 0, .int 0]) (m_aa_4 : aa_4 ∈ L) (e_aa_4 : f aa_4 = aI E 256 (fun _ => 0)) (m_aa_2 : aa_2 ∈ L) (e_aa_2 : f aa_2 = aI E 256 (fun _ => 0)) (m_aa_5 : aa_5 ∈ L) (e_aa_5 : f aa_5 = aI E 256 (fun _ => 0)) (m_aa_3 : aa_3 ∈ L) (e_aa_3 : f aa_3 = aI E 256 (fun _ => 0)) : CV l yX4_takeFrom cX4_takeFrom 2 1 0 0 E [.ref aa_0, .ref aa_1] L f (fun L1 f1 => L = L1 ∧ f = f1) := by
  refine cv_of (by decide) (Nat.le_of_ble_eq_true rfl) (fun z hz hnm hC hR => ?_)
  have hC : Cx z E cX4_takeFrom RX4 2 1 0 0 := hC
  subst hz
  show V z E 2 0 0 L f 0 [(0, .ref aa_0), (1, .ref aa_1)] []
  refine v_aload_n hC dX4_takeFrom_0 rfl ?_
  refine v_get hC fl_X4_9 m_aa_1 e_aa_1 rfl dX4_takeFrom_1 ?_
  refine v_iconst hC dX4_takeFrom_4 (v := 0) (by decide) ?_
  refine v_aload_n hC dX4_takeFrom_5 rfl ?_
  refine v_get hC fl_X4_9 m_aa_0 e_aa_0 rfl dX4_takeFrom_6 ?_
  refine v_iconst hC dX4_takeFrom_9 (v := 0) (by decide) ?_
  refine v_sipush hC dX4_takeFrom_10 (v := 256) (by decide) ?_
  refine v_copyi hC mo_X4_45 cp_n cp_s cp_i m_aa_4 e_aa_4 m_aa_2 e_aa_2 (by decide) (by decide) (by decide) (by decide) (by decide) (by decide) (Nat.le_of_ble_eq_true rfl) dX4_takeFrom_13 (fun f_1 hf_2 hk_3 => ?_)
  rw [cpy_const] at hf_2
  obtain rfl : f = f_1 := (funext (noop e_aa_2 hf_2 hk_3)).symm
  refine v_aload_n hC dX4_takeFrom_16 rfl ?_
  refine v_get hC fl_X4_15 m_aa_1 e_aa_1 rfl dX4_takeFrom_17 ?_
  refine v_iconst hC dX4_takeFrom_20 (v := 0) (by decide) ?_
  refine v_aload_n hC dX4_takeFrom_21 rfl ?_
  refine v_get hC fl_X4_15 m_aa_0 e_aa_0 rfl dX4_takeFrom_22 ?_
  refine v_iconst hC dX4_takeFrom_25 (v := 0) (by decide) ?_
  refine v_sipush hC dX4_takeFrom_26 (v := 256) (by decide) ?_
  refine v_copyi hC mo_X4_45 cp_n cp_s cp_i m_aa_5 e_aa_5 m_aa_3 e_aa_3 (by decide) (by decide) (by decide) (by decide) (by decide) (by decide) (Nat.le_of_ble_eq_true rfl) dX4_takeFrom_29 (fun f_4 hf_5 hk_6 => ?_)
  rw [cpy_const] at hf_5
  obtain rfl : f = f_4 := (funext (noop e_aa_3 hf_5 hk_6)).symm
  refine v_aload_n hC dX4_takeFrom_32 rfl ?_
  refine v_aload_n hC dX4_takeFrom_33 rfl ?_
  refine v_get hC fl_X4_22 m_aa_1 e_aa_1 rfl dX4_takeFrom_34 ?_
  refine v_put hC fl_X4_22 m_aa_0 e_aa_0 rfl rfl (Nat.le_of_ble_eq_true rfl) (fs' := [.ref aa_2, .ref aa_3, .int 0, .int 0, .int 0]) rfl dX4_takeFrom_37 (fun f_7 hf_8 hk_9 => ?_)
  obtain rfl : f = f_7 := (funext (noop e_aa_0 hf_8 hk_9)).symm
  refine v_aload_n hC dX4_takeFrom_40 rfl ?_
  refine v_aload_n hC dX4_takeFrom_41 rfl ?_
  refine v_get hC fl_X4_18 m_aa_1 e_aa_1 rfl dX4_takeFrom_42 ?_
  refine v_put hC fl_X4_18 m_aa_0 e_aa_0 rfl rfl (Nat.le_of_ble_eq_true rfl) (fs' := [.ref aa_2, .ref aa_3, .int 0, .int 0, .int 0]) rfl dX4_takeFrom_45 (fun f_10 hf_11 hk_12 => ?_)
  obtain rfl : f = f_10 := (funext (noop e_aa_0 hf_11 hk_12)).symm
  refine v_aload_n hC dX4_takeFrom_48 rfl ?_
  refine v_aload_n hC dX4_takeFrom_49 rfl ?_
  refine v_get hC fl_X4_25 m_aa_1 e_aa_1 rfl dX4_takeFrom_50 ?_
  refine v_put hC fl_X4_25 m_aa_0 e_aa_0 rfl rfl (Nat.le_of_ble_eq_true rfl) (fs' := [.ref aa_2, .ref aa_3, .int 0, .int 0, .int 0]) rfl dX4_takeFrom_53 (fun f_13 hf_14 hk_15 => ?_)
  obtain rfl : f = f_13 := (funext (noop e_aa_0 hf_14 hk_15)).symm
  exact hR _ _ _ _ _ _ dX4_takeFrom_56 (Nat.le_of_ble_eq_true rfl) (Nat.le_of_ble_eq_true rfl) ⟨rfl, rfl⟩
set_option maxRecDepth 100000 in
set_option maxHeartbeats 4000000 in
theorem a294_X10_takeFrom {l : Launch} {E : Ez} {L : List Nat} {f : Nat → va_E} {aa_0 aa_1 : Nat} (m_aa_1 : aa_1 ∈ L) (e_aa_1 : f aa_1 = ob 10 [.int 0, .int 0, .int 1, .int 1, .int 1, .int 0, .int 0]) (m_aa_0 : aa_0 ∈ L) (e_aa_0 : f aa_0 = ob 10 [.int 0, .int 0, .int 1, .int 1, .int 1, .int 0, .int 0]) : CV l yX10_takeFrom cX10_takeFrom 2 0 0 0 E [.ref aa_0, .ref aa_1] L f (fun L1 f1 => L = L1 ∧ f = f1) := by
  refine cv_of (by decide) (Nat.le_of_ble_eq_true rfl) (fun z hz hnm hC hR => ?_)
  have hC : Cx z E cX10_takeFrom RX10 2 0 0 0 := hC
  subst hz
  show V z E 2 0 0 L f 0 [(0, .ref aa_0), (1, .ref aa_1)] []
  refine v_aload_n hC dX10_takeFrom_0 rfl ?_
  refine v_aload_n hC dX10_takeFrom_1 rfl ?_
  refine v_get hC fl_X10_21 m_aa_1 e_aa_1 rfl dX10_takeFrom_2 ?_
  refine v_put hC fl_X10_21 m_aa_0 e_aa_0 rfl rfl (Nat.le_of_ble_eq_true rfl) (fs' := [.int 0, .int 0, .int 1, .int 1, .int 1, .int 0, .int 0]) rfl dX10_takeFrom_5 (fun f_1 hf_2 hk_3 => ?_)
  obtain rfl : f = f_1 := (funext (noop e_aa_0 hf_2 hk_3)).symm
  refine v_aload_n hC dX10_takeFrom_8 rfl ?_
  refine v_aload_n hC dX10_takeFrom_9 rfl ?_
  refine v_get hC fl_X10_25 m_aa_1 e_aa_1 rfl dX10_takeFrom_10 ?_
  refine v_put hC fl_X10_25 m_aa_0 e_aa_0 rfl rfl (Nat.le_of_ble_eq_true rfl) (fs' := [.int 0, .int 0, .int 1, .int 1, .int 1, .int 0, .int 0]) rfl dX10_takeFrom_13 (fun f_4 hf_5 hk_6 => ?_)
  obtain rfl : f = f_4 := (funext (noop e_aa_0 hf_5 hk_6)).symm
  refine v_aload_n hC dX10_takeFrom_16 rfl ?_
  refine v_aload_n hC dX10_takeFrom_17 rfl ?_
  refine v_get hC fl_X10_9 m_aa_1 e_aa_1 rfl dX10_takeFrom_18 ?_
  refine v_put hC fl_X10_9 m_aa_0 e_aa_0 rfl rfl (Nat.le_of_ble_eq_true rfl) (fs' := [.int 0, .int 0, .int 1, .int 1, .int 1, .int 0, .int 0]) rfl dX10_takeFrom_21 (fun f_7 hf_8 hk_9 => ?_)
  obtain rfl : f = f_7 := (funext (noop e_aa_0 hf_8 hk_9)).symm
  refine v_aload_n hC dX10_takeFrom_24 rfl ?_
  refine v_aload_n hC dX10_takeFrom_25 rfl ?_
  refine v_get hC fl_X10_15 m_aa_1 e_aa_1 rfl dX10_takeFrom_26 ?_
  refine v_put hC fl_X10_15 m_aa_0 e_aa_0 rfl rfl (Nat.le_of_ble_eq_true rfl) (fs' := [.int 0, .int 0, .int 1, .int 1, .int 1, .int 0, .int 0]) rfl dX10_takeFrom_29 (fun f_10 hf_11 hk_12 => ?_)
  obtain rfl : f = f_10 := (funext (noop e_aa_0 hf_11 hk_12)).symm
  refine v_aload_n hC dX10_takeFrom_32 rfl ?_
  refine v_aload_n hC dX10_takeFrom_33 rfl ?_
  refine v_get hC fl_X10_18 m_aa_1 e_aa_1 rfl dX10_takeFrom_34 ?_
  refine v_put hC fl_X10_18 m_aa_0 e_aa_0 rfl rfl (Nat.le_of_ble_eq_true rfl) (fs' := [.int 0, .int 0, .int 1, .int 1, .int 1, .int 0, .int 0]) rfl dX10_takeFrom_37 (fun f_13 hf_14 hk_15 => ?_)
  obtain rfl : f = f_13 := (funext (noop e_aa_0 hf_14 hk_15)).symm
  refine v_aload_n hC dX10_takeFrom_40 rfl ?_
  refine v_aload_n hC dX10_takeFrom_41 rfl ?_
  refine v_get hC fl_X10_28 m_aa_1 e_aa_1 rfl dX10_takeFrom_42 ?_
  refine v_put hC fl_X10_28 m_aa_0 e_aa_0 rfl rfl (Nat.le_of_ble_eq_true rfl) (fs' := [.int 0, .int 0, .int 1, .int 1, .int 1, .int 0, .int 0]) rfl dX10_takeFrom_45 (fun f_16 hf_17 hk_18 => ?_)
  obtain rfl : f = f_16 := (funext (noop e_aa_0 hf_17 hk_18)).symm
  refine v_aload_n hC dX10_takeFrom_48 rfl ?_
  refine v_aload_n hC dX10_takeFrom_49 rfl ?_
  refine v_get hC fl_X10_31 m_aa_1 e_aa_1 rfl dX10_takeFrom_50 ?_
  refine v_put hC fl_X10_31 m_aa_0 e_aa_0 rfl rfl (Nat.le_of_ble_eq_true rfl) (fs' := [.int 0, .int 0, .int 1, .int 1, .int 1, .int 0, .int 0]) rfl dX10_takeFrom_53 (fun f_19 hf_20 hk_21 => ?_)
  obtain rfl : f = f_19 := (funext (noop e_aa_0 hf_20 hk_21)).symm
  exact hR _ _ _ _ _ _ dX10_takeFrom_56 (Nat.le_of_ble_eq_true rfl) (Nat.le_of_ble_eq_true rfl) ⟨rfl, rfl⟩
set_option maxRecDepth 100000 in
set_option maxHeartbeats 4000000 in
theorem a296_X1_takeFrom {l : Launch} {E : Ez} {L : List Nat} {f : Nat → va_E} {aa_0 aa_1 aa_2 aa_3 : Nat} (m_aa_1 : aa_1 ∈ L) (e_aa_1 : f aa_1 = ob 1 [.ref aa_3, .int 0]) (m_aa_0 : aa_0 ∈ L) (e_aa_0 : f aa_0 = ob 1 [.ref aa_2, .int 0]) (m_aa_3 : aa_3 ∈ L) (e_aa_3 : f aa_3 = aB E 256 (fun _ => 0)) (m_aa_2 : aa_2 ∈ L) (e_aa_2 : f aa_2 = aB E 256 (fun _ => 0)) : CV l yX1_takeFrom cX1_takeFrom 2 1 0 0 E [.ref aa_0, .ref aa_1] L f (fun L1 f1 => L = L1 ∧ f = f1) := by
  refine cv_of (by decide) (Nat.le_of_ble_eq_true rfl) (fun z hz hnm hC hR => ?_)
  have hC : Cx z E cX1_takeFrom RX1 2 1 0 0 := hC
  subst hz
  show V z E 2 0 0 L f 0 [(0, .ref aa_0), (1, .ref aa_1)] []
  refine v_aload_n hC dX1_takeFrom_0 rfl ?_
  refine v_get hC fl_X1_9 m_aa_1 e_aa_1 rfl dX1_takeFrom_1 ?_
  refine v_iconst hC dX1_takeFrom_4 (v := 0) (by decide) ?_
  refine v_aload_n hC dX1_takeFrom_5 rfl ?_
  refine v_get hC fl_X1_9 m_aa_0 e_aa_0 rfl dX1_takeFrom_6 ?_
  refine v_iconst hC dX1_takeFrom_9 (v := 0) (by decide) ?_
  refine v_sipush hC dX1_takeFrom_10 (v := 256) (by decide) ?_
  refine v_copyb hC mo_X1_15 cp_n cp_s cp_i m_aa_3 e_aa_3 m_aa_2 e_aa_2 (by decide) (by decide) (by decide) (by decide) (by decide) (fun _ => rfl) (by decide) (Nat.le_of_ble_eq_true rfl) dX1_takeFrom_13 (fun f_1 hf_2 hk_3 => ?_)
  rw [cpy_const] at hf_2
  obtain rfl : f = f_1 := (funext (noop e_aa_2 hf_2 hk_3)).symm
  refine v_aload_n hC dX1_takeFrom_16 rfl ?_
  refine v_aload_n hC dX1_takeFrom_17 rfl ?_
  refine v_get hC fl_X1_21 m_aa_1 e_aa_1 rfl dX1_takeFrom_18 ?_
  refine v_put hC fl_X1_21 m_aa_0 e_aa_0 rfl rfl (Nat.le_of_ble_eq_true rfl) (fs' := [.ref aa_2, .int 0]) rfl dX1_takeFrom_21 (fun f_4 hf_5 hk_6 => ?_)
  obtain rfl : f = f_4 := (funext (noop e_aa_0 hf_5 hk_6)).symm
  exact hR _ _ _ _ _ _ dX1_takeFrom_24 (Nat.le_of_ble_eq_true rfl) (Nat.le_of_ble_eq_true rfl) ⟨rfl, rfl⟩
set_option maxRecDepth 100000 in
set_option maxHeartbeats 4000000 in
theorem t_X0 {l : Launch} {E : Ez} {L : List Nat} {f : Nat → va_E} {b o : Nat} (hb : FB E b L f) (ho : FB E o L f) : CV l yX0_takeFrom cX0_takeFrom 3 2 0 0 E [.ref b, .ref o] L f (fun L1 f1 => L = L1 ∧ f = f1) := by
  refine cv_of (by decide) (Nat.le_of_ble_eq_true rfl) (fun z hz hnm hC hR => ?_)
  have hC : Cx z E cX0_takeFrom RX0 3 2 0 0 := hC
  subst hz
  show V z E 3 0 0 L f 0 [(0, .ref b), (1, .ref o)] []
  obtain ⟨bpa, bpas, bpaf, bsh, bwy, bwt, bwtc, blo, blok, blof, blos, bcl, bgwy, bgcl, ⟨bm_b, be_b⟩, ⟨bm_pa, be_pa⟩, ⟨bm_pas, be_pas⟩, ⟨bm_paf, be_paf⟩, ⟨bm_sh, be_sh⟩, ⟨bm_wy, be_wy⟩, ⟨bm_wt, be_wt⟩, ⟨bm_wtc, be_wtc⟩, ⟨bm_lo, be_lo⟩, ⟨bm_lok, be_lok⟩, ⟨bm_lof, be_lof⟩, ⟨bm_los, be_los⟩, ⟨bm_cl, be_cl⟩, bpwy, bpcl⟩ := hb
  obtain ⟨opa, opas, opaf, osh, owy, owt, owtc, olo, olok, olof, olos, ocl, ogwy, ogcl, ⟨om_b, oe_b⟩, ⟨om_pa, oe_pa⟩, ⟨om_pas, oe_pas⟩, ⟨om_paf, oe_paf⟩, ⟨om_sh, oe_sh⟩, ⟨om_wy, oe_wy⟩, ⟨om_wt, oe_wt⟩, ⟨om_wtc, oe_wtc⟩, ⟨om_lo, oe_lo⟩, ⟨om_lok, oe_lok⟩, ⟨om_lof, oe_lof⟩, ⟨om_los, oe_los⟩, ⟨om_cl, oe_cl⟩, opwy, opcl⟩ := ho
  refine v_aload_n hC dX0_takeFrom_0 rfl ?_
  refine v_get hC fl_X0_12 bm_b be_b rfl dX0_takeFrom_1 ?_
  refine v_aload_n hC dX0_takeFrom_4 rfl ?_
  refine v_get hC fl_X0_12 om_b oe_b rfl dX0_takeFrom_5 ?_
  refine v_vv hC (rest := []) bm_pa be_pa rfl mi_X4_takeFrom ms_X4_takeFrom (a292_X4_takeFrom om_pa oe_pa bm_pa be_pa om_pas oe_pas bm_pas be_pas om_paf oe_paf bm_paf be_paf) mx_X4_takeFrom ml_X0_50 (by decide) rfl (cells1 := 0) (slots1 := 0) (by decide) (by decide) (Nat.le_of_ble_eq_true rfl) (Nat.le_of_ble_eq_true rfl) rfl (Nat.le_of_ble_eq_true rfl) dX0_takeFrom_8 (fun L_2 f_3 h_4 => ?_)
  obtain ⟨rfl, rfl⟩ := h_4
  refine v_aload_n hC dX0_takeFrom_11 rfl ?_
  refine v_get hC fl_X0_18 om_b oe_b rfl dX0_takeFrom_12 ?_
  refine v_iconst hC dX0_takeFrom_15 (v := 0) (by decide) ?_
  refine v_aload_n hC dX0_takeFrom_16 rfl ?_
  refine v_get hC fl_X0_18 bm_b be_b rfl dX0_takeFrom_17 ?_
  refine v_iconst hC dX0_takeFrom_20 (v := 0) (by decide) ?_
  refine v_iconst hC dX0_takeFrom_21 (v := 3) (by decide) ?_
  refine v_copyi hC mo_X0_54 cp_n cp_s cp_i om_sh oe_sh bm_sh be_sh (by decide) (by decide) (by decide) (by decide) (by decide) (by decide) (Nat.le_of_ble_eq_true rfl) dX0_takeFrom_22 (fun f_5 hf_6 hk_7 => ?_)
  rw [cpy_const] at hf_6
  obtain rfl : f = f_5 := (funext (noop be_sh hf_6 hk_7)).symm
  refine v_iconst hC dX0_takeFrom_25 (v := 0) (by decide) ?_
  refine v_istore_n hC dX0_takeFrom_26 (by decide) (lv' := [(2, .int 0), (0, .ref b), (1, .ref o)]) rfl ?_
  refine v_iload_n hC dX0_takeFrom_27 rfl ?_
  refine v_bipush hC dX0_takeFrom_28 (v := 6) (by decide) ?_
  refine v_icmp_ge_f hC dX0_takeFrom_30 (tgt := 54) (by decide) (by decide) ?_
  refine v_aload_n hC dX0_takeFrom_33 rfl ?_
  refine v_get hC fl_X0_24 bm_b be_b rfl dX0_takeFrom_34 ?_
  refine v_iload_n hC dX0_takeFrom_37 rfl ?_
  obtain ⟨q_8, eg_9, m_10, e_11⟩ := bpwy 0 (by decide)
  refine v_aald hC bm_wy be_wy (t := 7) (Cn := "StitchSays$Way") rfl (by unfold vp_in; decide) (v := .ref q_8) (by rw [show ((0 : Int32).toNatClampNeg) = 0 from rfl, eg_9]; rfl) dX0_takeFrom_38 ?_
  refine v_aload_n hC dX0_takeFrom_39 rfl ?_
  refine v_get hC fl_X0_24 om_b oe_b rfl dX0_takeFrom_40 ?_
  refine v_iload_n hC dX0_takeFrom_43 rfl ?_
  obtain ⟨q_12, eg_13, m_14, e_15⟩ := opwy 0 (by decide)
  refine v_aald hC om_wy oe_wy (t := 7) (Cn := "StitchSays$Way") rfl (by unfold vp_in; decide) (v := .ref q_12) (by rw [show ((0 : Int32).toNatClampNeg) = 0 from rfl, eg_13]; rfl) dX0_takeFrom_44 ?_
  refine v_vv hC (rest := []) m_10 e_11 rfl mi_X10_takeFrom ms_X10_takeFrom (a294_X10_takeFrom m_14 e_15 m_10 e_11) mx_X10_takeFrom ml_X0_60 (by decide) rfl (cells1 := 0) (slots1 := 0) (by decide) (by decide) (Nat.le_of_ble_eq_true rfl) (Nat.le_of_ble_eq_true rfl) rfl (Nat.le_of_ble_eq_true rfl) dX0_takeFrom_45 (fun L_17 f_18 h_19 => ?_)
  obtain ⟨rfl, rfl⟩ := h_19
  refine v_iinc hC dX0_takeFrom_48 (k := 0) rfl (v := 1) (by decide) (by decide) (lv' := [(2, .int 1), (0, .ref b), (1, .ref o)]) rfl ?_
  refine v_goto hC dX0_takeFrom_51 (tgt := 27) (by decide) ?_
  refine v_iload_n hC dX0_takeFrom_27 rfl ?_
  refine v_bipush hC dX0_takeFrom_28 (v := 6) (by decide) ?_
  refine v_icmp_ge_f hC dX0_takeFrom_30 (tgt := 54) (by decide) (by decide) ?_
  refine v_aload_n hC dX0_takeFrom_33 rfl ?_
  refine v_get hC fl_X0_24 bm_b be_b rfl dX0_takeFrom_34 ?_
  refine v_iload_n hC dX0_takeFrom_37 rfl ?_
  obtain ⟨q_20, eg_21, m_22, e_23⟩ := bpwy 1 (by decide)
  refine v_aald hC bm_wy be_wy (t := 7) (Cn := "StitchSays$Way") rfl (by unfold vp_in; decide) (v := .ref q_20) (by rw [show ((1 : Int32).toNatClampNeg) = 1 from rfl, eg_21]; rfl) dX0_takeFrom_38 ?_
  refine v_aload_n hC dX0_takeFrom_39 rfl ?_
  refine v_get hC fl_X0_24 om_b oe_b rfl dX0_takeFrom_40 ?_
  refine v_iload_n hC dX0_takeFrom_43 rfl ?_
  obtain ⟨q_24, eg_25, m_26, e_27⟩ := opwy 1 (by decide)
  refine v_aald hC om_wy oe_wy (t := 7) (Cn := "StitchSays$Way") rfl (by unfold vp_in; decide) (v := .ref q_24) (by rw [show ((1 : Int32).toNatClampNeg) = 1 from rfl, eg_25]; rfl) dX0_takeFrom_44 ?_
  refine v_vv hC (rest := []) m_22 e_23 rfl mi_X10_takeFrom ms_X10_takeFrom (a294_X10_takeFrom m_26 e_27 m_22 e_23) mx_X10_takeFrom ml_X0_60 (by decide) rfl (cells1 := 0) (slots1 := 0) (by decide) (by decide) (Nat.le_of_ble_eq_true rfl) (Nat.le_of_ble_eq_true rfl) rfl (Nat.le_of_ble_eq_true rfl) dX0_takeFrom_45 (fun L_29 f_30 h_31 => ?_)
  obtain ⟨rfl, rfl⟩ := h_31
  refine v_iinc hC dX0_takeFrom_48 (k := 0) rfl (v := 2) (by decide) (by decide) (lv' := [(2, .int 2), (0, .ref b), (1, .ref o)]) rfl ?_
  refine v_goto hC dX0_takeFrom_51 (tgt := 27) (by decide) ?_
  refine v_iload_n hC dX0_takeFrom_27 rfl ?_
  refine v_bipush hC dX0_takeFrom_28 (v := 6) (by decide) ?_
  refine v_icmp_ge_f hC dX0_takeFrom_30 (tgt := 54) (by decide) (by decide) ?_
  refine v_aload_n hC dX0_takeFrom_33 rfl ?_
  refine v_get hC fl_X0_24 bm_b be_b rfl dX0_takeFrom_34 ?_
  refine v_iload_n hC dX0_takeFrom_37 rfl ?_
  obtain ⟨q_32, eg_33, m_34, e_35⟩ := bpwy 2 (by decide)
  refine v_aald hC bm_wy be_wy (t := 7) (Cn := "StitchSays$Way") rfl (by unfold vp_in; decide) (v := .ref q_32) (by rw [show ((2 : Int32).toNatClampNeg) = 2 from rfl, eg_33]; rfl) dX0_takeFrom_38 ?_
  refine v_aload_n hC dX0_takeFrom_39 rfl ?_
  refine v_get hC fl_X0_24 om_b oe_b rfl dX0_takeFrom_40 ?_
  refine v_iload_n hC dX0_takeFrom_43 rfl ?_
  obtain ⟨q_36, eg_37, m_38, e_39⟩ := opwy 2 (by decide)
  refine v_aald hC om_wy oe_wy (t := 7) (Cn := "StitchSays$Way") rfl (by unfold vp_in; decide) (v := .ref q_36) (by rw [show ((2 : Int32).toNatClampNeg) = 2 from rfl, eg_37]; rfl) dX0_takeFrom_44 ?_
  refine v_vv hC (rest := []) m_34 e_35 rfl mi_X10_takeFrom ms_X10_takeFrom (a294_X10_takeFrom m_38 e_39 m_34 e_35) mx_X10_takeFrom ml_X0_60 (by decide) rfl (cells1 := 0) (slots1 := 0) (by decide) (by decide) (Nat.le_of_ble_eq_true rfl) (Nat.le_of_ble_eq_true rfl) rfl (Nat.le_of_ble_eq_true rfl) dX0_takeFrom_45 (fun L_41 f_42 h_43 => ?_)
  obtain ⟨rfl, rfl⟩ := h_43
  refine v_iinc hC dX0_takeFrom_48 (k := 0) rfl (v := 3) (by decide) (by decide) (lv' := [(2, .int 3), (0, .ref b), (1, .ref o)]) rfl ?_
  refine v_goto hC dX0_takeFrom_51 (tgt := 27) (by decide) ?_
  refine v_iload_n hC dX0_takeFrom_27 rfl ?_
  refine v_bipush hC dX0_takeFrom_28 (v := 6) (by decide) ?_
  refine v_icmp_ge_f hC dX0_takeFrom_30 (tgt := 54) (by decide) (by decide) ?_
  refine v_aload_n hC dX0_takeFrom_33 rfl ?_
  refine v_get hC fl_X0_24 bm_b be_b rfl dX0_takeFrom_34 ?_
  refine v_iload_n hC dX0_takeFrom_37 rfl ?_
  obtain ⟨q_44, eg_45, m_46, e_47⟩ := bpwy 3 (by decide)
  refine v_aald hC bm_wy be_wy (t := 7) (Cn := "StitchSays$Way") rfl (by unfold vp_in; decide) (v := .ref q_44) (by rw [show ((3 : Int32).toNatClampNeg) = 3 from rfl, eg_45]; rfl) dX0_takeFrom_38 ?_
  refine v_aload_n hC dX0_takeFrom_39 rfl ?_
  refine v_get hC fl_X0_24 om_b oe_b rfl dX0_takeFrom_40 ?_
  refine v_iload_n hC dX0_takeFrom_43 rfl ?_
  obtain ⟨q_48, eg_49, m_50, e_51⟩ := opwy 3 (by decide)
  refine v_aald hC om_wy oe_wy (t := 7) (Cn := "StitchSays$Way") rfl (by unfold vp_in; decide) (v := .ref q_48) (by rw [show ((3 : Int32).toNatClampNeg) = 3 from rfl, eg_49]; rfl) dX0_takeFrom_44 ?_
  refine v_vv hC (rest := []) m_46 e_47 rfl mi_X10_takeFrom ms_X10_takeFrom (a294_X10_takeFrom m_50 e_51 m_46 e_47) mx_X10_takeFrom ml_X0_60 (by decide) rfl (cells1 := 0) (slots1 := 0) (by decide) (by decide) (Nat.le_of_ble_eq_true rfl) (Nat.le_of_ble_eq_true rfl) rfl (Nat.le_of_ble_eq_true rfl) dX0_takeFrom_45 (fun L_53 f_54 h_55 => ?_)
  obtain ⟨rfl, rfl⟩ := h_55
  refine v_iinc hC dX0_takeFrom_48 (k := 0) rfl (v := 4) (by decide) (by decide) (lv' := [(2, .int 4), (0, .ref b), (1, .ref o)]) rfl ?_
  refine v_goto hC dX0_takeFrom_51 (tgt := 27) (by decide) ?_
  refine v_iload_n hC dX0_takeFrom_27 rfl ?_
  refine v_bipush hC dX0_takeFrom_28 (v := 6) (by decide) ?_
  refine v_icmp_ge_f hC dX0_takeFrom_30 (tgt := 54) (by decide) (by decide) ?_
  refine v_aload_n hC dX0_takeFrom_33 rfl ?_
  refine v_get hC fl_X0_24 bm_b be_b rfl dX0_takeFrom_34 ?_
  refine v_iload_n hC dX0_takeFrom_37 rfl ?_
  obtain ⟨q_56, eg_57, m_58, e_59⟩ := bpwy 4 (by decide)
  refine v_aald hC bm_wy be_wy (t := 7) (Cn := "StitchSays$Way") rfl (by unfold vp_in; decide) (v := .ref q_56) (by rw [show ((4 : Int32).toNatClampNeg) = 4 from rfl, eg_57]; rfl) dX0_takeFrom_38 ?_
  refine v_aload_n hC dX0_takeFrom_39 rfl ?_
  refine v_get hC fl_X0_24 om_b oe_b rfl dX0_takeFrom_40 ?_
  refine v_iload_n hC dX0_takeFrom_43 rfl ?_
  obtain ⟨q_60, eg_61, m_62, e_63⟩ := opwy 4 (by decide)
  refine v_aald hC om_wy oe_wy (t := 7) (Cn := "StitchSays$Way") rfl (by unfold vp_in; decide) (v := .ref q_60) (by rw [show ((4 : Int32).toNatClampNeg) = 4 from rfl, eg_61]; rfl) dX0_takeFrom_44 ?_
  refine v_vv hC (rest := []) m_58 e_59 rfl mi_X10_takeFrom ms_X10_takeFrom (a294_X10_takeFrom m_62 e_63 m_58 e_59) mx_X10_takeFrom ml_X0_60 (by decide) rfl (cells1 := 0) (slots1 := 0) (by decide) (by decide) (Nat.le_of_ble_eq_true rfl) (Nat.le_of_ble_eq_true rfl) rfl (Nat.le_of_ble_eq_true rfl) dX0_takeFrom_45 (fun L_65 f_66 h_67 => ?_)
  obtain ⟨rfl, rfl⟩ := h_67
  refine v_iinc hC dX0_takeFrom_48 (k := 0) rfl (v := 5) (by decide) (by decide) (lv' := [(2, .int 5), (0, .ref b), (1, .ref o)]) rfl ?_
  refine v_goto hC dX0_takeFrom_51 (tgt := 27) (by decide) ?_
  refine v_iload_n hC dX0_takeFrom_27 rfl ?_
  refine v_bipush hC dX0_takeFrom_28 (v := 6) (by decide) ?_
  refine v_icmp_ge_f hC dX0_takeFrom_30 (tgt := 54) (by decide) (by decide) ?_
  refine v_aload_n hC dX0_takeFrom_33 rfl ?_
  refine v_get hC fl_X0_24 bm_b be_b rfl dX0_takeFrom_34 ?_
  refine v_iload_n hC dX0_takeFrom_37 rfl ?_
  obtain ⟨q_68, eg_69, m_70, e_71⟩ := bpwy 5 (by decide)
  refine v_aald hC bm_wy be_wy (t := 7) (Cn := "StitchSays$Way") rfl (by unfold vp_in; decide) (v := .ref q_68) (by rw [show ((5 : Int32).toNatClampNeg) = 5 from rfl, eg_69]; rfl) dX0_takeFrom_38 ?_
  refine v_aload_n hC dX0_takeFrom_39 rfl ?_
  refine v_get hC fl_X0_24 om_b oe_b rfl dX0_takeFrom_40 ?_
  refine v_iload_n hC dX0_takeFrom_43 rfl ?_
  obtain ⟨q_72, eg_73, m_74, e_75⟩ := opwy 5 (by decide)
  refine v_aald hC om_wy oe_wy (t := 7) (Cn := "StitchSays$Way") rfl (by unfold vp_in; decide) (v := .ref q_72) (by rw [show ((5 : Int32).toNatClampNeg) = 5 from rfl, eg_73]; rfl) dX0_takeFrom_44 ?_
  refine v_vv hC (rest := []) m_70 e_71 rfl mi_X10_takeFrom ms_X10_takeFrom (a294_X10_takeFrom m_74 e_75 m_70 e_71) mx_X10_takeFrom ml_X0_60 (by decide) rfl (cells1 := 0) (slots1 := 0) (by decide) (by decide) (Nat.le_of_ble_eq_true rfl) (Nat.le_of_ble_eq_true rfl) rfl (Nat.le_of_ble_eq_true rfl) dX0_takeFrom_45 (fun L_77 f_78 h_79 => ?_)
  obtain ⟨rfl, rfl⟩ := h_79
  refine v_iinc hC dX0_takeFrom_48 (k := 0) rfl (v := 6) (by decide) (by decide) (lv' := [(2, .int 6), (0, .ref b), (1, .ref o)]) rfl ?_
  refine v_goto hC dX0_takeFrom_51 (tgt := 27) (by decide) ?_
  refine v_iload_n hC dX0_takeFrom_27 rfl ?_
  refine v_bipush hC dX0_takeFrom_28 (v := 6) (by decide) ?_
  refine v_icmp_ge_t hC dX0_takeFrom_30 (tgt := 54) (by decide) (by decide) ?_
  refine v_aload_n hC dX0_takeFrom_54 rfl ?_
  refine v_get hC fl_X0_31 bm_b be_b rfl dX0_takeFrom_55 ?_
  refine v_aload_n hC dX0_takeFrom_58 rfl ?_
  refine v_get hC fl_X0_31 om_b oe_b rfl dX0_takeFrom_59 ?_
  refine v_vv hC (rest := []) bm_wt be_wt rfl mi_X9_takeFrom ms_X9_takeFrom (a145_X9_takeFrom om_wt oe_wt bm_wt be_wt om_wtc oe_wtc bm_wtc be_wtc) mx_X9_takeFrom ml_X0_63 (by decide) rfl (cells1 := 0) (slots1 := 0) (by decide) (by decide) (Nat.le_of_ble_eq_true rfl) (Nat.le_of_ble_eq_true rfl) rfl (Nat.le_of_ble_eq_true rfl) dX0_takeFrom_62 (fun L_81 f_82 h_83 => ?_)
  obtain ⟨rfl, rfl⟩ := h_83
  refine v_aload_n hC dX0_takeFrom_65 rfl ?_
  refine v_get hC fl_X0_38 bm_b be_b rfl dX0_takeFrom_66 ?_
  refine v_aload_n hC dX0_takeFrom_69 rfl ?_
  refine v_get hC fl_X0_38 om_b oe_b rfl dX0_takeFrom_70 ?_
  refine v_vv hC (rest := []) bm_lo be_lo rfl mi_X3_takeFrom ms_X3_takeFrom (a150_X3_takeFrom om_lo oe_lo bm_lo be_lo om_lok oe_lok bm_lok be_lok om_lof oe_lof bm_lof be_lof om_los oe_los bm_los be_los) mx_X3_takeFrom ml_X0_66 (by decide) rfl (cells1 := 0) (slots1 := 0) (by decide) (by decide) (Nat.le_of_ble_eq_true rfl) (Nat.le_of_ble_eq_true rfl) rfl (Nat.le_of_ble_eq_true rfl) dX0_takeFrom_73 (fun L_85 f_86 h_87 => ?_)
  obtain ⟨rfl, rfl⟩ := h_87
  refine v_iconst hC dX0_takeFrom_76 (v := 0) (by decide) ?_
  refine v_istore_n hC dX0_takeFrom_77 (by decide) (lv' := [(2, .int 0), (0, .ref b), (1, .ref o)]) rfl ?_
  refine v_iload_n hC dX0_takeFrom_78 rfl ?_
  refine v_iconst hC dX0_takeFrom_79 (v := 4) (by decide) ?_
  refine v_icmp_ge_f hC dX0_takeFrom_80 (tgt := 104) (by decide) (by decide) ?_
  refine v_aload_n hC dX0_takeFrom_83 rfl ?_
  refine v_get hC fl_X0_44 bm_b be_b rfl dX0_takeFrom_84 ?_
  refine v_iload_n hC dX0_takeFrom_87 rfl ?_
  obtain ⟨q_88, s_92, eg_89, ⟨m_90, e_91⟩, m_93, e_94⟩ := bpcl 0 (by decide)
  refine v_aald hC bm_cl be_cl (t := 5) (Cn := "StitchSays$Cloth") rfl (by unfold vp_in; decide) (v := .ref q_88) (by rw [show ((0 : Int32).toNatClampNeg) = 0 from rfl, eg_89]; rfl) dX0_takeFrom_88 ?_
  refine v_aload_n hC dX0_takeFrom_89 rfl ?_
  refine v_get hC fl_X0_44 om_b oe_b rfl dX0_takeFrom_90 ?_
  refine v_iload_n hC dX0_takeFrom_93 rfl ?_
  obtain ⟨q_95, s_99, eg_96, ⟨m_97, e_98⟩, m_100, e_101⟩ := opcl 0 (by decide)
  refine v_aald hC om_cl oe_cl (t := 5) (Cn := "StitchSays$Cloth") rfl (by unfold vp_in; decide) (v := .ref q_95) (by rw [show ((0 : Int32).toNatClampNeg) = 0 from rfl, eg_96]; rfl) dX0_takeFrom_94 ?_
  refine v_vv hC (rest := []) m_90 e_91 rfl mi_X1_takeFrom ms_X1_takeFrom (a296_X1_takeFrom m_97 e_98 m_90 e_91 m_100 e_101 m_93 e_94) mx_X1_takeFrom ml_X0_69 (by decide) rfl (cells1 := 0) (slots1 := 0) (by decide) (by decide) (Nat.le_of_ble_eq_true rfl) (Nat.le_of_ble_eq_true rfl) rfl (Nat.le_of_ble_eq_true rfl) dX0_takeFrom_95 (fun L_103 f_104 h_105 => ?_)
  obtain ⟨rfl, rfl⟩ := h_105
  refine v_iinc hC dX0_takeFrom_98 (k := 0) rfl (v := 1) (by decide) (by decide) (lv' := [(2, .int 1), (0, .ref b), (1, .ref o)]) rfl ?_
  refine v_goto hC dX0_takeFrom_101 (tgt := 78) (by decide) ?_
  refine v_iload_n hC dX0_takeFrom_78 rfl ?_
  refine v_iconst hC dX0_takeFrom_79 (v := 4) (by decide) ?_
  refine v_icmp_ge_f hC dX0_takeFrom_80 (tgt := 104) (by decide) (by decide) ?_
  refine v_aload_n hC dX0_takeFrom_83 rfl ?_
  refine v_get hC fl_X0_44 bm_b be_b rfl dX0_takeFrom_84 ?_
  refine v_iload_n hC dX0_takeFrom_87 rfl ?_
  obtain ⟨q_106, s_110, eg_107, ⟨m_108, e_109⟩, m_111, e_112⟩ := bpcl 1 (by decide)
  refine v_aald hC bm_cl be_cl (t := 5) (Cn := "StitchSays$Cloth") rfl (by unfold vp_in; decide) (v := .ref q_106) (by rw [show ((1 : Int32).toNatClampNeg) = 1 from rfl, eg_107]; rfl) dX0_takeFrom_88 ?_
  refine v_aload_n hC dX0_takeFrom_89 rfl ?_
  refine v_get hC fl_X0_44 om_b oe_b rfl dX0_takeFrom_90 ?_
  refine v_iload_n hC dX0_takeFrom_93 rfl ?_
  obtain ⟨q_113, s_117, eg_114, ⟨m_115, e_116⟩, m_118, e_119⟩ := opcl 1 (by decide)
  refine v_aald hC om_cl oe_cl (t := 5) (Cn := "StitchSays$Cloth") rfl (by unfold vp_in; decide) (v := .ref q_113) (by rw [show ((1 : Int32).toNatClampNeg) = 1 from rfl, eg_114]; rfl) dX0_takeFrom_94 ?_
  refine v_vv hC (rest := []) m_108 e_109 rfl mi_X1_takeFrom ms_X1_takeFrom (a296_X1_takeFrom m_115 e_116 m_108 e_109 m_118 e_119 m_111 e_112) mx_X1_takeFrom ml_X0_69 (by decide) rfl (cells1 := 0) (slots1 := 0) (by decide) (by decide) (Nat.le_of_ble_eq_true rfl) (Nat.le_of_ble_eq_true rfl) rfl (Nat.le_of_ble_eq_true rfl) dX0_takeFrom_95 (fun L_121 f_122 h_123 => ?_)
  obtain ⟨rfl, rfl⟩ := h_123
  refine v_iinc hC dX0_takeFrom_98 (k := 0) rfl (v := 2) (by decide) (by decide) (lv' := [(2, .int 2), (0, .ref b), (1, .ref o)]) rfl ?_
  refine v_goto hC dX0_takeFrom_101 (tgt := 78) (by decide) ?_
  refine v_iload_n hC dX0_takeFrom_78 rfl ?_
  refine v_iconst hC dX0_takeFrom_79 (v := 4) (by decide) ?_
  refine v_icmp_ge_f hC dX0_takeFrom_80 (tgt := 104) (by decide) (by decide) ?_
  refine v_aload_n hC dX0_takeFrom_83 rfl ?_
  refine v_get hC fl_X0_44 bm_b be_b rfl dX0_takeFrom_84 ?_
  refine v_iload_n hC dX0_takeFrom_87 rfl ?_
  obtain ⟨q_124, s_128, eg_125, ⟨m_126, e_127⟩, m_129, e_130⟩ := bpcl 2 (by decide)
  refine v_aald hC bm_cl be_cl (t := 5) (Cn := "StitchSays$Cloth") rfl (by unfold vp_in; decide) (v := .ref q_124) (by rw [show ((2 : Int32).toNatClampNeg) = 2 from rfl, eg_125]; rfl) dX0_takeFrom_88 ?_
  refine v_aload_n hC dX0_takeFrom_89 rfl ?_
  refine v_get hC fl_X0_44 om_b oe_b rfl dX0_takeFrom_90 ?_
  refine v_iload_n hC dX0_takeFrom_93 rfl ?_
  obtain ⟨q_131, s_135, eg_132, ⟨m_133, e_134⟩, m_136, e_137⟩ := opcl 2 (by decide)
  refine v_aald hC om_cl oe_cl (t := 5) (Cn := "StitchSays$Cloth") rfl (by unfold vp_in; decide) (v := .ref q_131) (by rw [show ((2 : Int32).toNatClampNeg) = 2 from rfl, eg_132]; rfl) dX0_takeFrom_94 ?_
  refine v_vv hC (rest := []) m_126 e_127 rfl mi_X1_takeFrom ms_X1_takeFrom (a296_X1_takeFrom m_133 e_134 m_126 e_127 m_136 e_137 m_129 e_130) mx_X1_takeFrom ml_X0_69 (by decide) rfl (cells1 := 0) (slots1 := 0) (by decide) (by decide) (Nat.le_of_ble_eq_true rfl) (Nat.le_of_ble_eq_true rfl) rfl (Nat.le_of_ble_eq_true rfl) dX0_takeFrom_95 (fun L_139 f_140 h_141 => ?_)
  obtain ⟨rfl, rfl⟩ := h_141
  refine v_iinc hC dX0_takeFrom_98 (k := 0) rfl (v := 3) (by decide) (by decide) (lv' := [(2, .int 3), (0, .ref b), (1, .ref o)]) rfl ?_
  refine v_goto hC dX0_takeFrom_101 (tgt := 78) (by decide) ?_
  refine v_iload_n hC dX0_takeFrom_78 rfl ?_
  refine v_iconst hC dX0_takeFrom_79 (v := 4) (by decide) ?_
  refine v_icmp_ge_f hC dX0_takeFrom_80 (tgt := 104) (by decide) (by decide) ?_
  refine v_aload_n hC dX0_takeFrom_83 rfl ?_
  refine v_get hC fl_X0_44 bm_b be_b rfl dX0_takeFrom_84 ?_
  refine v_iload_n hC dX0_takeFrom_87 rfl ?_
  obtain ⟨q_142, s_146, eg_143, ⟨m_144, e_145⟩, m_147, e_148⟩ := bpcl 3 (by decide)
  refine v_aald hC bm_cl be_cl (t := 5) (Cn := "StitchSays$Cloth") rfl (by unfold vp_in; decide) (v := .ref q_142) (by rw [show ((3 : Int32).toNatClampNeg) = 3 from rfl, eg_143]; rfl) dX0_takeFrom_88 ?_
  refine v_aload_n hC dX0_takeFrom_89 rfl ?_
  refine v_get hC fl_X0_44 om_b oe_b rfl dX0_takeFrom_90 ?_
  refine v_iload_n hC dX0_takeFrom_93 rfl ?_
  obtain ⟨q_149, s_153, eg_150, ⟨m_151, e_152⟩, m_154, e_155⟩ := opcl 3 (by decide)
  refine v_aald hC om_cl oe_cl (t := 5) (Cn := "StitchSays$Cloth") rfl (by unfold vp_in; decide) (v := .ref q_149) (by rw [show ((3 : Int32).toNatClampNeg) = 3 from rfl, eg_150]; rfl) dX0_takeFrom_94 ?_
  refine v_vv hC (rest := []) m_144 e_145 rfl mi_X1_takeFrom ms_X1_takeFrom (a296_X1_takeFrom m_151 e_152 m_144 e_145 m_154 e_155 m_147 e_148) mx_X1_takeFrom ml_X0_69 (by decide) rfl (cells1 := 0) (slots1 := 0) (by decide) (by decide) (Nat.le_of_ble_eq_true rfl) (Nat.le_of_ble_eq_true rfl) rfl (Nat.le_of_ble_eq_true rfl) dX0_takeFrom_95 (fun L_157 f_158 h_159 => ?_)
  obtain ⟨rfl, rfl⟩ := h_159
  refine v_iinc hC dX0_takeFrom_98 (k := 0) rfl (v := 4) (by decide) (by decide) (lv' := [(2, .int 4), (0, .ref b), (1, .ref o)]) rfl ?_
  refine v_goto hC dX0_takeFrom_101 (tgt := 78) (by decide) ?_
  refine v_iload_n hC dX0_takeFrom_78 rfl ?_
  refine v_iconst hC dX0_takeFrom_79 (v := 4) (by decide) ?_
  refine v_icmp_ge_t hC dX0_takeFrom_80 (tgt := 104) (by decide) (by decide) ?_
  exact hR _ _ _ _ _ _ dX0_takeFrom_104 (Nat.le_of_ble_eq_true rfl) (Nat.le_of_ble_eq_true rfl) ⟨rfl, rfl⟩
set_option maxRecDepth 100000 in
set_option maxHeartbeats 4000000 in
theorem x_keep {l : Launch} {E : Ez} {L : List Nat} {f : Nat → va_E} {he im la nl now np ns nw nwa sl t ta tr wa x : Nat} {k : Int32} (m_x : x ∈ L) (e_x : f x = ob 11 [.ref t, .ref now, .ref im, .ref la, .ref sl, .ref np, .ref ns, .ref nw, .ref nwa, .ref nl, .ref he, .ref wa, .ref tr, .ref ta]) (m_im : im ∈ L) (e_im : f im = aR E 4 3 (fun _ => none)) (hB : FB E now L f) : CI l yX11_keep cX11_keep 2 .int 3 27 1953 E [.ref x, .int k] L f (fun r L1 f1 => sp_keep k = r) := by
  refine ci_of (by decide) (Nat.le_of_ble_eq_true rfl) (fun z hz hnm hC hR => ?_)
  have hC : Cx z E cX11_keep RX11 2 3 27 1953 := hC
  subst hz
  show V z E 2 0 0 L f 0 [(0, .ref x), (1, .int k)] []
  refine v_iload_n hC dX11_keep_0 rfl ?_
  refine v_if_lt hC dX11_keep_1 (tgt := 9) (by decide) (fun h_1 => ?_) (fun h_1 => ?_)
  · refine v_bipush hC dX11_keep_9 (v := (-2)) (by decide) ?_
    exact hR _ _ _ _ _ _ _ dX11_keep_11 rfl (Nat.le_of_ble_eq_true rfl) (Nat.le_of_ble_eq_true rfl) (by unfold sp_keep; simp only [Int32.lt_iff_toInt_lt, Int32.le_iff_toInt_le, Int32.reduceToInt, ← Int32.toInt_inj] at h_1 ⊢; first | omega | (split <;> first | rfl | (exfalso; omega)))
  · refine v_iload_n hC dX11_keep_4 rfl ?_
    refine v_iconst hC dX11_keep_5 (v := 3) (by decide) ?_
    refine v_icmp_lt hC dX11_keep_6 (tgt := 12) (by decide) (fun h_2 => ?_) (fun h_2 => ?_)
    · refine v_aload_n hC dX11_keep_12 rfl ?_
      refine v_get hC fl_X11_23 m_x e_x rfl dX11_keep_13 ?_
      refine v_iload_n hC dX11_keep_16 rfl ?_
      have hin17 : vp_in k 3 := vp_in_iff.mpr (by simp only [Int32.lt_iff_toInt_lt, Int32.le_iff_toInt_le, Int32.reduceToInt, ← Int32.toInt_inj] at h_1 h_2 ⊢; first | omega | (split <;> first | rfl | (exfalso; omega)))
      refine v_aald hC m_im e_im (t := 4) (Cn := "StitchSays$Basket") rfl hin17 (v := .null) rfl dX11_keep_17 ?_
      refine v_ifnonnullN hC dX11_keep_18 ?_
      refine v_aload_n hC dX11_keep_21 rfl ?_
      refine v_get hC fl_X11_23 m_x e_x rfl dX11_keep_22 ?_
      refine v_iload_n hC dX11_keep_25 rfl ?_
      refine v_new hC (ci := 0) (fs := [.null, .null, .null, .null, .null, .null]) rfl inX0 tyX0_ok kl_X11_16 in_X0 ii_X0 (fun j hj => by rcases (show j = 0 ∨ j = 1 ∨ j = 2 ∨ j = 3 ∨ j = 4 ∨ j = 5 by omega) with rfl | rfl | rfl | rfl | rfl | rfl <;> rfl) (Nat.le_of_ble_eq_true rfl) (Nat.le_of_ble_eq_true rfl) dX11_keep_26 (fun q_3 f_4 hq_5 hf_6 hk_7 => ?_)
      obtain ⟨L_10, hs_9⟩ : ∃ L9, L9 = L ++ [q_3] := ⟨_, rfl⟩
      rw [← hs_9]
      have hm_8 : q_3 ∈ L_10 := by rw [hs_9]; exact List.mem_append_right _ List.mem_cons_self
      have hm_12 : x ∈ L_10 := by rw [hs_9]; exact List.mem_append_left _ m_x
      have hf_11 := (hk_7 x (ne_in m_x hq_5)).trans e_x
      have hm_14 : im ∈ L_10 := by rw [hs_9]; exact List.mem_append_left _ m_im
      have hf_13 := (hk_7 im (ne_in m_im hq_5)).trans e_im
      refine v_widen (k := 1) (n := 6) (Nat.le_of_ble_eq_true rfl) (Nat.le_of_ble_eq_true rfl) ?_
      refine v_dup hC dX11_keep_29 rfl ?_
      refine v_xv hC (rest := [.ref q_3, .int k, .ref im]) rfl mi_X0_init (k_X0 hm_8 hf_6) mx_X0_init ml_X11_18 (by decide) rfl (cells1 := 27) (slots1 := 1953) (by decide) (by decide) (Nat.le_of_ble_eq_true rfl) (Nat.le_of_ble_eq_true rfl) rfl (Nat.le_of_ble_eq_true rfl) dX11_keep_30 (fun L_16 f_17 h_18 => ?_)
      obtain ⟨hk_19, hB_20⟩ := h_18
      have hx_23 := hk_19 x hm_12 (ne_in m_x hq_5)
      have hm_21 := hx_23.1
      have hf_22 := hx_23.2.trans hf_11
      have hx_26 := hk_19 im hm_14 (ne_in m_im hq_5)
      have hm_24 := hx_26.1
      have hf_25 := hx_26.2.trans hf_13
      obtain ⟨mq9, v1, v2, v3, v4, v5, v6, eq9⟩ := hB_20.obj
      refine v_aast hC (r := (RX0, TX0, 6)) hm_24 hf_25 (t := 4) rfl mq9 eq9 rfl hin17 dX11_keep_33 (fun f_27 hf_28 hk_29 => ?_)
      have hf_30 := (hk_29 x (ne_kd hf_22 hf_25 rfl)).trans hf_22
      have hk_31 : ∀ b ∈ L, kd2 (f b) ≠ 40003 → b ∈ L_16 ∧ f_27 b = f b := by
        intro b hb0 hn0
        have e1 := hk_7 b (ne_in hb0 hq_5)
        have b1 : b ∈ L_10 := by rw [hs_9]; exact List.mem_append_left _ hb0
        have c1 := e1
        have e2 := (hk_19 b b1 (ne_in hb0 hq_5)).2
        have b2 := (hk_19 b b1 (ne_in hb0 hq_5)).1
        have c2 := e2.trans c1
        have e3 := hk_29 b (fun e => hn0 (by rw [← c2, e, hf_25]; rfl))
        have c3 := e3.trans c2
        exact ⟨b2, c3⟩
      have hk_32 : ∀ b ∈ L_16, kd2 (f_17 b) ≠ 40003 → b ∈ L_16 ∧ f_27 b = f_17 b := by
        intro b hb0 hn0
        have e1 := hk_29 b (fun e => hn0 (by rw [e, hf_25]; rfl))
        have c1 := e1
        exact ⟨hb0, c1⟩
      have hBn := hB.keep2 hk_31
      have hBq := hB_20.keep2 hk_32
      obtain ⟨mq8, w1, w2, w3, w4, w5, w6, eq8⟩ := hBq.obj
      refine v_aload_n hC dX11_keep_34 rfl ?_
      refine v_get hC fl_X11_23 hm_21 hf_30 rfl dX11_keep_35 ?_
      refine v_iload_n hC dX11_keep_38 rfl ?_
      refine v_aald hC hm_24 hf_28 (t := 4) (Cn := "StitchSays$Basket") rfl hin17 (v := .ref q_3) (by simp [va_up, va_rf]) dX11_keep_39 ?_
      refine v_aload_n hC dX11_keep_40 rfl ?_
      refine v_get hC fl_X11_19 hm_21 hf_30 rfl dX11_keep_41 ?_
      refine v_vv hC (rest := []) mq8 eq8 rfl mi_X0_takeFrom ms_X0_takeFrom (t_X0 hBq hBn) mx_X0_takeFrom ml_X11_350 (by decide) rfl (cells1 := 27) (slots1 := 1953) (by decide) (by decide) (Nat.le_of_ble_eq_true rfl) (Nat.le_of_ble_eq_true rfl) rfl (Nat.le_of_ble_eq_true rfl) dX11_keep_44 (fun L_34 f_35 h_36 => ?_)
      obtain ⟨rfl, rfl⟩ := h_36
      refine v_iconst hC dX11_keep_47 (v := 0) (by decide) ?_
      exact hR _ _ _ _ _ _ _ dX11_keep_48 rfl (Nat.le_of_ble_eq_true rfl) (Nat.le_of_ble_eq_true rfl) (by unfold sp_keep; simp only [Int32.lt_iff_toInt_lt, Int32.le_iff_toInt_le, Int32.reduceToInt, ← Int32.toInt_inj] at h_1 h_2 ⊢; first | omega | (split <;> first | rfl | (exfalso; omega)))
    · refine v_bipush hC dX11_keep_9 (v := (-2)) (by decide) ?_
      exact hR _ _ _ _ _ _ _ dX11_keep_11 rfl (Nat.le_of_ble_eq_true rfl) (Nat.le_of_ble_eq_true rfl) (by unfold sp_keep; simp only [Int32.lt_iff_toInt_lt, Int32.le_iff_toInt_le, Int32.reduceToInt, ← Int32.toInt_inj] at h_1 h_2 ⊢; first | omega | (split <;> first | rfl | (exfalso; omega)))
